theorem fGr.cgI {n n1 : Nat × Nat × Nat} {R R1 : Nat → Nat → Option Nat} {I I1 : Nat → Nat → Int32} {J J1 : Nat → Nat → Int64} {q : Nat} {D : fSD} (h : fGr (n, R, I, J) q D) (e : ∀ i, i < 6 → I (q + i) = I1 (q + i)) : fGr (n1, R1, I1, J1) q D := by
  have e0 : I q = I1 q := e 0 (by omega)
  have e1 := e 1 (by omega)
  have e2 := e 2 (by omega)
  have e3 := e 3 (by omega)
  have e4 := e 4 (by omega)
  have e5 := e 5 (by omega)
  unfold fGr at h ⊢
  dsimp only [fI] at h ⊢
  rw [e0, e1, e2, e3, e4, e5] at h
  exact h
theorem fZ.oR {R : Nat → Nat → Option Nat} {I : Nat → Nat → Int32} {J : Nat → Nat → Int64} {n k q : Nat} (h : fZ n R I J) (hk : k + 20 < n) : fZ n (oRf R k q) I J := fun a ha j => ⟨by rw [oRf_o (by omega)]; exact (h a ha j).1, (h a ha j).2⟩
def xRf (R : Nat → Nat → Option Nat) : Nat → Nat → Option Nat := fup (dRf (fup (yRf (fup (dRf (fup (yRf (fup (dRf (fup (yRf (fup (tRf (fup (oRf (fup (fup (fup (dRf (fup (yRf (fup (yRf (fup (rRf (fup (gRf (fup R 0 0 (some 1)) 2) 0 3 (some 2)) 8 1) 0 4 (some 8)) 15 2) 0 5 (some 15)) 22 2) 0 6 (some 22)) 29) 0 7 (some 29)) 0 8 (some 32)) 0 9 (some 33)) 34 2) 0 11 (some 34)) 55) 0 12 (some 55)) 59 2) 32 0 (some 59)) 66) 33 0 (some 66)) 69 2) 32 1 (some 69)) 76) 33 1 (some 76)) 79 2) 32 2 (some 79)) 86) 33 2 (some 86)
set_option maxRecDepth 20000 in
theorem t_X9_init {g : fGP} {d : Nat} {Q : fRes → fAH → Prop} {R : Nat → Nat → Option Nat} {I : Nat → Nat → Int32} {J : Nat → Nat → Int64} (hsh : ∀ (k : Nat) {x : Nat ⊕ (Nat × Nat)}, fshp k = x → gsh g k = x) (z0 : fZ 0 R I J) (h : ∀ I' J', (∀ a, ¬ (a = 0 ∨ (2 ≤ a ∧ a < 15)) → I' a = I a ∧ J' a = J a) → (∀ j, I' 0 j = if j = 2 then -1 else 0) → (∀ j, J' 0 j = 0) → fGr ((89, 0, 3391), xRf R, I', J') 2 D0 → Q (.inl none) ((89, 0, 3391), xRf R, I', J')) : fEv g (d + 4) mX9_init 0 (fent [.ref 0] 2) [] ((1, 0, 17), R, I, J) Q := by
  show fEv g (d + 4) mX9_init 0 [some (.ref 0), none] [] ((1, 0, 17), R, I, J) Q
  have z := z0.to (m := 1) (by omega)
  refine e_aload_n dX9_init_0 rfl rfl ?_
  refine e_objInit dX9_init_1 ml_RX9_3 w_obj (Nat.le_of_ble_eq_true rfl) ?_
  refine e_aload_n dX9_init_4 rfl rfl ?_
  refine e_sipush (nI 600) dX9_init_5 (by decide) ?_
  refine n_newarr (t := 1) (N := 600) (2) (617) dX9_init_8 rfl (by decide) ac_1 rfl (by decide) z (hsh 1 rfl) (by omega) (by omega) (by omega) (by omega) ?_
  have z_1 := z.to (m := 2) (by omega)
  refine n_putR dX9_init_10 fl_RX9_9 (hsh 0 rfl) (by omega) rfl rfl rfl ff_RX9_9 rfl (by unfold fscr; omega) ?_
  have z_2 := z_1.up (k := 0) (j := 0) (v := some (1)) (by omega)
  refine e_aload_n dX9_init_13 rfl rfl ?_
  refine e_iconst (nI 0) dX9_init_14 (by decide) ?_
  refine n_putI0 dX9_init_15 fl_RX9_13 (hsh 0 rfl) (by omega) rfl rfl (z0 0 (Nat.zero_le _) 1).2.1 ?_
  refine e_aload_n dX9_init_18 rfl rfl ?_
  refine e_iconst (-1) dX9_init_19 (by decide) ?_
  refine n_putI dX9_init_20 fl_RX9_17 (hsh 0 rfl) (by omega) rfl rfl ?_
  have z_3 := z_2.ij (I' := (fup I 0 2 ((-1)))) (J' := J) (fun a ha => ⟨funext (fun i => fup_o (by omega)), rfl⟩)
  refine e_aload_n dX9_init_23 rfl rfl ?_
  refine n_new (c9 := 2) (3) (629) dX9_init_24 nw_RX9_20 (by decide) z_3 (hsh 2 rfl) (by omega) (show 617 + 12 ≤ 7293034 by omega) (by omega) (show 629 = 617 + 12 by omega) ?_
  have z_4 := z_3.to (m := 3) (by omega)
  refine e_dup dX9_init_27 rfl ?_
  refine e_callI (k := 2) [] dX9_init_28 cc_X3_init rfl lk_RX9_22 im_X3_init rfl rfl (Nat.le_of_ble_eq_true rfl) (Nat.le_of_ble_eq_true rfl) ?_
  refine t_X3_init (k := 2) z_3 ⟨hsh 2 rfl, hsh 3 rfl, hsh 4 rfl, hsh 5 rfl, hsh 6 rfl, hsh 7 rfl⟩ (by omega) (by omega) (fun I1 J1 e1 Gr1 => fK_v ?_)
  have z_5 := (z_4.to (m := 8) (by omega)).gR (q := 2) (by omega)
  have z_6 := z_5.ij (I' := I1) (J' := J1) (fun a ha => e1 a (by unfold fGA; omega))
  show fEv g _ mX9_init 31 [some (.ref 0), none] [.ref 2, .ref 0] ((8, 0, 1109), gRf (fup R 0 0 (some 1)) 2, I1, J1) Q
  refine n_putR dX9_init_31 fl_RX9_23 (hsh 0 rfl) (by omega) rfl rfl rfl ff_RX9_23 rfl (by unfold fscr; omega) ?_
  have z_7 := z_6.up (k := 0) (j := 3) (v := some (2)) (by omega)
  refine e_aload_n dX9_init_34 rfl rfl ?_
  refine n_new (c9 := 4) (9) (1116) dX9_init_35 nw_RX9_27 (by decide) z_7 (hsh 8 rfl) (by omega) (show 1109 + 7 ≤ 7293034 by omega) (by omega) (show 1116 = 1109 + 7 by omega) ?_
  have z_8 := z_7.to (m := 9) (by omega)
  refine e_dup dX9_init_38 rfl ?_
  refine e_aload_n dX9_init_39 rfl rfl ?_
  refine e_getR (q := 1) dX9_init_40 fl_RX9_9 (hsh 0 rfl) (show 0 < 9 by omega) rfl (by show (fup (gRf (fup R 0 0 (some 1)) 2) 0 3 (some 2)) 0 0 = some 1; rw [fup_o (by omega), gRf_o (by omega), fup_s]) (by unfold fscr; omega) ?_
  refine e_callI (k := 8) [.ref 1] dX9_init_43 cc_X5_init rfl lk_RX9_29 im_X5_init rfl rfl (Nat.le_of_ble_eq_true rfl) (Nat.le_of_ble_eq_true rfl) ?_
  refine t_X5_init (k := 8) (q := 1) z_7 ⟨hsh 8 rfl, hsh 9 rfl, hsh 10 rfl, hsh 11 rfl, hsh 12 rfl, hsh 13 rfl, hsh 14 rfl⟩ (by omega) (by omega) (by decide) (fun I2 J2 e2 => fK_v ?_)
  have z_9 := (z_8.to (m := 15) (by omega)).rR (k := 8) (t := 1) (by omega)
  have z_10 := z_9.ij (I' := I2) (J' := J2) (fun a ha => e2 a (by omega))
  show fEv g _ mX9_init 46 [some (.ref 0), none] [.ref 8, .ref 0] ((15, 0, 1608), rRf (fup (gRf (fup R 0 0 (some 1)) 2) 0 3 (some 2)) 8 1, I2, J2) Q
  refine n_putR dX9_init_46 fl_RX9_32 (hsh 0 rfl) (by omega) rfl rfl rfl ff_RX9_32 rfl (by unfold fscr; omega) ?_
  have z_11 := z_10.up (k := 0) (j := 4) (v := some (8)) (by omega)
  refine e_aload_n dX9_init_49 rfl rfl ?_
  refine n_new (c9 := 7) (16) (1622) dX9_init_50 nw_RX9_36 (by decide) z_11 (hsh 15 rfl) (by omega) (show 1608 + 14 ≤ 7293034 by omega) (by omega) (show 1622 = 1608 + 14 by omega) ?_
  have z_12 := z_11.to (m := 16) (by omega)
  refine e_dup dX9_init_53 rfl ?_
  refine e_aload_n dX9_init_54 rfl rfl ?_
  refine e_getR (q := 2) dX9_init_55 fl_RX9_23 (hsh 0 rfl) (show 0 < 16 by omega) rfl (by show (fup (rRf (fup (gRf (fup R 0 0 (some 1)) 2) 0 3 (some 2)) 8 1) 0 4 (some 8)) 0 3 = some 2; rw [fup_o (by omega), rRf_o (by omega), fup_s]) (by unfold fscr; omega) ?_
  refine e_callI (k := 15) [.ref 2] dX9_init_58 cc_X8_init rfl lk_RX9_38 im_X8_init rfl rfl (Nat.le_of_ble_eq_true rfl) (Nat.le_of_ble_eq_true rfl) ?_
  refine t_X8_init (k := 15) (q := 2) z_11 ⟨hsh 15 rfl, hsh 16 rfl, hsh 17 rfl, hsh 18 rfl, hsh 19 rfl, hsh 20 rfl, hsh 21 rfl⟩ (by omega) (by omega) (by decide) (fK_v ?_)
  have z_13 := (z_12.to (m := 22) (by omega)).yR (k := 15) (q := 2) (by omega)
  show fEv g _ mX9_init 61 [some (.ref 0), none] [.ref 15, .ref 0] ((22, 0, 1827), yRf (fup (rRf (fup (gRf (fup R 0 0 (some 1)) 2) 0 3 (some 2)) 8 1) 0 4 (some 8)) 15 2, I2, J2) Q
  refine n_putR dX9_init_61 fl_RX9_41 (hsh 0 rfl) (by omega) rfl rfl rfl ff_RX9_41 rfl (by unfold fscr; omega) ?_
  have z_14 := z_13.up (k := 0) (j := 5) (v := some (15)) (by omega)
  refine e_aload_n dX9_init_64 rfl rfl ?_
  refine n_new (c9 := 7) (23) (1841) dX9_init_65 nw_RX9_36 (by decide) z_14 (hsh 22 rfl) (by omega) (show 1827 + 14 ≤ 7293034 by omega) (by omega) (show 1841 = 1827 + 14 by omega) ?_
  have z_15 := z_14.to (m := 23) (by omega)
  refine e_dup dX9_init_68 rfl ?_
  refine e_aload_n dX9_init_69 rfl rfl ?_
  refine e_getR (q := 2) dX9_init_70 fl_RX9_23 (hsh 0 rfl) (show 0 < 23 by omega) rfl (by show (fup (yRf (fup (rRf (fup (gRf (fup R 0 0 (some 1)) 2) 0 3 (some 2)) 8 1) 0 4 (some 8)) 15 2) 0 5 (some 15)) 0 3 = some 2; rw [fup_o (by omega), yRf_o (by omega), fup_o (by omega), rRf_o (by omega), fup_s]) (by unfold fscr; omega) ?_
  refine e_callI (k := 22) [.ref 2] dX9_init_73 cc_X8_init rfl lk_RX9_38 im_X8_init rfl rfl (Nat.le_of_ble_eq_true rfl) (Nat.le_of_ble_eq_true rfl) ?_
  refine t_X8_init (k := 22) (q := 2) z_14 ⟨hsh 22 rfl, hsh 23 rfl, hsh 24 rfl, hsh 25 rfl, hsh 26 rfl, hsh 27 rfl, hsh 28 rfl⟩ (by omega) (by omega) (by decide) (fK_v ?_)
  have z_16 := (z_15.to (m := 29) (by omega)).yR (k := 22) (q := 2) (by omega)
  show fEv g _ mX9_init 76 [some (.ref 0), none] [.ref 22, .ref 0] ((29, 0, 2046), yRf (fup (yRf (fup (rRf (fup (gRf (fup R 0 0 (some 1)) 2) 0 3 (some 2)) 8 1) 0 4 (some 8)) 15 2) 0 5 (some 15)) 22 2, I2, J2) Q
  refine n_putR dX9_init_76 fl_RX9_45 (hsh 0 rfl) (by omega) rfl rfl rfl ff_RX9_45 rfl (by unfold fscr; omega) ?_
  have z_17 := z_16.up (k := 0) (j := 6) (v := some (22)) (by omega)
  refine e_aload_n dX9_init_79 rfl rfl ?_
  refine n_new (c9 := 0) (30) (2049) dX9_init_80 nw_RX9_48 (by decide) z_17 (hsh 29 rfl) (by omega) (show 2046 + 3 ≤ 7293034 by omega) (by omega) (show 2049 = 2046 + 3 by omega) ?_
  have z_18 := z_17.to (m := 30) (by omega)
  refine e_dup dX9_init_83 rfl ?_
  refine e_callI (k := 29) [] dX9_init_84 cc_X0_init rfl lk_RX9_50 im_X0_init rfl rfl (Nat.le_of_ble_eq_true rfl) (Nat.le_of_ble_eq_true rfl) ?_
  refine t_X0_init (k := 29) z_17 ⟨hsh 29 rfl, hsh 30 rfl, hsh 31 rfl⟩ (by omega) (by omega) (fK_v ?_)
  have z_19 := (z_18.to (m := 32) (by omega)).dR (k := 29) (by omega)
  show fEv g _ mX9_init 87 [some (.ref 0), none] [.ref 29, .ref 0] ((32, 0, 2083), dRf (fup (yRf (fup (yRf (fup (rRf (fup (gRf (fup R 0 0 (some 1)) 2) 0 3 (some 2)) 8 1) 0 4 (some 8)) 15 2) 0 5 (some 15)) 22 2) 0 6 (some 22)) 29, I2, J2) Q
  refine n_putR dX9_init_87 fl_RX9_51 (hsh 0 rfl) (by omega) rfl rfl rfl ff_RX9_51 rfl (by unfold fscr; omega) ?_
  have z_20 := z_19.up (k := 0) (j := 7) (v := some (29)) (by omega)
  refine e_aload_n dX9_init_90 rfl rfl ?_
  refine e_iconst (nI 3) dX9_init_91 (by decide) ?_
  refine n_anew (t := 3) (N := 3) (C9 := RX8) (33) (2086) dX9_init_92 nw_RX9_36.1 List.mem_cons_self ⟨by decide, by decide⟩ rfl rfl (by decide) z_20 (hsh 32 rfl) (by omega) (by omega) (by omega) (by omega) ?_
  have z_21 := z_20.to (m := 33) (by omega)
  refine n_putR dX9_init_95 fl_RX9_55 (hsh 0 rfl) (by omega) rfl rfl rfl ff_RX9_55 rfl (by unfold fscr; omega) ?_
  have z_22 := z_21.up (k := 0) (j := 8) (v := some (32)) (by omega)
  refine e_aload_n dX9_init_98 rfl rfl ?_
  refine e_iconst (nI 3) dX9_init_99 (by decide) ?_
  refine n_anew (t := 4) (N := 3) (C9 := RX0) (34) (2089) dX9_init_100 nw_RX9_48.1 (List.mem_cons_of_mem _ List.mem_cons_self) ⟨by decide, by decide⟩ rfl rfl (by decide) z_22 (hsh 33 rfl) (by omega) (by omega) (by omega) (by omega) ?_
  have z_23 := z_22.to (m := 34) (by omega)
  refine n_putR dX9_init_103 fl_RX9_59 (hsh 0 rfl) (by omega) rfl rfl rfl ff_RX9_59 rfl (by unfold fscr; omega) ?_
  have z_24 := z_23.up (k := 0) (j := 9) (v := some (33)) (by omega)
  refine e_aload_n dX9_init_106 rfl rfl ?_
  refine e_iconst (nI 0) dX9_init_107 (by decide) ?_
  refine n_putI0 dX9_init_108 fl_RX9_63 (hsh 0 rfl) (by omega) rfl rfl ((congrFun (e2 0 (by omega)).1 10).trans ((congrFun (e1 0 (by unfold fGA; omega)).1 10).trans ((fup_o (by omega)).trans (z0 0 (Nat.zero_le _) 10).2.1))) ?_
  refine e_aload_n dX9_init_111 rfl rfl ?_
  refine n_new (c9 := 1) (35) (2093) dX9_init_112 nw_RX9_66 (by decide) z_24 (hsh 34 rfl) (by omega) (show 2089 + 4 ≤ 7293034 by omega) (by omega) (show 2093 = 2089 + 4 by omega) ?_
  have z_25 := z_24.to (m := 35) (by omega)
  refine e_dup dX9_init_115 rfl ?_
  refine e_aload_n dX9_init_116 rfl rfl ?_
  refine e_getR (q := 2) dX9_init_117 fl_RX9_23 (hsh 0 rfl) (show 0 < 35 by omega) rfl (by show (fup (fup (fup (dRf (fup (yRf (fup (yRf (fup (rRf (fup (gRf (fup R 0 0 (some 1)) 2) 0 3 (some 2)) 8 1) 0 4 (some 8)) 15 2) 0 5 (some 15)) 22 2) 0 6 (some 22)) 29) 0 7 (some 29)) 0 8 (some 32)) 0 9 (some 33)) 0 3 = some 2; rw [fup_o (by omega), fup_o (by omega), fup_o (by omega), dRf_o (by omega), fup_o (by omega), yRf_o (by omega), fup_o (by omega), yRf_o (by omega), fup_o (by omega), rRf_o (by omega), fup_s]) (by unfold fscr; omega) ?_
  refine e_callI (k := 34) [.ref 2] dX9_init_120 cc_X2_init rfl lk_RX9_68 im_X2_init rfl rfl (Nat.le_of_ble_eq_true rfl) (Nat.le_of_ble_eq_true rfl) ?_
  refine t_X2_init (k := 34) (q := 2) z_24 ⟨hsh 34 rfl, hsh 35 rfl, hsh 36 rfl, hsh 37 rfl, hsh 38 rfl, hsh 39 rfl, hsh 40 rfl, hsh 41 rfl, hsh 42 rfl, hsh 43 rfl, hsh 44 rfl, hsh 45 rfl, hsh 46 rfl, hsh 47 rfl, hsh 48 rfl, hsh 49 rfl, hsh 50 rfl, hsh 51 rfl, hsh 52 rfl, hsh 53 rfl, hsh 54 rfl⟩ (by omega) (by omega) (by decide) (fK_v ?_)
  have z_26 := (z_25.to (m := 55) (by omega)).oR (k := 34) (q := 2) (by omega)
  show fEv g _ mX9_init 123 [some (.ref 0), none] [.ref 34, .ref 0] ((55, 0, 2565), oRf (fup (fup (fup (dRf (fup (yRf (fup (yRf (fup (rRf (fup (gRf (fup R 0 0 (some 1)) 2) 0 3 (some 2)) 8 1) 0 4 (some 8)) 15 2) 0 5 (some 15)) 22 2) 0 6 (some 22)) 29) 0 7 (some 29)) 0 8 (some 32)) 0 9 (some 33)) 34 2, I2, J2) Q
  refine n_putR dX9_init_123 fl_RX9_69 (hsh 0 rfl) (by omega) rfl rfl rfl ff_RX9_69 rfl (by unfold fscr; omega) ?_
  have z_27 := z_26.up (k := 0) (j := 11) (v := some (34)) (by omega)
  refine e_aload_n dX9_init_126 rfl rfl ?_
  refine n_new (c9 := 5) (56) (2569) dX9_init_127 nw_RX9_73 (by decide) z_27 (hsh 55 rfl) (by omega) (show 2565 + 4 ≤ 7293034 by omega) (by omega) (show 2569 = 2565 + 4 by omega) ?_
  have z_28 := z_27.to (m := 56) (by omega)
  refine e_dup dX9_init_130 rfl ?_
  refine e_callI (k := 55) [] dX9_init_131 cc_X6_init rfl lk_RX9_75 im_X6_init rfl rfl (Nat.le_of_ble_eq_true rfl) (Nat.le_of_ble_eq_true rfl) ?_
  refine t_X6_init (k := 55) z_27 ⟨hsh 55 rfl, hsh 56 rfl, hsh 57 rfl, hsh 58 rfl⟩ (by omega) (by omega) (fK_v ?_)
  have z_29 := (z_28.to (m := 59) (by omega)).tR (k := 55) (by omega)
  show fEv g _ mX9_init 134 [some (.ref 0), none] [.ref 55, .ref 0] ((59, 0, 2623), tRf (fup (oRf (fup (fup (fup (dRf (fup (yRf (fup (yRf (fup (rRf (fup (gRf (fup R 0 0 (some 1)) 2) 0 3 (some 2)) 8 1) 0 4 (some 8)) 15 2) 0 5 (some 15)) 22 2) 0 6 (some 22)) 29) 0 7 (some 29)) 0 8 (some 32)) 0 9 (some 33)) 34 2) 0 11 (some 34)) 55, I2, J2) Q
  refine n_putR dX9_init_134 fl_RX9_76 (hsh 0 rfl) (by omega) rfl rfl rfl ff_RX9_76 rfl (by unfold fscr; omega) ?_
  have z_30 := z_29.up (k := 0) (j := 12) (v := some (55)) (by omega)
  refine e_aload_n dX9_init_137 rfl rfl ?_
  refine e_iconst (nI 0) dX9_init_138 (by decide) ?_
  refine n_putI0 dX9_init_139 fl_RX9_80 (hsh 0 rfl) (by omega) rfl rfl ((congrFun (e2 0 (by omega)).1 13).trans ((congrFun (e1 0 (by unfold fGA; omega)).1 13).trans ((fup_o (by omega)).trans (z0 0 (Nat.zero_le _) 13).2.1))) ?_
  refine e_aload_n dX9_init_142 rfl rfl ?_
  refine e_iconst (nI 0) dX9_init_143 (by decide) ?_
  refine n_putZ0 dX9_init_144 fl_RX9_83 (hsh 0 rfl) (by omega) rfl rfl (by decide) ((congrFun (e2 0 (by omega)).1 14).trans ((congrFun (e1 0 (by unfold fGA; omega)).1 14).trans ((fup_o (by omega)).trans (z0 0 (Nat.zero_le _) 14).2.1))) ?_
  refine e_aload_n dX9_init_147 rfl rfl ?_
  refine e_iconst (nI 0) dX9_init_148 (by decide) ?_
  refine n_putI0 dX9_init_149 fl_RX9_87 (hsh 0 rfl) (by omega) rfl rfl ((congrFun (e2 0 (by omega)).1 15).trans ((congrFun (e1 0 (by unfold fGA; omega)).1 15).trans ((fup_o (by omega)).trans (z0 0 (Nat.zero_le _) 15).2.1))) ?_
  refine e_aload_n dX9_init_152 rfl rfl ?_
  refine e_lconst 0 dX9_init_153 (by decide) ?_
  refine n_putL0 dX9_init_154 fl_RX9_90 (hsh 0 rfl) (by omega) rfl rfl ((congrFun (e2 0 (by omega)).2 16).trans ((congrFun (e1 0 (by unfold fGA; omega)).2 16).trans (z0 0 (Nat.zero_le _) 16).2.2)) ?_
  refine e_iconst (nI 0) dX9_init_157 (by decide) ?_
  refine e_istore_n (L1 := [some (.ref 0), some (.int (nI 0))]) dX9_init_158 rfl (by decide) rfl ?_
  refine e_iload_n dX9_init_159 rfl rfl ?_
  refine e_iconst (nI 3) dX9_init_160 (by decide) ?_
  refine e_icmp_ge 200 dX9_init_161 (by decide) (fun c => absurd c (by decide)) (fun _ => ?_)
  refine e_aload_n dX9_init_164 rfl rfl ?_
  refine e_getR (q := 32) dX9_init_165 fl_RX9_55 (hsh 0 rfl) (show 0 < 59 by omega) rfl (by show (fup (tRf (fup (oRf (fup (fup (fup (dRf (fup (yRf (fup (yRf (fup (rRf (fup (gRf (fup R 0 0 (some 1)) 2) 0 3 (some 2)) 8 1) 0 4 (some 8)) 15 2) 0 5 (some 15)) 22 2) 0 6 (some 22)) 29) 0 7 (some 29)) 0 8 (some 32)) 0 9 (some 33)) 34 2) 0 11 (some 34)) 55) 0 12 (some 55)) 0 8 = some 32; rw [fup_o (by omega), tRf_o (by omega), fup_o (by omega), oRf_o (by omega), fup_o (by omega), fup_s]) (by unfold fscr; omega) ?_
  refine e_iload_n dX9_init_168 rfl rfl ?_
  refine n_new (c9 := 7) (60) (2637) dX9_init_169 nw_RX9_36 (by decide) z_30 (hsh 59 rfl) (by omega) (show 2623 + 14 ≤ 7293034 by omega) (by omega) (show 2637 = 2623 + 14 by omega) ?_
  have z_31 := z_30.to (m := 60) (by omega)
  refine e_dup dX9_init_172 rfl ?_
  refine e_aload_n dX9_init_173 rfl rfl ?_
  refine e_getR (q := 2) dX9_init_174 fl_RX9_23 (hsh 0 rfl) (show 0 < 60 by omega) rfl (by show (fup (tRf (fup (oRf (fup (fup (fup (dRf (fup (yRf (fup (yRf (fup (rRf (fup (gRf (fup R 0 0 (some 1)) 2) 0 3 (some 2)) 8 1) 0 4 (some 8)) 15 2) 0 5 (some 15)) 22 2) 0 6 (some 22)) 29) 0 7 (some 29)) 0 8 (some 32)) 0 9 (some 33)) 34 2) 0 11 (some 34)) 55) 0 12 (some 55)) 0 3 = some 2; rw [fup_o (by omega), tRf_o (by omega), fup_o (by omega), oRf_o (by omega), fup_o (by omega), fup_o (by omega), fup_o (by omega), dRf_o (by omega), fup_o (by omega), yRf_o (by omega), fup_o (by omega), yRf_o (by omega), fup_o (by omega), rRf_o (by omega), fup_s]) (by unfold fscr; omega) ?_
  refine e_callI (k := 59) [.ref 2] dX9_init_177 cc_X8_init rfl lk_RX9_38 im_X8_init rfl rfl (Nat.le_of_ble_eq_true rfl) (Nat.le_of_ble_eq_true rfl) ?_
  refine t_X8_init (k := 59) (q := 2) z_30 ⟨hsh 59 rfl, hsh 60 rfl, hsh 61 rfl, hsh 62 rfl, hsh 63 rfl, hsh 64 rfl, hsh 65 rfl⟩ (by omega) (by omega) (by decide) (fK_v ?_)
  have z_32 := (z_31.to (m := 66) (by omega)).yR (k := 59) (q := 2) (by omega)
  show fEv g _ mX9_init 180 [some (.ref 0), some (.int (nI 0))] [.ref 59, .int (nI 0), .ref 32] ((66, 0, 2842), yRf (fup (tRf (fup (oRf (fup (fup (fup (dRf (fup (yRf (fup (yRf (fup (rRf (fup (gRf (fup R 0 0 (some 1)) 2) 0 3 (some 2)) 8 1) 0 4 (some 8)) 15 2) 0 5 (some 15)) 22 2) 0 6 (some 22)) 29) 0 7 (some 29)) 0 8 (some 32)) 0 9 (some 33)) 34 2) 0 11 (some 34)) 55) 0 12 (some 55)) 59 2, I2, J2) Q
  refine n_aast (t := 3) (N := 3) (cq := 7) 0 dX9_init_180 (hsh 32 rfl) ⟨by decide, by decide⟩ (by omega) rfl (by decide) (by decide) (by omega) (hsh 59 rfl) (by decide) rfl ?_
  have z_33 := z_32.up (k := 32) (j := 0) (v := some (59)) (by omega)
  refine e_aload_n dX9_init_181 rfl rfl ?_
  refine e_getR (q := 33) dX9_init_182 fl_RX9_59 (hsh 0 rfl) (show 0 < 66 by omega) rfl (by show (fup (yRf (fup (tRf (fup (oRf (fup (fup (fup (dRf (fup (yRf (fup (yRf (fup (rRf (fup (gRf (fup R 0 0 (some 1)) 2) 0 3 (some 2)) 8 1) 0 4 (some 8)) 15 2) 0 5 (some 15)) 22 2) 0 6 (some 22)) 29) 0 7 (some 29)) 0 8 (some 32)) 0 9 (some 33)) 34 2) 0 11 (some 34)) 55) 0 12 (some 55)) 59 2) 32 0 (some 59)) 0 9 = some 33; rw [fup_o (by omega), yRf_o (by omega), fup_o (by omega), tRf_o (by omega), fup_o (by omega), oRf_o (by omega), fup_s]) (by unfold fscr; omega) ?_
  refine e_iload_n dX9_init_185 rfl rfl ?_
  refine n_new (c9 := 0) (67) (2845) dX9_init_186 nw_RX9_48 (by decide) z_33 (hsh 66 rfl) (by omega) (show 2842 + 3 ≤ 7293034 by omega) (by omega) (show 2845 = 2842 + 3 by omega) ?_
  have z_34 := z_33.to (m := 67) (by omega)
  refine e_dup dX9_init_189 rfl ?_
  refine e_callI (k := 66) [] dX9_init_190 cc_X0_init rfl lk_RX9_50 im_X0_init rfl rfl (Nat.le_of_ble_eq_true rfl) (Nat.le_of_ble_eq_true rfl) ?_
  refine t_X0_init (k := 66) z_33 ⟨hsh 66 rfl, hsh 67 rfl, hsh 68 rfl⟩ (by omega) (by omega) (fK_v ?_)
  have z_35 := (z_34.to (m := 69) (by omega)).dR (k := 66) (by omega)
  show fEv g _ mX9_init 193 [some (.ref 0), some (.int (nI 0))] [.ref 66, .int (nI 0), .ref 33] ((69, 0, 2879), dRf (fup (yRf (fup (tRf (fup (oRf (fup (fup (fup (dRf (fup (yRf (fup (yRf (fup (rRf (fup (gRf (fup R 0 0 (some 1)) 2) 0 3 (some 2)) 8 1) 0 4 (some 8)) 15 2) 0 5 (some 15)) 22 2) 0 6 (some 22)) 29) 0 7 (some 29)) 0 8 (some 32)) 0 9 (some 33)) 34 2) 0 11 (some 34)) 55) 0 12 (some 55)) 59 2) 32 0 (some 59)) 66, I2, J2) Q
  refine n_aast (t := 4) (N := 3) (cq := 0) 0 dX9_init_193 (hsh 33 rfl) ⟨by decide, by decide⟩ (by omega) rfl (by decide) (by decide) (by omega) (hsh 66 rfl) (by decide) rfl ?_
  have z_36 := z_35.up (k := 33) (j := 0) (v := some (66)) (by omega)
  refine e_iinc (v := nI 1) (L1 := [some (.ref 0), some (.int (nI 1))]) dX9_init_194 rfl (by decide) (by decide) rfl ?_
  refine e_goto 159 dX9_init_197 (by decide) ?_
  refine e_iload_n dX9_init_159 rfl rfl ?_
  refine e_iconst (nI 3) dX9_init_160 (by decide) ?_
  refine e_icmp_ge 200 dX9_init_161 (by decide) (fun c => absurd c (by decide)) (fun _ => ?_)
  refine e_aload_n dX9_init_164 rfl rfl ?_
  refine e_getR (q := 32) dX9_init_165 fl_RX9_55 (hsh 0 rfl) (show 0 < 69 by omega) rfl (by show (fup (dRf (fup (yRf (fup (tRf (fup (oRf (fup (fup (fup (dRf (fup (yRf (fup (yRf (fup (rRf (fup (gRf (fup R 0 0 (some 1)) 2) 0 3 (some 2)) 8 1) 0 4 (some 8)) 15 2) 0 5 (some 15)) 22 2) 0 6 (some 22)) 29) 0 7 (some 29)) 0 8 (some 32)) 0 9 (some 33)) 34 2) 0 11 (some 34)) 55) 0 12 (some 55)) 59 2) 32 0 (some 59)) 66) 33 0 (some 66)) 0 8 = some 32; rw [fup_o (by omega), dRf_o (by omega), fup_o (by omega), yRf_o (by omega), fup_o (by omega), tRf_o (by omega), fup_o (by omega), oRf_o (by omega), fup_o (by omega), fup_s]) (by unfold fscr; omega) ?_
  refine e_iload_n dX9_init_168 rfl rfl ?_
  refine n_new (c9 := 7) (70) (2893) dX9_init_169 nw_RX9_36 (by decide) z_36 (hsh 69 rfl) (by omega) (show 2879 + 14 ≤ 7293034 by omega) (by omega) (show 2893 = 2879 + 14 by omega) ?_
  have z_37 := z_36.to (m := 70) (by omega)
  refine e_dup dX9_init_172 rfl ?_
  refine e_aload_n dX9_init_173 rfl rfl ?_
  refine e_getR (q := 2) dX9_init_174 fl_RX9_23 (hsh 0 rfl) (show 0 < 70 by omega) rfl (by show (fup (dRf (fup (yRf (fup (tRf (fup (oRf (fup (fup (fup (dRf (fup (yRf (fup (yRf (fup (rRf (fup (gRf (fup R 0 0 (some 1)) 2) 0 3 (some 2)) 8 1) 0 4 (some 8)) 15 2) 0 5 (some 15)) 22 2) 0 6 (some 22)) 29) 0 7 (some 29)) 0 8 (some 32)) 0 9 (some 33)) 34 2) 0 11 (some 34)) 55) 0 12 (some 55)) 59 2) 32 0 (some 59)) 66) 33 0 (some 66)) 0 3 = some 2; rw [fup_o (by omega), dRf_o (by omega), fup_o (by omega), yRf_o (by omega), fup_o (by omega), tRf_o (by omega), fup_o (by omega), oRf_o (by omega), fup_o (by omega), fup_o (by omega), fup_o (by omega), dRf_o (by omega), fup_o (by omega), yRf_o (by omega), fup_o (by omega), yRf_o (by omega), fup_o (by omega), rRf_o (by omega), fup_s]) (by unfold fscr; omega) ?_
  refine e_callI (k := 69) [.ref 2] dX9_init_177 cc_X8_init rfl lk_RX9_38 im_X8_init rfl rfl (Nat.le_of_ble_eq_true rfl) (Nat.le_of_ble_eq_true rfl) ?_
  refine t_X8_init (k := 69) (q := 2) z_36 ⟨hsh 69 rfl, hsh 70 rfl, hsh 71 rfl, hsh 72 rfl, hsh 73 rfl, hsh 74 rfl, hsh 75 rfl⟩ (by omega) (by omega) (by decide) (fK_v ?_)
  have z_38 := (z_37.to (m := 76) (by omega)).yR (k := 69) (q := 2) (by omega)
  show fEv g _ mX9_init 180 [some (.ref 0), some (.int (nI 1))] [.ref 69, .int (nI 1), .ref 32] ((76, 0, 3098), yRf (fup (dRf (fup (yRf (fup (tRf (fup (oRf (fup (fup (fup (dRf (fup (yRf (fup (yRf (fup (rRf (fup (gRf (fup R 0 0 (some 1)) 2) 0 3 (some 2)) 8 1) 0 4 (some 8)) 15 2) 0 5 (some 15)) 22 2) 0 6 (some 22)) 29) 0 7 (some 29)) 0 8 (some 32)) 0 9 (some 33)) 34 2) 0 11 (some 34)) 55) 0 12 (some 55)) 59 2) 32 0 (some 59)) 66) 33 0 (some 66)) 69 2, I2, J2) Q
  refine n_aast (t := 3) (N := 3) (cq := 7) 1 dX9_init_180 (hsh 32 rfl) ⟨by decide, by decide⟩ (by omega) rfl (by decide) (by decide) (by omega) (hsh 69 rfl) (by decide) rfl ?_
  have z_39 := z_38.up (k := 32) (j := 1) (v := some (69)) (by omega)
  refine e_aload_n dX9_init_181 rfl rfl ?_
  refine e_getR (q := 33) dX9_init_182 fl_RX9_59 (hsh 0 rfl) (show 0 < 76 by omega) rfl (by show (fup (yRf (fup (dRf (fup (yRf (fup (tRf (fup (oRf (fup (fup (fup (dRf (fup (yRf (fup (yRf (fup (rRf (fup (gRf (fup R 0 0 (some 1)) 2) 0 3 (some 2)) 8 1) 0 4 (some 8)) 15 2) 0 5 (some 15)) 22 2) 0 6 (some 22)) 29) 0 7 (some 29)) 0 8 (some 32)) 0 9 (some 33)) 34 2) 0 11 (some 34)) 55) 0 12 (some 55)) 59 2) 32 0 (some 59)) 66) 33 0 (some 66)) 69 2) 32 1 (some 69)) 0 9 = some 33; rw [fup_o (by omega), yRf_o (by omega), fup_o (by omega), dRf_o (by omega), fup_o (by omega), yRf_o (by omega), fup_o (by omega), tRf_o (by omega), fup_o (by omega), oRf_o (by omega), fup_s]) (by unfold fscr; omega) ?_
  refine e_iload_n dX9_init_185 rfl rfl ?_
  refine n_new (c9 := 0) (77) (3101) dX9_init_186 nw_RX9_48 (by decide) z_39 (hsh 76 rfl) (by omega) (show 3098 + 3 ≤ 7293034 by omega) (by omega) (show 3101 = 3098 + 3 by omega) ?_
  have z_40 := z_39.to (m := 77) (by omega)
  refine e_dup dX9_init_189 rfl ?_
  refine e_callI (k := 76) [] dX9_init_190 cc_X0_init rfl lk_RX9_50 im_X0_init rfl rfl (Nat.le_of_ble_eq_true rfl) (Nat.le_of_ble_eq_true rfl) ?_
  refine t_X0_init (k := 76) z_39 ⟨hsh 76 rfl, hsh 77 rfl, hsh 78 rfl⟩ (by omega) (by omega) (fK_v ?_)
  have z_41 := (z_40.to (m := 79) (by omega)).dR (k := 76) (by omega)
  show fEv g _ mX9_init 193 [some (.ref 0), some (.int (nI 1))] [.ref 76, .int (nI 1), .ref 33] ((79, 0, 3135), dRf (fup (yRf (fup (dRf (fup (yRf (fup (tRf (fup (oRf (fup (fup (fup (dRf (fup (yRf (fup (yRf (fup (rRf (fup (gRf (fup R 0 0 (some 1)) 2) 0 3 (some 2)) 8 1) 0 4 (some 8)) 15 2) 0 5 (some 15)) 22 2) 0 6 (some 22)) 29) 0 7 (some 29)) 0 8 (some 32)) 0 9 (some 33)) 34 2) 0 11 (some 34)) 55) 0 12 (some 55)) 59 2) 32 0 (some 59)) 66) 33 0 (some 66)) 69 2) 32 1 (some 69)) 76, I2, J2) Q
  refine n_aast (t := 4) (N := 3) (cq := 0) 1 dX9_init_193 (hsh 33 rfl) ⟨by decide, by decide⟩ (by omega) rfl (by decide) (by decide) (by omega) (hsh 76 rfl) (by decide) rfl ?_
  have z_42 := z_41.up (k := 33) (j := 1) (v := some (76)) (by omega)
  refine e_iinc (v := nI 2) (L1 := [some (.ref 0), some (.int (nI 2))]) dX9_init_194 rfl (by decide) (by decide) rfl ?_
  refine e_goto 159 dX9_init_197 (by decide) ?_
  refine e_iload_n dX9_init_159 rfl rfl ?_
  refine e_iconst (nI 3) dX9_init_160 (by decide) ?_
  refine e_icmp_ge 200 dX9_init_161 (by decide) (fun c => absurd c (by decide)) (fun _ => ?_)
  refine e_aload_n dX9_init_164 rfl rfl ?_
  refine e_getR (q := 32) dX9_init_165 fl_RX9_55 (hsh 0 rfl) (show 0 < 79 by omega) rfl (by show (fup (dRf (fup (yRf (fup (dRf (fup (yRf (fup (tRf (fup (oRf (fup (fup (fup (dRf (fup (yRf (fup (yRf (fup (rRf (fup (gRf (fup R 0 0 (some 1)) 2) 0 3 (some 2)) 8 1) 0 4 (some 8)) 15 2) 0 5 (some 15)) 22 2) 0 6 (some 22)) 29) 0 7 (some 29)) 0 8 (some 32)) 0 9 (some 33)) 34 2) 0 11 (some 34)) 55) 0 12 (some 55)) 59 2) 32 0 (some 59)) 66) 33 0 (some 66)) 69 2) 32 1 (some 69)) 76) 33 1 (some 76)) 0 8 = some 32; rw [fup_o (by omega), dRf_o (by omega), fup_o (by omega), yRf_o (by omega), fup_o (by omega), dRf_o (by omega), fup_o (by omega), yRf_o (by omega), fup_o (by omega), tRf_o (by omega), fup_o (by omega), oRf_o (by omega), fup_o (by omega), fup_s]) (by unfold fscr; omega) ?_
  refine e_iload_n dX9_init_168 rfl rfl ?_
  refine n_new (c9 := 7) (80) (3149) dX9_init_169 nw_RX9_36 (by decide) z_42 (hsh 79 rfl) (by omega) (show 3135 + 14 ≤ 7293034 by omega) (by omega) (show 3149 = 3135 + 14 by omega) ?_
  have z_43 := z_42.to (m := 80) (by omega)
  refine e_dup dX9_init_172 rfl ?_
  refine e_aload_n dX9_init_173 rfl rfl ?_
  refine e_getR (q := 2) dX9_init_174 fl_RX9_23 (hsh 0 rfl) (show 0 < 80 by omega) rfl (by show (fup (dRf (fup (yRf (fup (dRf (fup (yRf (fup (tRf (fup (oRf (fup (fup (fup (dRf (fup (yRf (fup (yRf (fup (rRf (fup (gRf (fup R 0 0 (some 1)) 2) 0 3 (some 2)) 8 1) 0 4 (some 8)) 15 2) 0 5 (some 15)) 22 2) 0 6 (some 22)) 29) 0 7 (some 29)) 0 8 (some 32)) 0 9 (some 33)) 34 2) 0 11 (some 34)) 55) 0 12 (some 55)) 59 2) 32 0 (some 59)) 66) 33 0 (some 66)) 69 2) 32 1 (some 69)) 76) 33 1 (some 76)) 0 3 = some 2; rw [fup_o (by omega), dRf_o (by omega), fup_o (by omega), yRf_o (by omega), fup_o (by omega), dRf_o (by omega), fup_o (by omega), yRf_o (by omega), fup_o (by omega), tRf_o (by omega), fup_o (by omega), oRf_o (by omega), fup_o (by omega), fup_o (by omega), fup_o (by omega), dRf_o (by omega), fup_o (by omega), yRf_o (by omega), fup_o (by omega), yRf_o (by omega), fup_o (by omega), rRf_o (by omega), fup_s]) (by unfold fscr; omega) ?_
  refine e_callI (k := 79) [.ref 2] dX9_init_177 cc_X8_init rfl lk_RX9_38 im_X8_init rfl rfl (Nat.le_of_ble_eq_true rfl) (Nat.le_of_ble_eq_true rfl) ?_
  refine t_X8_init (k := 79) (q := 2) z_42 ⟨hsh 79 rfl, hsh 80 rfl, hsh 81 rfl, hsh 82 rfl, hsh 83 rfl, hsh 84 rfl, hsh 85 rfl⟩ (by omega) (by omega) (by decide) (fK_v ?_)
  have z_44 := (z_43.to (m := 86) (by omega)).yR (k := 79) (q := 2) (by omega)
  show fEv g _ mX9_init 180 [some (.ref 0), some (.int (nI 2))] [.ref 79, .int (nI 2), .ref 32] ((86, 0, 3354), yRf (fup (dRf (fup (yRf (fup (dRf (fup (yRf (fup (tRf (fup (oRf (fup (fup (fup (dRf (fup (yRf (fup (yRf (fup (rRf (fup (gRf (fup R 0 0 (some 1)) 2) 0 3 (some 2)) 8 1) 0 4 (some 8)) 15 2) 0 5 (some 15)) 22 2) 0 6 (some 22)) 29) 0 7 (some 29)) 0 8 (some 32)) 0 9 (some 33)) 34 2) 0 11 (some 34)) 55) 0 12 (some 55)) 59 2) 32 0 (some 59)) 66) 33 0 (some 66)) 69 2) 32 1 (some 69)) 76) 33 1 (some 76)) 79 2, I2, J2) Q
  refine n_aast (t := 3) (N := 3) (cq := 7) 2 dX9_init_180 (hsh 32 rfl) ⟨by decide, by decide⟩ (by omega) rfl (by decide) (by decide) (by omega) (hsh 79 rfl) (by decide) rfl ?_
  have z_45 := z_44.up (k := 32) (j := 2) (v := some (79)) (by omega)
  refine e_aload_n dX9_init_181 rfl rfl ?_
  refine e_getR (q := 33) dX9_init_182 fl_RX9_59 (hsh 0 rfl) (show 0 < 86 by omega) rfl (by show (fup (yRf (fup (dRf (fup (yRf (fup (dRf (fup (yRf (fup (tRf (fup (oRf (fup (fup (fup (dRf (fup (yRf (fup (yRf (fup (rRf (fup (gRf (fup R 0 0 (some 1)) 2) 0 3 (some 2)) 8 1) 0 4 (some 8)) 15 2) 0 5 (some 15)) 22 2) 0 6 (some 22)) 29) 0 7 (some 29)) 0 8 (some 32)) 0 9 (some 33)) 34 2) 0 11 (some 34)) 55) 0 12 (some 55)) 59 2) 32 0 (some 59)) 66) 33 0 (some 66)) 69 2) 32 1 (some 69)) 76) 33 1 (some 76)) 79 2) 32 2 (some 79)) 0 9 = some 33; rw [fup_o (by omega), yRf_o (by omega), fup_o (by omega), dRf_o (by omega), fup_o (by omega), yRf_o (by omega), fup_o (by omega), dRf_o (by omega), fup_o (by omega), yRf_o (by omega), fup_o (by omega), tRf_o (by omega), fup_o (by omega), oRf_o (by omega), fup_s]) (by unfold fscr; omega) ?_
  refine e_iload_n dX9_init_185 rfl rfl ?_
  refine n_new (c9 := 0) (87) (3357) dX9_init_186 nw_RX9_48 (by decide) z_45 (hsh 86 rfl) (by omega) (show 3354 + 3 ≤ 7293034 by omega) (by omega) (show 3357 = 3354 + 3 by omega) ?_
  have z_46 := z_45.to (m := 87) (by omega)
  refine e_dup dX9_init_189 rfl ?_
  refine e_callI (k := 86) [] dX9_init_190 cc_X0_init rfl lk_RX9_50 im_X0_init rfl rfl (Nat.le_of_ble_eq_true rfl) (Nat.le_of_ble_eq_true rfl) ?_
  refine t_X0_init (k := 86) z_45 ⟨hsh 86 rfl, hsh 87 rfl, hsh 88 rfl⟩ (by omega) (by omega) (fK_v ?_)
  have z_47 := (z_46.to (m := 89) (by omega)).dR (k := 86) (by omega)
  show fEv g _ mX9_init 193 [some (.ref 0), some (.int (nI 2))] [.ref 86, .int (nI 2), .ref 33] ((89, 0, 3391), dRf (fup (yRf (fup (dRf (fup (yRf (fup (dRf (fup (yRf (fup (tRf (fup (oRf (fup (fup (fup (dRf (fup (yRf (fup (yRf (fup (rRf (fup (gRf (fup R 0 0 (some 1)) 2) 0 3 (some 2)) 8 1) 0 4 (some 8)) 15 2) 0 5 (some 15)) 22 2) 0 6 (some 22)) 29) 0 7 (some 29)) 0 8 (some 32)) 0 9 (some 33)) 34 2) 0 11 (some 34)) 55) 0 12 (some 55)) 59 2) 32 0 (some 59)) 66) 33 0 (some 66)) 69 2) 32 1 (some 69)) 76) 33 1 (some 76)) 79 2) 32 2 (some 79)) 86, I2, J2) Q
  refine n_aast (t := 4) (N := 3) (cq := 0) 2 dX9_init_193 (hsh 33 rfl) ⟨by decide, by decide⟩ (by omega) rfl (by decide) (by decide) (by omega) (hsh 86 rfl) (by decide) rfl ?_
  have z_48 := z_47.up (k := 33) (j := 2) (v := some (86)) (by omega)
  refine e_iinc (v := nI 3) (L1 := [some (.ref 0), some (.int (nI 3))]) dX9_init_194 rfl (by decide) (by decide) rfl ?_
  refine e_goto 159 dX9_init_197 (by decide) ?_
  refine e_iload_n dX9_init_159 rfl rfl ?_
  refine e_iconst (nI 3) dX9_init_160 (by decide) ?_
  refine e_icmp_ge 200 dX9_init_161 (by decide) (fun _ => ?_) (fun c => absurd c (by decide))
  refine e_return dX9_init_200 rfl (h I2 J2 (fun a na => ?_) (fun j => ?_) (fun j => ?_) ?_)
  · rw [(e2 a (by omega)).1, (e2 a (by omega)).2, (e1 a (by unfold fGA; omega)).1, (e1 a (by unfold fGA; omega)).2]
    exact ⟨funext (fun i => fup_o (by omega)), rfl⟩
  · rw [(e2 0 (by omega)).1, (e1 0 (by unfold fGA; omega)).1]
    by_cases e : j = 2
    · rw [e, fup_s, if_pos rfl]
    · rw [fup_o (by omega), if_neg e]; exact (z0 0 (Nat.zero_le _) j).2.1
  · rw [(e2 0 (by omega)).2, (e1 0 (by unfold fGA; omega)).2]; exact (z0 0 (Nat.zero_le _) j).2.2
  · exact Gr1.cgI (fun i hi => ((e2 (2 + i) (by omega)).1).symm)
