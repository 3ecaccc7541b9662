def fMq (g : fGP) (σ : fAH) : Prop := gsh g = fshp ∧ 300 ≤ fnx σ ∧ fR σ 89 9 = some 91
theorem fMq.s {g : fGP} {σ : fAH} (h : fMq g σ) (k : Nat) {x : Nat ⊕ (Nat × Nat)} (e : fshp k = x) : gsh g k = x := by rw [h.1]; exact e
theorem fMq.n {g : fGP} {σ : fAH} (h : fMq g σ) {k : Nat} (e : k < 300) : k < fnx σ := Nat.lt_of_lt_of_le e h.2.1
theorem fMq.sm {A : Nat → Prop} {g : fGP} {σ σ1 : fAH} (h : fMq g σ) (s : fSm A σ σ1) : fMq g σ1 := ⟨h.1, by rw [s.n]; exact h.2.1, s.r h.2.2⟩
set_option maxRecDepth 20000 in
theorem l_X10_tellq {g : fGP} {d : Nat} {Q : fRes → fAH → Prop} : ∀ (n i : Nat) (σ : fAH), i + n = 7 → fMq g σ → (∀ j, j < i → fI σ 91 j = nI (dT D0 j)) → (∀ σ', fSm (fun a => a = 91) σ σ' → (∀ j, j < 7 → fI σ' 91 j = nI (dT D0 j)) → Q (.inl none) σ') → fEv g (d) mX10_tellsNothing 2 [some (.ref 89), some (.int (nI i))] [] σ Q := by
  intro n
  induction n with
  | zero =>
    intro i σ hin Ms hf h
    refine e_iload_n dX10_tellsNothing_2 rfl rfl ?_
    refine e_bipush (nI 7) dX10_tellsNothing_3 (by decide) ?_
    refine e_icmp_ge 51 dX10_tellsNothing_5 (by decide) (fun cz => ?_) (fun cz => absurd ((nI_le' (by omega) (by omega)).mpr (by omega)) cz)
    exact e_return dX10_tellsNothing_51 rfl (h σ fSm.rfl' (fun j hj => hf j (by omega)))
  | succ n ih =>
    intro i σ hin Ms hf h
    have hi : i < 7 := by omega
    refine e_iload_n dX10_tellsNothing_2 rfl rfl ?_
    refine e_bipush (nI 7) dX10_tellsNothing_3 (by decide) ?_
    refine e_icmp_ge 51 dX10_tellsNothing_5 (by decide) (fun cz => absurd ((nI_le' (by omega) (by omega)).mp cz) (by omega)) (fun cz => ?_)
    refine e_aload_n dX10_tellsNothing_8 rfl rfl ?_
    refine e_getR (q := 91) dX10_tellsNothing_9 fl_RX10_17 (Ms.s 89 rfl) (Ms.n (by decide)) rfl Ms.2.2 (by unfold fscr; omega) ?_
    refine e_iload_n dX10_tellsNothing_12 rfl rfl ?_
    refine e_iload_n dX10_tellsNothing_13 rfl rfl ?_
    refine e_iconst (nI 3) dX10_tellsNothing_14 (by decide) ?_
    refine e_icmp_ne 23 dX10_tellsNothing_15 (by decide) (fun c15 => ?_) (fun c15 => ?_)
    · rw [nI_inj (by omega) (by omega)] at c15
      refine e_iload_n dX10_tellsNothing_23 rfl rfl ?_
      refine e_iconst (nI 4) dX10_tellsNothing_24 (by decide) ?_
      refine e_icmp_ne 33 dX10_tellsNothing_25 (by decide) (fun c25 => ?_) (fun c25 => ?_)
      · rw [nI_inj (by omega) (by omega)] at c25
        refine e_iload_n dX10_tellsNothing_33 rfl rfl ?_
        refine e_iconst (nI 5) dX10_tellsNothing_34 (by decide) ?_
        refine e_icmp_ne 43 dX10_tellsNothing_35 (by decide) (fun c35 => ?_) (fun c35 => ?_)
        · rw [nI_inj (by omega) (by omega)] at c35
          refine e_iconst (nI 0) dX10_tellsNothing_43 (by decide) ?_
          refine e_iastore i dX10_tellsNothing_44 (Ms.s 91 rfl) (Ms.n (by decide)) rfl (by omega) (by decide) ?_
          refine e_iinc (v := nI (i + 1)) (L1 := [some (.ref 89), some (.int (nI (i + 1)))]) dX10_tellsNothing_45 rfl (show nI i + Int32.ofInt 1 = nI (i + 1) from nI_add i 1) (by decide) rfl ?_
          refine e_goto 2 dX10_tellsNothing_48 (by decide) ?_
          refine ih (i + 1) (fsI σ 91 i (nI 0)) (by omega) (Ms.sm (A := fun a => a = 91) (fSm_I rfl)) (fun j hj => ?_) (fun σ' Sm' => h σ' ((fSm_I (A := fun a => a = 91) rfl).tr Sm'))
          by_cases e : j = i
          · rw [fI_I, if_pos ⟨rfl, e⟩, e]; exact congrArg nI (show 0 = (if i = 3 then 12 else if i = 4 then 9 else if i = 5 then 30 else 0) by repeat' split <;> omega)
          · rw [fI_I, if_neg (by omega)]; exact hf j (by omega)
        · rw [nI_inj (by omega) (by omega)] at c35
          refine e_bipush (nI 30) dX10_tellsNothing_38 (by decide) ?_
          refine e_goto 44 dX10_tellsNothing_40 (by decide) ?_
          refine e_iastore i dX10_tellsNothing_44 (Ms.s 91 rfl) (Ms.n (by decide)) rfl (by omega) (by decide) ?_
          refine e_iinc (v := nI (i + 1)) (L1 := [some (.ref 89), some (.int (nI (i + 1)))]) dX10_tellsNothing_45 rfl (show nI i + Int32.ofInt 1 = nI (i + 1) from nI_add i 1) (by decide) rfl ?_
          refine e_goto 2 dX10_tellsNothing_48 (by decide) ?_
          refine ih (i + 1) (fsI σ 91 i (nI 30)) (by omega) (Ms.sm (A := fun a => a = 91) (fSm_I rfl)) (fun j hj => ?_) (fun σ' Sm' => h σ' ((fSm_I (A := fun a => a = 91) rfl).tr Sm'))
          by_cases e : j = i
          · rw [fI_I, if_pos ⟨rfl, e⟩, e]; exact congrArg nI (show 30 = (if i = 3 then 12 else if i = 4 then 9 else if i = 5 then 30 else 0) by repeat' split <;> omega)
          · rw [fI_I, if_neg (by omega)]; exact hf j (by omega)
      · rw [nI_inj (by omega) (by omega)] at c25
        refine e_bipush (nI 9) dX10_tellsNothing_28 (by decide) ?_
        refine e_goto 44 dX10_tellsNothing_30 (by decide) ?_
        refine e_iastore i dX10_tellsNothing_44 (Ms.s 91 rfl) (Ms.n (by decide)) rfl (by omega) (by decide) ?_
        refine e_iinc (v := nI (i + 1)) (L1 := [some (.ref 89), some (.int (nI (i + 1)))]) dX10_tellsNothing_45 rfl (show nI i + Int32.ofInt 1 = nI (i + 1) from nI_add i 1) (by decide) rfl ?_
        refine e_goto 2 dX10_tellsNothing_48 (by decide) ?_
        refine ih (i + 1) (fsI σ 91 i (nI 9)) (by omega) (Ms.sm (A := fun a => a = 91) (fSm_I rfl)) (fun j hj => ?_) (fun σ' Sm' => h σ' ((fSm_I (A := fun a => a = 91) rfl).tr Sm'))
        by_cases e : j = i
        · rw [fI_I, if_pos ⟨rfl, e⟩, e]; exact congrArg nI (show 9 = (if i = 3 then 12 else if i = 4 then 9 else if i = 5 then 30 else 0) by repeat' split <;> omega)
        · rw [fI_I, if_neg (by omega)]; exact hf j (by omega)
    · rw [nI_inj (by omega) (by omega)] at c15
      refine e_bipush (nI 12) dX10_tellsNothing_18 (by decide) ?_
      refine e_goto 44 dX10_tellsNothing_20 (by decide) ?_
      refine e_iastore i dX10_tellsNothing_44 (Ms.s 91 rfl) (Ms.n (by decide)) rfl (by omega) (by decide) ?_
      refine e_iinc (v := nI (i + 1)) (L1 := [some (.ref 89), some (.int (nI (i + 1)))]) dX10_tellsNothing_45 rfl (show nI i + Int32.ofInt 1 = nI (i + 1) from nI_add i 1) (by decide) rfl ?_
      refine e_goto 2 dX10_tellsNothing_48 (by decide) ?_
      refine ih (i + 1) (fsI σ 91 i (nI 12)) (by omega) (Ms.sm (A := fun a => a = 91) (fSm_I rfl)) (fun j hj => ?_) (fun σ' Sm' => h σ' ((fSm_I (A := fun a => a = 91) rfl).tr Sm'))
      by_cases e : j = i
      · rw [fI_I, if_pos ⟨rfl, e⟩, e]; exact congrArg nI (show 12 = (if i = 3 then 12 else if i = 4 then 9 else if i = 5 then 30 else 0) by repeat' split <;> omega)
      · rw [fI_I, if_neg (by omega)]; exact hf j (by omega)
set_option maxRecDepth 20000 in
theorem t_X10_tellq {g : fGP} {d : Nat} {σ : fAH} {Q : fRes → fAH → Prop} (Ms : fMq g σ) (h : ∀ σ', fSm (fun a => a = 91) σ σ' → (∀ j, j < 7 → fI σ' 91 j = nI (dT D0 j)) → Q (.inl none) σ') : fEv g d mX10_tellsNothing 0 (fent [.ref 89] 2) [] σ Q := by
  show fEv g d mX10_tellsNothing 0 [some (.ref 89), none] [] σ Q
  refine e_iconst (nI 0) dX10_tellsNothing_0 (by decide) ?_
  refine e_istore_n (L1 := [some (.ref 89), some (.int (nI 0))]) dX10_tellsNothing_1 rfl (by decide) rfl ?_
  exact l_X10_tellq 7 0 σ (by omega) Ms (fun j hj => absurd hj (by omega)) h
def zRf (R : Nat → Nat → Option Nat) : Nat → Nat → Option Nat := fup (fup (fmR (fup (fmR (fup (fmR (fup (fup (fup (fmR (fup (fup (fmR (fup (fmR (fup (fmR (fup (fmR (fup (fmR (fup (fmR (fup (fmR (fup (fmR (fup (fup (fup R 89 8 (some 90)) 89 9 (some 91)) 89 10 (some 92)) 93 6) 89 11 (some 93)) 100 6) 89 12 (some 100)) 107 12) 89 13 (some 107)) 120 12) 89 14 (some 120)) 133 6) 89 15 (some 133)) 140 6) 89 16 (some 140)) 147 24) 89 17 (some 147)) 172 24) 89 18 (some 172)) 89 19 (some 197)) 198 20) 89 20 (some 198)) 89 26 (some 219)) 89 27 (some 220)) 221 60) 89 28 (some 221)) 282 12) 89 29 (some 282)) 295 3) 89 30 (some 295)) 89 35 (some 299)
set_option maxRecDepth 20000 in
theorem t_X10_init {g : fGP} {d : Nat} {Q : fRes → fAH → Prop} {R : Nat → Nat → Option Nat} {I : Nat → Nat → Int32} {J : Nat → Nat → Int64} {u : Nat} (hsh : ∀ (k : Nat) {x : Nat ⊕ (Nat × Nat)}, fshp k = x → gsh g k = x) (z0 : fZ 89 R I J) (hu : u + 5961 ≤ 7293034) (h : ∀ I' J', (∀ a, ¬ (a = 89 ∨ a = 91 ∨ a = 92) → I' a = I a ∧ J' a = J a) → (∀ j, I' 89 j = if j = 3 then -1 else 0) → (∀ j, j < 7 → I' 92 j = nI (dT D0 j)) → Q (.inl none) ((300, 0, u + 5961), zRf R, I', J')) : fEv g (d + 1) mX10_init 0 (fent [.ref 89] 2) [] ((90, 0, u), R, I, J) Q := by
  show fEv g (d + 1) mX10_init 0 [some (.ref 89), none] [] ((90, 0, u), R, I, J) Q
  have z := z0.to (m := 90) (by omega)
  refine e_aload_n dX10_init_0 rfl rfl ?_
  refine e_objInit dX10_init_1 ml_RX10_3 w_obj (Nat.le_of_ble_eq_true rfl) ?_
  refine e_aload_n dX10_init_4 rfl rfl ?_
  refine e_iconst (-1) dX10_init_5 (by decide) ?_
  refine n_putI dX10_init_6 fl_RX10_9 (hsh 89 rfl) (by omega) rfl rfl ?_
  have z_1 := z.ij (I' := (fup I 89 3 (-1))) (J' := J) (fun a ha => ⟨funext (fun i => fup_o (by omega)), rfl⟩)
  refine e_aload_n dX10_init_9 rfl rfl ?_
  refine e_sipush (nI 600) dX10_init_10 (by decide) ?_
  refine n_newarr (t := 0) (N := 600) (91) (u + 600) dX10_init_13 rfl (by decide) ac_0 rfl (by decide) z_1 (hsh 90 rfl) (by omega) (by omega) (by omega) (by omega) ?_
  have z_2 := z_1.to (m := 91) (by omega)
  refine n_putR dX10_init_15 fl_RX10_13 (hsh 89 rfl) (by omega) rfl rfl rfl ff_RX10_13 rfl (by unfold fscr; omega) ?_
  have z_3 := z_2.up (k := 89) (j := 8) (v := some (90)) (by omega)
  refine e_aload_n dX10_init_18 rfl rfl ?_
  refine e_bipush (nI 7) dX10_init_19 (by decide) ?_
  refine n_newarr (t := 0) (N := 7) (92) (u + 607) dX10_init_21 rfl (by decide) ac_0 rfl (by decide) z_3 (hsh 91 rfl) (by omega) (by omega) (by omega) (by omega) ?_
  have z_4 := z_3.to (m := 92) (by omega)
  refine n_putR dX10_init_23 fl_RX10_17 (hsh 89 rfl) (by omega) rfl rfl rfl ff_RX10_17 rfl (by unfold fscr; omega) ?_
  have z_5 := z_4.up (k := 89) (j := 9) (v := some (91)) (by omega)
  refine e_aload_n dX10_init_26 rfl rfl ?_
  refine e_bipush (nI 7) dX10_init_27 (by decide) ?_
  refine n_newarr (t := 0) (N := 7) (93) (u + 614) dX10_init_29 rfl (by decide) ac_0 rfl (by decide) z_5 (hsh 92 rfl) (by omega) (by omega) (by omega) (by omega) ?_
  have z_6 := z_5.to (m := 93) (by omega)
  refine n_putR dX10_init_31 fl_RX10_20 (hsh 89 rfl) (by omega) rfl rfl rfl ff_RX10_20 rfl (by unfold fscr; omega) ?_
  have z_7 := z_6.up (k := 89) (j := 10) (v := some (92)) (by omega)
  refine e_aload_n dX10_init_34 rfl rfl ?_
  refine e_bipush (nI 6) dX10_init_35 (by decide) ?_
  refine e_iconst (nI 3) dX10_init_37 (by decide) ?_
  refine n_mna (N := 6) (K := 3) (100) (u + 638) dX10_init_38 cl_mna ac_0 rfl rfl (by decide) (by decide) z_7 (hsh 93 rfl) (fun q hq => hsh _ (fsh_readBlock q hq)) (by omega) (by omega) (by omega) (by omega) ?_
  have z_8 := z_7.mR (N := 6)
  have z_9 := z_8.to (m := 100) (by omega)
  refine n_putR dX10_init_42 fl_RX10_25 (hsh 89 rfl) (by omega) rfl rfl rfl ff_RX10_25 rfl (by unfold fscr; omega) ?_
  have z_10 := z_9.up (k := 89) (j := 11) (v := some (93)) (by omega)
  refine e_aload_n dX10_init_45 rfl rfl ?_
  refine e_bipush (nI 6) dX10_init_46 (by decide) ?_
  refine e_iconst (nI 3) dX10_init_48 (by decide) ?_
  refine n_mna (N := 6) (K := 3) (107) (u + 662) dX10_init_49 cl_mna ac_0 rfl rfl (by decide) (by decide) z_10 (hsh 100 rfl) (fun q hq => hsh _ (fsh_block q hq)) (by omega) (by omega) (by omega) (by omega) ?_
  have z_11 := z_10.mR (N := 6)
  have z_12 := z_11.to (m := 107) (by omega)
  refine n_putR dX10_init_53 fl_RX10_28 (hsh 89 rfl) (by omega) rfl rfl rfl ff_RX10_28 rfl (by unfold fscr; omega) ?_
  have z_13 := z_12.up (k := 89) (j := 12) (v := some (100)) (by omega)
  refine e_aload_n dX10_init_56 rfl rfl ?_
  refine e_bipush (nI 12) dX10_init_57 (by decide) ?_
  refine e_iconst (nI 5) dX10_init_59 (by decide) ?_
  refine n_mna (N := 12) (K := 5) (120) (u + 734) dX10_init_60 cl_mna ac_0 rfl rfl (by decide) (by decide) z_13 (hsh 107 rfl) (fun q hq => hsh _ (fsh_readSlot q hq)) (by omega) (by omega) (by omega) (by omega) ?_
  have z_14 := z_13.mR (N := 12)
  have z_15 := z_14.to (m := 120) (by omega)
  refine n_putR dX10_init_64 fl_RX10_31 (hsh 89 rfl) (by omega) rfl rfl rfl ff_RX10_31 rfl (by unfold fscr; omega) ?_
  have z_16 := z_15.up (k := 89) (j := 13) (v := some (107)) (by omega)
  refine e_aload_n dX10_init_67 rfl rfl ?_
  refine e_bipush (nI 12) dX10_init_68 (by decide) ?_
  refine e_iconst (nI 5) dX10_init_70 (by decide) ?_
  refine n_mna (N := 12) (K := 5) (133) (u + 806) dX10_init_71 cl_mna ac_0 rfl rfl (by decide) (by decide) z_16 (hsh 120 rfl) (fun q hq => hsh _ (fsh_slot q hq)) (by omega) (by omega) (by omega) (by omega) ?_
  have z_17 := z_16.mR (N := 12)
  have z_18 := z_17.to (m := 133) (by omega)
  refine n_putR dX10_init_75 fl_RX10_34 (hsh 89 rfl) (by omega) rfl rfl rfl ff_RX10_34 rfl (by unfold fscr; omega) ?_
  have z_19 := z_18.up (k := 89) (j := 14) (v := some (120)) (by omega)
  refine e_aload_n dX10_init_78 rfl rfl ?_
  refine e_bipush (nI 6) dX10_init_79 (by decide) ?_
  refine e_iconst (nI 5) dX10_init_81 (by decide) ?_
  refine n_mna (N := 6) (K := 5) (140) (u + 842) dX10_init_82 cl_mna ac_0 rfl rfl (by decide) (by decide) z_19 (hsh 133 rfl) (fun q hq => hsh _ (fsh_readOrder q hq)) (by omega) (by omega) (by omega) (by omega) ?_
  have z_20 := z_19.mR (N := 6)
  have z_21 := z_20.to (m := 140) (by omega)
  refine n_putR dX10_init_86 fl_RX10_37 (hsh 89 rfl) (by omega) rfl rfl rfl ff_RX10_37 rfl (by unfold fscr; omega) ?_
  have z_22 := z_21.up (k := 89) (j := 15) (v := some (133)) (by omega)
  refine e_aload_n dX10_init_89 rfl rfl ?_
  refine e_bipush (nI 6) dX10_init_90 (by decide) ?_
  refine e_iconst (nI 5) dX10_init_92 (by decide) ?_
  refine n_mna (N := 6) (K := 5) (147) (u + 878) dX10_init_93 cl_mna ac_0 rfl rfl (by decide) (by decide) z_22 (hsh 140 rfl) (fun q hq => hsh _ (fsh_order q hq)) (by omega) (by omega) (by omega) (by omega) ?_
  have z_23 := z_22.mR (N := 6)
  have z_24 := z_23.to (m := 147) (by omega)
  refine n_putR dX10_init_97 fl_RX10_40 (hsh 89 rfl) (by omega) rfl rfl rfl ff_RX10_40 rfl (by unfold fscr; omega) ?_
  have z_25 := z_24.up (k := 89) (j := 16) (v := some (140)) (by omega)
  refine e_aload_n dX10_init_100 rfl rfl ?_
  refine e_bipush (nI 24) dX10_init_101 (by decide) ?_
  refine e_iconst (nI 3) dX10_init_103 (by decide) ?_
  refine n_mna (N := 24) (K := 3) (172) (u + 974) dX10_init_104 cl_mna ac_0 rfl rfl (by decide) (by decide) z_25 (hsh 147 rfl) (fun q hq => hsh _ (fsh_readOdds q hq)) (by omega) (by omega) (by omega) (by omega) ?_
  have z_26 := z_25.mR (N := 24)
  have z_27 := z_26.to (m := 172) (by omega)
  refine n_putR dX10_init_108 fl_RX10_43 (hsh 89 rfl) (by omega) rfl rfl rfl ff_RX10_43 rfl (by unfold fscr; omega) ?_
  have z_28 := z_27.up (k := 89) (j := 17) (v := some (147)) (by omega)
  refine e_aload_n dX10_init_111 rfl rfl ?_
  refine e_bipush (nI 24) dX10_init_112 (by decide) ?_
  refine e_iconst (nI 3) dX10_init_114 (by decide) ?_
  refine n_mna (N := 24) (K := 3) (197) (u + 1070) dX10_init_115 cl_mna ac_0 rfl rfl (by decide) (by decide) z_28 (hsh 172 rfl) (fun q hq => hsh _ (fsh_odds q hq)) (by omega) (by omega) (by omega) (by omega) ?_
  have z_29 := z_28.mR (N := 24)
  have z_30 := z_29.to (m := 197) (by omega)
  refine n_putR dX10_init_119 fl_RX10_46 (hsh 89 rfl) (by omega) rfl rfl rfl ff_RX10_46 rfl (by unfold fscr; omega) ?_
  have z_31 := z_30.up (k := 89) (j := 18) (v := some (172)) (by omega)
  refine e_aload_n dX10_init_122 rfl rfl ?_
  refine e_sipush (nI 157) dX10_init_123 (by decide) ?_
  refine n_newarr (t := 0) (N := 157) (198) (u + 1227) dX10_init_126 rfl (by decide) ac_0 rfl (by decide) z_31 (hsh 197 rfl) (by omega) (by omega) (by omega) (by omega) ?_
  have z_32 := z_31.to (m := 198) (by omega)
  refine n_putR dX10_init_128 fl_RX10_49 (hsh 89 rfl) (by omega) rfl rfl rfl ff_RX10_49 rfl (by unfold fscr; omega) ?_
  have z_33 := z_32.up (k := 89) (j := 19) (v := some (197)) (by omega)
  refine e_aload_n dX10_init_131 rfl rfl ?_
  refine e_bipush (nI 20) dX10_init_132 (by decide) ?_
  refine e_sipush (nI 157) dX10_init_134 (by decide) ?_
  refine n_mna (N := 20) (K := 157) (219) (u + 4387) dX10_init_137 cl_mna ac_0 rfl rfl (by decide) (by decide) z_33 (hsh 198 rfl) (fun q hq => hsh _ (fsh_aside q hq)) (by omega) (by omega) (by omega) (by omega) ?_
  have z_34 := z_33.mR (N := 20)
  have z_35 := z_34.to (m := 219) (by omega)
  refine n_putR dX10_init_141 fl_RX10_52 (hsh 89 rfl) (by omega) rfl rfl rfl ff_RX10_52 rfl (by unfold fscr; omega) ?_
  have z_36 := z_35.up (k := 89) (j := 20) (v := some (198)) (by omega)
  refine e_aload_n dX10_init_144 rfl rfl ?_
  refine e_bipush (nI 30) dX10_init_145 (by decide) ?_
  refine n_newarr (t := 0) (N := 30) (220) (u + 4417) dX10_init_147 rfl (by decide) ac_0 rfl (by decide) z_36 (hsh 219 rfl) (by omega) (by omega) (by omega) (by omega) ?_
  have z_37 := z_36.to (m := 220) (by omega)
  refine n_putR dX10_init_149 fl_RX10_55 (hsh 89 rfl) (by omega) rfl rfl rfl ff_RX10_55 rfl (by unfold fscr; omega) ?_
  have z_38 := z_37.up (k := 89) (j := 26) (v := some (219)) (by omega)
  refine e_aload_n dX10_init_152 rfl rfl ?_
  refine e_bipush (nI 30) dX10_init_153 (by decide) ?_
  refine n_newarr (t := 0) (N := 30) (221) (u + 4447) dX10_init_155 rfl (by decide) ac_0 rfl (by decide) z_38 (hsh 220 rfl) (by omega) (by omega) (by omega) (by omega) ?_
  have z_39 := z_38.to (m := 221) (by omega)
  refine n_putR dX10_init_157 fl_RX10_58 (hsh 89 rfl) (by omega) rfl rfl rfl ff_RX10_58 rfl (by unfold fscr; omega) ?_
  have z_40 := z_39.up (k := 89) (j := 27) (v := some (220)) (by omega)
  refine e_aload_n dX10_init_160 rfl rfl ?_
  refine e_bipush (nI 60) dX10_init_161 (by decide) ?_
  refine e_iconst (nI 2) dX10_init_163 (by decide) ?_
  refine n_mna (N := 60) (K := 2) (282) (u + 4627) dX10_init_164 cl_mna ac_0 rfl rfl (by decide) (by decide) z_40 (hsh 221 rfl) (fun q hq => hsh _ (fsh_record q hq)) (by omega) (by omega) (by omega) (by omega) ?_
  have z_41 := z_40.mR (N := 60)
  have z_42 := z_41.to (m := 282) (by omega)
  refine n_putR dX10_init_168 fl_RX10_61 (hsh 89 rfl) (by omega) rfl rfl rfl ff_RX10_61 rfl (by unfold fscr; omega) ?_
  have z_43 := z_42.up (k := 89) (j := 28) (v := some (221)) (by omega)
  refine e_aload_n dX10_init_171 rfl rfl ?_
  refine e_bipush (nI 12) dX10_init_172 (by decide) ?_
  refine e_iconst (nI 4) dX10_init_174 (by decide) ?_
  refine n_mna (N := 12) (K := 4) (295) (u + 4687) dX10_init_175 cl_mna ac_0 rfl rfl (by decide) (by decide) z_43 (hsh 282 rfl) (fun q hq => hsh _ (fsh_trace q hq)) (by omega) (by omega) (by omega) (by omega) ?_
  have z_44 := z_43.mR (N := 12)
  have z_45 := z_44.to (m := 295) (by omega)
  refine n_putR dX10_init_179 fl_RX10_64 (hsh 89 rfl) (by omega) rfl rfl rfl ff_RX10_64 rfl (by unfold fscr; omega) ?_
  have z_46 := z_45.up (k := 89) (j := 29) (v := some (282)) (by omega)
  refine e_aload_n dX10_init_182 rfl rfl ?_
  refine e_iconst (nI 3) dX10_init_183 (by decide) ?_
  refine e_sipush (nI 417) dX10_init_184 (by decide) ?_
  refine n_mna (N := 3) (K := 417) (299) (u + 5941) dX10_init_187 cl_mna ac_0 rfl rfl (by decide) (by decide) z_46 (hsh 295 rfl) (fun q hq => hsh _ (fsh_kept q hq)) (by omega) (by omega) (by omega) (by omega) ?_
  have z_47 := z_46.mR (N := 3)
  have z_48 := z_47.to (m := 299) (by omega)
  refine n_putR dX10_init_191 fl_RX10_67 (hsh 89 rfl) (by omega) rfl rfl rfl ff_RX10_67 rfl (by unfold fscr; omega) ?_
  have z_49 := z_48.up (k := 89) (j := 30) (v := some (295)) (by omega)
  refine e_aload_n dX10_init_194 rfl rfl ?_
  refine e_bipush (nI 20) dX10_init_195 (by decide) ?_
  refine n_newarr (t := 0) (N := 20) (300) (u + 5961) dX10_init_197 rfl (by decide) ac_0 rfl (by decide) z_49 (hsh 299 rfl) (by omega) (by omega) (by omega) (by omega) ?_
  have z_50 := z_49.to (m := 300) (by omega)
  refine n_putR dX10_init_199 fl_RX10_70 (hsh 89 rfl) (by omega) rfl rfl rfl ff_RX10_70 rfl (by unfold fscr; omega) ?_
  have z_51 := z_50.up (k := 89) (j := 35) (v := some (299)) (by omega)
  refine e_aload_n dX10_init_202 rfl rfl ?_
  have Mq : fMq g ((300, 0, u + 5961), fup (fup (fmR (fup (fmR (fup (fmR (fup (fup (fup (fmR (fup (fup (fmR (fup (fmR (fup (fmR (fup (fmR (fup (fmR (fup (fmR (fup (fmR (fup (fmR (fup (fup (fup R 89 8 (some 90)) 89 9 (some 91)) 89 10 (some 92)) 93 6) 89 11 (some 93)) 100 6) 89 12 (some 100)) 107 12) 89 13 (some 107)) 120 12) 89 14 (some 120)) 133 6) 89 15 (some 133)) 140 6) 89 16 (some 140)) 147 24) 89 17 (some 147)) 172 24) 89 18 (some 172)) 89 19 (some 197)) 198 20) 89 20 (some 198)) 89 26 (some 219)) 89 27 (some 220)) 221 60) 89 28 (some 221)) 282 12) 89 29 (some 282)) 295 3) 89 30 (some 295)) 89 35 (some 299), (fup I 89 3 (-1)), J) := ⟨funext (fun k => hsh k rfl), by show 300 ≤ 300; omega, by show (fup (fup (fmR (fup (fmR (fup (fmR (fup (fup (fup (fmR (fup (fup (fmR (fup (fmR (fup (fmR (fup (fmR (fup (fmR (fup (fmR (fup (fmR (fup (fmR (fup (fup (fup R 89 8 (some 90)) 89 9 (some 91)) 89 10 (some 92)) 93 6) 89 11 (some 93)) 100 6) 89 12 (some 100)) 107 12) 89 13 (some 107)) 120 12) 89 14 (some 120)) 133 6) 89 15 (some 133)) 140 6) 89 16 (some 140)) 147 24) 89 17 (some 147)) 172 24) 89 18 (some 172)) 89 19 (some 197)) 198 20) 89 20 (some 198)) 89 26 (some 219)) 89 27 (some 220)) 221 60) 89 28 (some 221)) 282 12) 89 29 (some 282)) 295 3) 89 30 (some 295)) 89 35 (some 299)) 89 9 = some 91; rw [fup_o (by omega), fup_o (by omega), fmR_o (by omega), fup_o (by omega), fmR_o (by omega), fup_o (by omega), fmR_o (by omega), fup_o (by omega), fup_o (by omega), fup_o (by omega), fmR_o (by omega), fup_o (by omega), fup_o (by omega), fmR_o (by omega), fup_o (by omega), fmR_o (by omega), fup_o (by omega), fmR_o (by omega), fup_o (by omega), fmR_o (by omega), fup_o (by omega), fmR_o (by omega), fup_o (by omega), fmR_o (by omega), fup_o (by omega), fmR_o (by omega), fup_o (by omega), fmR_o (by omega), fup_o (by omega), fup_s]⟩
  refine e_callV (k := 89) [] dX10_init_203 cc_X10_tellsNothing lk_RX10_73 im_X10_tellsNothing se_X10_tellsNothing (by decide) (hsh 89 rfl) (show 89 < 300 by omega) rfl (Nat.le_of_ble_eq_true rfl) (Nat.le_of_ble_eq_true rfl) ?_
  refine t_X10_tellq Mq (fun σ' sm h91 => fK_v ?_)
  obtain ⟨⟨n1, b1, u1⟩, R1, I1, J1⟩ := σ'
  obtain ⟨e1, e2, e3⟩ := sm
  have e1 : (n1, b1, u1) = (300, 0, u + 5961) := e1
  have e2 : R1 = fup (fup (fmR (fup (fmR (fup (fmR (fup (fup (fup (fmR (fup (fup (fmR (fup (fmR (fup (fmR (fup (fmR (fup (fmR (fup (fmR (fup (fmR (fup (fmR (fup (fup (fup R 89 8 (some 90)) 89 9 (some 91)) 89 10 (some 92)) 93 6) 89 11 (some 93)) 100 6) 89 12 (some 100)) 107 12) 89 13 (some 107)) 120 12) 89 14 (some 120)) 133 6) 89 15 (some 133)) 140 6) 89 16 (some 140)) 147 24) 89 17 (some 147)) 172 24) 89 18 (some 172)) 89 19 (some 197)) 198 20) 89 20 (some 198)) 89 26 (some 219)) 89 27 (some 220)) 221 60) 89 28 (some 221)) 282 12) 89 29 (some 282)) 295 3) 89 30 (some 295)) 89 35 (some 299) := e2
  have e4 : ∀ a, ¬ a = 91 → I1 a = fup I 89 3 (-1) a ∧ J1 a = J a := e3
  have h92 : ∀ j, j < 7 → I1 91 j = nI (dT D0 j) := h91
  clear e3 h91
  cases e1
  subst e2
  show fEv g _ mX10_init 206 [some (.ref 89), none] [] ((300, 0, u + 5961), fup (fup (fmR (fup (fmR (fup (fmR (fup (fup (fup (fmR (fup (fup (fmR (fup (fmR (fup (fmR (fup (fmR (fup (fmR (fup (fmR (fup (fmR (fup (fmR (fup (fup (fup R 89 8 (some 90)) 89 9 (some 91)) 89 10 (some 92)) 93 6) 89 11 (some 93)) 100 6) 89 12 (some 100)) 107 12) 89 13 (some 107)) 120 12) 89 14 (some 120)) 133 6) 89 15 (some 133)) 140 6) 89 16 (some 140)) 147 24) 89 17 (some 147)) 172 24) 89 18 (some 172)) 89 19 (some 197)) 198 20) 89 20 (some 198)) 89 26 (some 219)) 89 27 (some 220)) 221 60) 89 28 (some 221)) 282 12) 89 29 (some 282)) 295 3) 89 30 (some 295)) 89 35 (some 299), I1, J1) Q
  refine e_iconst (nI 0) dX10_init_206 (by decide) ?_
  refine e_istore_n (L1 := [some (.ref 89), some (.int (nI 0))]) dX10_init_207 rfl (by decide) rfl ?_
  refine e_iload_n dX10_init_208 rfl rfl ?_
  refine e_bipush (nI 7) dX10_init_209 (by decide) ?_
  refine e_icmp_ge 232 dX10_init_211 (by decide) (fun c => absurd c (by decide)) (fun _ => ?_)
  refine e_aload_n dX10_init_214 rfl rfl ?_
  refine e_getR (q := 92) dX10_init_215 fl_RX10_20 (hsh 89 rfl) (show 89 < 300 by omega) rfl (by show (fup (fup (fmR (fup (fmR (fup (fmR (fup (fup (fup (fmR (fup (fup (fmR (fup (fmR (fup (fmR (fup (fmR (fup (fmR (fup (fmR (fup (fmR (fup (fmR (fup (fup (fup R 89 8 (some 90)) 89 9 (some 91)) 89 10 (some 92)) 93 6) 89 11 (some 93)) 100 6) 89 12 (some 100)) 107 12) 89 13 (some 107)) 120 12) 89 14 (some 120)) 133 6) 89 15 (some 133)) 140 6) 89 16 (some 140)) 147 24) 89 17 (some 147)) 172 24) 89 18 (some 172)) 89 19 (some 197)) 198 20) 89 20 (some 198)) 89 26 (some 219)) 89 27 (some 220)) 221 60) 89 28 (some 221)) 282 12) 89 29 (some 282)) 295 3) 89 30 (some 295)) 89 35 (some 299)) 89 10 = some 92; rw [fup_o (by omega), fup_o (by omega), fmR_o (by omega), fup_o (by omega), fmR_o (by omega), fup_o (by omega), fmR_o (by omega), fup_o (by omega), fup_o (by omega), fup_o (by omega), fmR_o (by omega), fup_o (by omega), fup_o (by omega), fmR_o (by omega), fup_o (by omega), fmR_o (by omega), fup_o (by omega), fmR_o (by omega), fup_o (by omega), fmR_o (by omega), fup_o (by omega), fmR_o (by omega), fup_o (by omega), fmR_o (by omega), fup_o (by omega), fmR_o (by omega), fup_o (by omega), fmR_o (by omega), fup_s]) (by unfold fscr; omega) ?_
  refine e_iload_n dX10_init_218 rfl rfl ?_
  refine e_aload_n dX10_init_219 rfl rfl ?_
  refine e_getR (q := 91) dX10_init_220 fl_RX10_17 (hsh 89 rfl) (show 89 < 300 by omega) rfl (by show (fup (fup (fmR (fup (fmR (fup (fmR (fup (fup (fup (fmR (fup (fup (fmR (fup (fmR (fup (fmR (fup (fmR (fup (fmR (fup (fmR (fup (fmR (fup (fmR (fup (fup (fup R 89 8 (some 90)) 89 9 (some 91)) 89 10 (some 92)) 93 6) 89 11 (some 93)) 100 6) 89 12 (some 100)) 107 12) 89 13 (some 107)) 120 12) 89 14 (some 120)) 133 6) 89 15 (some 133)) 140 6) 89 16 (some 140)) 147 24) 89 17 (some 147)) 172 24) 89 18 (some 172)) 89 19 (some 197)) 198 20) 89 20 (some 198)) 89 26 (some 219)) 89 27 (some 220)) 221 60) 89 28 (some 221)) 282 12) 89 29 (some 282)) 295 3) 89 30 (some 295)) 89 35 (some 299)) 89 9 = some 91; rw [fup_o (by omega), fup_o (by omega), fmR_o (by omega), fup_o (by omega), fmR_o (by omega), fup_o (by omega), fmR_o (by omega), fup_o (by omega), fup_o (by omega), fup_o (by omega), fmR_o (by omega), fup_o (by omega), fup_o (by omega), fmR_o (by omega), fup_o (by omega), fmR_o (by omega), fup_o (by omega), fmR_o (by omega), fup_o (by omega), fmR_o (by omega), fup_o (by omega), fmR_o (by omega), fup_o (by omega), fmR_o (by omega), fup_o (by omega), fmR_o (by omega), fup_o (by omega), fmR_o (by omega), fup_o (by omega), fup_s]) (by unfold fscr; omega) ?_
  refine e_iload_n dX10_init_223 rfl rfl ?_
  refine e_iaload 0 dX10_init_224 (hsh 91 rfl) (show 91 < 300 by omega) rfl (by decide) (by decide) ?_
  refine e_int (nI (dT D0 0)) (h92 0 (by decide)) ?_
  refine e_iastore 0 dX10_init_225 (hsh 92 rfl) (show 92 < 300 by omega) rfl (by decide) (by decide) ?_
  show fEv g _ mX10_init 226 [some (.ref 89), some (.int (nI 0))] [] ((300, 0, u + 5961), fup (fup (fmR (fup (fmR (fup (fmR (fup (fup (fup (fmR (fup (fup (fmR (fup (fmR (fup (fmR (fup (fmR (fup (fmR (fup (fmR (fup (fmR (fup (fmR (fup (fup (fup R 89 8 (some 90)) 89 9 (some 91)) 89 10 (some 92)) 93 6) 89 11 (some 93)) 100 6) 89 12 (some 100)) 107 12) 89 13 (some 107)) 120 12) 89 14 (some 120)) 133 6) 89 15 (some 133)) 140 6) 89 16 (some 140)) 147 24) 89 17 (some 147)) 172 24) 89 18 (some 172)) 89 19 (some 197)) 198 20) 89 20 (some 198)) 89 26 (some 219)) 89 27 (some 220)) 221 60) 89 28 (some 221)) 282 12) 89 29 (some 282)) 295 3) 89 30 (some 295)) 89 35 (some 299), (fup I1 92 0 (nI (dT D0 0))), J1) Q
  refine e_iinc (v := nI 1) (L1 := [some (.ref 89), some (.int (nI 1))]) dX10_init_226 rfl (by decide) (by decide) rfl ?_
  refine e_goto 208 dX10_init_229 (by decide) ?_
  refine e_iload_n dX10_init_208 rfl rfl ?_
  refine e_bipush (nI 7) dX10_init_209 (by decide) ?_
  refine e_icmp_ge 232 dX10_init_211 (by decide) (fun c => absurd c (by decide)) (fun _ => ?_)
  refine e_aload_n dX10_init_214 rfl rfl ?_
  refine e_getR (q := 92) dX10_init_215 fl_RX10_20 (hsh 89 rfl) (show 89 < 300 by omega) rfl (by show (fup (fup (fmR (fup (fmR (fup (fmR (fup (fup (fup (fmR (fup (fup (fmR (fup (fmR (fup (fmR (fup (fmR (fup (fmR (fup (fmR (fup (fmR (fup (fmR (fup (fup (fup R 89 8 (some 90)) 89 9 (some 91)) 89 10 (some 92)) 93 6) 89 11 (some 93)) 100 6) 89 12 (some 100)) 107 12) 89 13 (some 107)) 120 12) 89 14 (some 120)) 133 6) 89 15 (some 133)) 140 6) 89 16 (some 140)) 147 24) 89 17 (some 147)) 172 24) 89 18 (some 172)) 89 19 (some 197)) 198 20) 89 20 (some 198)) 89 26 (some 219)) 89 27 (some 220)) 221 60) 89 28 (some 221)) 282 12) 89 29 (some 282)) 295 3) 89 30 (some 295)) 89 35 (some 299)) 89 10 = some 92; rw [fup_o (by omega), fup_o (by omega), fmR_o (by omega), fup_o (by omega), fmR_o (by omega), fup_o (by omega), fmR_o (by omega), fup_o (by omega), fup_o (by omega), fup_o (by omega), fmR_o (by omega), fup_o (by omega), fup_o (by omega), fmR_o (by omega), fup_o (by omega), fmR_o (by omega), fup_o (by omega), fmR_o (by omega), fup_o (by omega), fmR_o (by omega), fup_o (by omega), fmR_o (by omega), fup_o (by omega), fmR_o (by omega), fup_o (by omega), fmR_o (by omega), fup_o (by omega), fmR_o (by omega), fup_s]) (by unfold fscr; omega) ?_
  refine e_iload_n dX10_init_218 rfl rfl ?_
  refine e_aload_n dX10_init_219 rfl rfl ?_
  refine e_getR (q := 91) dX10_init_220 fl_RX10_17 (hsh 89 rfl) (show 89 < 300 by omega) rfl (by show (fup (fup (fmR (fup (fmR (fup (fmR (fup (fup (fup (fmR (fup (fup (fmR (fup (fmR (fup (fmR (fup (fmR (fup (fmR (fup (fmR (fup (fmR (fup (fmR (fup (fup (fup R 89 8 (some 90)) 89 9 (some 91)) 89 10 (some 92)) 93 6) 89 11 (some 93)) 100 6) 89 12 (some 100)) 107 12) 89 13 (some 107)) 120 12) 89 14 (some 120)) 133 6) 89 15 (some 133)) 140 6) 89 16 (some 140)) 147 24) 89 17 (some 147)) 172 24) 89 18 (some 172)) 89 19 (some 197)) 198 20) 89 20 (some 198)) 89 26 (some 219)) 89 27 (some 220)) 221 60) 89 28 (some 221)) 282 12) 89 29 (some 282)) 295 3) 89 30 (some 295)) 89 35 (some 299)) 89 9 = some 91; rw [fup_o (by omega), fup_o (by omega), fmR_o (by omega), fup_o (by omega), fmR_o (by omega), fup_o (by omega), fmR_o (by omega), fup_o (by omega), fup_o (by omega), fup_o (by omega), fmR_o (by omega), fup_o (by omega), fup_o (by omega), fmR_o (by omega), fup_o (by omega), fmR_o (by omega), fup_o (by omega), fmR_o (by omega), fup_o (by omega), fmR_o (by omega), fup_o (by omega), fmR_o (by omega), fup_o (by omega), fmR_o (by omega), fup_o (by omega), fmR_o (by omega), fup_o (by omega), fmR_o (by omega), fup_o (by omega), fup_s]) (by unfold fscr; omega) ?_
  refine e_iload_n dX10_init_223 rfl rfl ?_
  refine e_iaload 1 dX10_init_224 (hsh 91 rfl) (show 91 < 300 by omega) rfl (by decide) (by decide) ?_
  refine e_int (nI (dT D0 1)) (by show (fup I1 92 0 (nI (dT D0 0))) 91 1 = _; rw [fup_o (by omega)]; exact h92 1 (by decide)) ?_
  refine e_iastore 1 dX10_init_225 (hsh 92 rfl) (show 92 < 300 by omega) rfl (by decide) (by decide) ?_
  show fEv g _ mX10_init 226 [some (.ref 89), some (.int (nI 1))] [] ((300, 0, u + 5961), fup (fup (fmR (fup (fmR (fup (fmR (fup (fup (fup (fmR (fup (fup (fmR (fup (fmR (fup (fmR (fup (fmR (fup (fmR (fup (fmR (fup (fmR (fup (fmR (fup (fup (fup R 89 8 (some 90)) 89 9 (some 91)) 89 10 (some 92)) 93 6) 89 11 (some 93)) 100 6) 89 12 (some 100)) 107 12) 89 13 (some 107)) 120 12) 89 14 (some 120)) 133 6) 89 15 (some 133)) 140 6) 89 16 (some 140)) 147 24) 89 17 (some 147)) 172 24) 89 18 (some 172)) 89 19 (some 197)) 198 20) 89 20 (some 198)) 89 26 (some 219)) 89 27 (some 220)) 221 60) 89 28 (some 221)) 282 12) 89 29 (some 282)) 295 3) 89 30 (some 295)) 89 35 (some 299), (fup (fup I1 92 0 (nI (dT D0 0))) 92 1 (nI (dT D0 1))), J1) Q
  refine e_iinc (v := nI 2) (L1 := [some (.ref 89), some (.int (nI 2))]) dX10_init_226 rfl (by decide) (by decide) rfl ?_
  refine e_goto 208 dX10_init_229 (by decide) ?_
  refine e_iload_n dX10_init_208 rfl rfl ?_
  refine e_bipush (nI 7) dX10_init_209 (by decide) ?_
  refine e_icmp_ge 232 dX10_init_211 (by decide) (fun c => absurd c (by decide)) (fun _ => ?_)
  refine e_aload_n dX10_init_214 rfl rfl ?_
  refine e_getR (q := 92) dX10_init_215 fl_RX10_20 (hsh 89 rfl) (show 89 < 300 by omega) rfl (by show (fup (fup (fmR (fup (fmR (fup (fmR (fup (fup (fup (fmR (fup (fup (fmR (fup (fmR (fup (fmR (fup (fmR (fup (fmR (fup (fmR (fup (fmR (fup (fmR (fup (fup (fup R 89 8 (some 90)) 89 9 (some 91)) 89 10 (some 92)) 93 6) 89 11 (some 93)) 100 6) 89 12 (some 100)) 107 12) 89 13 (some 107)) 120 12) 89 14 (some 120)) 133 6) 89 15 (some 133)) 140 6) 89 16 (some 140)) 147 24) 89 17 (some 147)) 172 24) 89 18 (some 172)) 89 19 (some 197)) 198 20) 89 20 (some 198)) 89 26 (some 219)) 89 27 (some 220)) 221 60) 89 28 (some 221)) 282 12) 89 29 (some 282)) 295 3) 89 30 (some 295)) 89 35 (some 299)) 89 10 = some 92; rw [fup_o (by omega), fup_o (by omega), fmR_o (by omega), fup_o (by omega), fmR_o (by omega), fup_o (by omega), fmR_o (by omega), fup_o (by omega), fup_o (by omega), fup_o (by omega), fmR_o (by omega), fup_o (by omega), fup_o (by omega), fmR_o (by omega), fup_o (by omega), fmR_o (by omega), fup_o (by omega), fmR_o (by omega), fup_o (by omega), fmR_o (by omega), fup_o (by omega), fmR_o (by omega), fup_o (by omega), fmR_o (by omega), fup_o (by omega), fmR_o (by omega), fup_o (by omega), fmR_o (by omega), fup_s]) (by unfold fscr; omega) ?_
  refine e_iload_n dX10_init_218 rfl rfl ?_
  refine e_aload_n dX10_init_219 rfl rfl ?_
  refine e_getR (q := 91) dX10_init_220 fl_RX10_17 (hsh 89 rfl) (show 89 < 300 by omega) rfl (by show (fup (fup (fmR (fup (fmR (fup (fmR (fup (fup (fup (fmR (fup (fup (fmR (fup (fmR (fup (fmR (fup (fmR (fup (fmR (fup (fmR (fup (fmR (fup (fmR (fup (fup (fup R 89 8 (some 90)) 89 9 (some 91)) 89 10 (some 92)) 93 6) 89 11 (some 93)) 100 6) 89 12 (some 100)) 107 12) 89 13 (some 107)) 120 12) 89 14 (some 120)) 133 6) 89 15 (some 133)) 140 6) 89 16 (some 140)) 147 24) 89 17 (some 147)) 172 24) 89 18 (some 172)) 89 19 (some 197)) 198 20) 89 20 (some 198)) 89 26 (some 219)) 89 27 (some 220)) 221 60) 89 28 (some 221)) 282 12) 89 29 (some 282)) 295 3) 89 30 (some 295)) 89 35 (some 299)) 89 9 = some 91; rw [fup_o (by omega), fup_o (by omega), fmR_o (by omega), fup_o (by omega), fmR_o (by omega), fup_o (by omega), fmR_o (by omega), fup_o (by omega), fup_o (by omega), fup_o (by omega), fmR_o (by omega), fup_o (by omega), fup_o (by omega), fmR_o (by omega), fup_o (by omega), fmR_o (by omega), fup_o (by omega), fmR_o (by omega), fup_o (by omega), fmR_o (by omega), fup_o (by omega), fmR_o (by omega), fup_o (by omega), fmR_o (by omega), fup_o (by omega), fmR_o (by omega), fup_o (by omega), fmR_o (by omega), fup_o (by omega), fup_s]) (by unfold fscr; omega) ?_
  refine e_iload_n dX10_init_223 rfl rfl ?_
  refine e_iaload 2 dX10_init_224 (hsh 91 rfl) (show 91 < 300 by omega) rfl (by decide) (by decide) ?_
  refine e_int (nI (dT D0 2)) (by show (fup (fup I1 92 0 (nI (dT D0 0))) 92 1 (nI (dT D0 1))) 91 2 = _; rw [fup_o (by omega), fup_o (by omega)]; exact h92 2 (by decide)) ?_
  refine e_iastore 2 dX10_init_225 (hsh 92 rfl) (show 92 < 300 by omega) rfl (by decide) (by decide) ?_
  show fEv g _ mX10_init 226 [some (.ref 89), some (.int (nI 2))] [] ((300, 0, u + 5961), fup (fup (fmR (fup (fmR (fup (fmR (fup (fup (fup (fmR (fup (fup (fmR (fup (fmR (fup (fmR (fup (fmR (fup (fmR (fup (fmR (fup (fmR (fup (fmR (fup (fup (fup R 89 8 (some 90)) 89 9 (some 91)) 89 10 (some 92)) 93 6) 89 11 (some 93)) 100 6) 89 12 (some 100)) 107 12) 89 13 (some 107)) 120 12) 89 14 (some 120)) 133 6) 89 15 (some 133)) 140 6) 89 16 (some 140)) 147 24) 89 17 (some 147)) 172 24) 89 18 (some 172)) 89 19 (some 197)) 198 20) 89 20 (some 198)) 89 26 (some 219)) 89 27 (some 220)) 221 60) 89 28 (some 221)) 282 12) 89 29 (some 282)) 295 3) 89 30 (some 295)) 89 35 (some 299), (fup (fup (fup I1 92 0 (nI (dT D0 0))) 92 1 (nI (dT D0 1))) 92 2 (nI (dT D0 2))), J1) Q
  refine e_iinc (v := nI 3) (L1 := [some (.ref 89), some (.int (nI 3))]) dX10_init_226 rfl (by decide) (by decide) rfl ?_
  refine e_goto 208 dX10_init_229 (by decide) ?_
  refine e_iload_n dX10_init_208 rfl rfl ?_
  refine e_bipush (nI 7) dX10_init_209 (by decide) ?_
  refine e_icmp_ge 232 dX10_init_211 (by decide) (fun c => absurd c (by decide)) (fun _ => ?_)
  refine e_aload_n dX10_init_214 rfl rfl ?_
  refine e_getR (q := 92) dX10_init_215 fl_RX10_20 (hsh 89 rfl) (show 89 < 300 by omega) rfl (by show (fup (fup (fmR (fup (fmR (fup (fmR (fup (fup (fup (fmR (fup (fup (fmR (fup (fmR (fup (fmR (fup (fmR (fup (fmR (fup (fmR (fup (fmR (fup (fmR (fup (fup (fup R 89 8 (some 90)) 89 9 (some 91)) 89 10 (some 92)) 93 6) 89 11 (some 93)) 100 6) 89 12 (some 100)) 107 12) 89 13 (some 107)) 120 12) 89 14 (some 120)) 133 6) 89 15 (some 133)) 140 6) 89 16 (some 140)) 147 24) 89 17 (some 147)) 172 24) 89 18 (some 172)) 89 19 (some 197)) 198 20) 89 20 (some 198)) 89 26 (some 219)) 89 27 (some 220)) 221 60) 89 28 (some 221)) 282 12) 89 29 (some 282)) 295 3) 89 30 (some 295)) 89 35 (some 299)) 89 10 = some 92; rw [fup_o (by omega), fup_o (by omega), fmR_o (by omega), fup_o (by omega), fmR_o (by omega), fup_o (by omega), fmR_o (by omega), fup_o (by omega), fup_o (by omega), fup_o (by omega), fmR_o (by omega), fup_o (by omega), fup_o (by omega), fmR_o (by omega), fup_o (by omega), fmR_o (by omega), fup_o (by omega), fmR_o (by omega), fup_o (by omega), fmR_o (by omega), fup_o (by omega), fmR_o (by omega), fup_o (by omega), fmR_o (by omega), fup_o (by omega), fmR_o (by omega), fup_o (by omega), fmR_o (by omega), fup_s]) (by unfold fscr; omega) ?_
  refine e_iload_n dX10_init_218 rfl rfl ?_
  refine e_aload_n dX10_init_219 rfl rfl ?_
  refine e_getR (q := 91) dX10_init_220 fl_RX10_17 (hsh 89 rfl) (show 89 < 300 by omega) rfl (by show (fup (fup (fmR (fup (fmR (fup (fmR (fup (fup (fup (fmR (fup (fup (fmR (fup (fmR (fup (fmR (fup (fmR (fup (fmR (fup (fmR (fup (fmR (fup (fmR (fup (fup (fup R 89 8 (some 90)) 89 9 (some 91)) 89 10 (some 92)) 93 6) 89 11 (some 93)) 100 6) 89 12 (some 100)) 107 12) 89 13 (some 107)) 120 12) 89 14 (some 120)) 133 6) 89 15 (some 133)) 140 6) 89 16 (some 140)) 147 24) 89 17 (some 147)) 172 24) 89 18 (some 172)) 89 19 (some 197)) 198 20) 89 20 (some 198)) 89 26 (some 219)) 89 27 (some 220)) 221 60) 89 28 (some 221)) 282 12) 89 29 (some 282)) 295 3) 89 30 (some 295)) 89 35 (some 299)) 89 9 = some 91; rw [fup_o (by omega), fup_o (by omega), fmR_o (by omega), fup_o (by omega), fmR_o (by omega), fup_o (by omega), fmR_o (by omega), fup_o (by omega), fup_o (by omega), fup_o (by omega), fmR_o (by omega), fup_o (by omega), fup_o (by omega), fmR_o (by omega), fup_o (by omega), fmR_o (by omega), fup_o (by omega), fmR_o (by omega), fup_o (by omega), fmR_o (by omega), fup_o (by omega), fmR_o (by omega), fup_o (by omega), fmR_o (by omega), fup_o (by omega), fmR_o (by omega), fup_o (by omega), fmR_o (by omega), fup_o (by omega), fup_s]) (by unfold fscr; omega) ?_
  refine e_iload_n dX10_init_223 rfl rfl ?_
  refine e_iaload 3 dX10_init_224 (hsh 91 rfl) (show 91 < 300 by omega) rfl (by decide) (by decide) ?_
  refine e_int (nI (dT D0 3)) (by show (fup (fup (fup I1 92 0 (nI (dT D0 0))) 92 1 (nI (dT D0 1))) 92 2 (nI (dT D0 2))) 91 3 = _; rw [fup_o (by omega), fup_o (by omega), fup_o (by omega)]; exact h92 3 (by decide)) ?_
  refine e_iastore 3 dX10_init_225 (hsh 92 rfl) (show 92 < 300 by omega) rfl (by decide) (by decide) ?_
  show fEv g _ mX10_init 226 [some (.ref 89), some (.int (nI 3))] [] ((300, 0, u + 5961), fup (fup (fmR (fup (fmR (fup (fmR (fup (fup (fup (fmR (fup (fup (fmR (fup (fmR (fup (fmR (fup (fmR (fup (fmR (fup (fmR (fup (fmR (fup (fmR (fup (fup (fup R 89 8 (some 90)) 89 9 (some 91)) 89 10 (some 92)) 93 6) 89 11 (some 93)) 100 6) 89 12 (some 100)) 107 12) 89 13 (some 107)) 120 12) 89 14 (some 120)) 133 6) 89 15 (some 133)) 140 6) 89 16 (some 140)) 147 24) 89 17 (some 147)) 172 24) 89 18 (some 172)) 89 19 (some 197)) 198 20) 89 20 (some 198)) 89 26 (some 219)) 89 27 (some 220)) 221 60) 89 28 (some 221)) 282 12) 89 29 (some 282)) 295 3) 89 30 (some 295)) 89 35 (some 299), (fup (fup (fup (fup I1 92 0 (nI (dT D0 0))) 92 1 (nI (dT D0 1))) 92 2 (nI (dT D0 2))) 92 3 (nI (dT D0 3))), J1) Q
  refine e_iinc (v := nI 4) (L1 := [some (.ref 89), some (.int (nI 4))]) dX10_init_226 rfl (by decide) (by decide) rfl ?_
  refine e_goto 208 dX10_init_229 (by decide) ?_
  refine e_iload_n dX10_init_208 rfl rfl ?_
  refine e_bipush (nI 7) dX10_init_209 (by decide) ?_
  refine e_icmp_ge 232 dX10_init_211 (by decide) (fun c => absurd c (by decide)) (fun _ => ?_)
  refine e_aload_n dX10_init_214 rfl rfl ?_
  refine e_getR (q := 92) dX10_init_215 fl_RX10_20 (hsh 89 rfl) (show 89 < 300 by omega) rfl (by show (fup (fup (fmR (fup (fmR (fup (fmR (fup (fup (fup (fmR (fup (fup (fmR (fup (fmR (fup (fmR (fup (fmR (fup (fmR (fup (fmR (fup (fmR (fup (fmR (fup (fup (fup R 89 8 (some 90)) 89 9 (some 91)) 89 10 (some 92)) 93 6) 89 11 (some 93)) 100 6) 89 12 (some 100)) 107 12) 89 13 (some 107)) 120 12) 89 14 (some 120)) 133 6) 89 15 (some 133)) 140 6) 89 16 (some 140)) 147 24) 89 17 (some 147)) 172 24) 89 18 (some 172)) 89 19 (some 197)) 198 20) 89 20 (some 198)) 89 26 (some 219)) 89 27 (some 220)) 221 60) 89 28 (some 221)) 282 12) 89 29 (some 282)) 295 3) 89 30 (some 295)) 89 35 (some 299)) 89 10 = some 92; rw [fup_o (by omega), fup_o (by omega), fmR_o (by omega), fup_o (by omega), fmR_o (by omega), fup_o (by omega), fmR_o (by omega), fup_o (by omega), fup_o (by omega), fup_o (by omega), fmR_o (by omega), fup_o (by omega), fup_o (by omega), fmR_o (by omega), fup_o (by omega), fmR_o (by omega), fup_o (by omega), fmR_o (by omega), fup_o (by omega), fmR_o (by omega), fup_o (by omega), fmR_o (by omega), fup_o (by omega), fmR_o (by omega), fup_o (by omega), fmR_o (by omega), fup_o (by omega), fmR_o (by omega), fup_s]) (by unfold fscr; omega) ?_
  refine e_iload_n dX10_init_218 rfl rfl ?_
  refine e_aload_n dX10_init_219 rfl rfl ?_
  refine e_getR (q := 91) dX10_init_220 fl_RX10_17 (hsh 89 rfl) (show 89 < 300 by omega) rfl (by show (fup (fup (fmR (fup (fmR (fup (fmR (fup (fup (fup (fmR (fup (fup (fmR (fup (fmR (fup (fmR (fup (fmR (fup (fmR (fup (fmR (fup (fmR (fup (fmR (fup (fup (fup R 89 8 (some 90)) 89 9 (some 91)) 89 10 (some 92)) 93 6) 89 11 (some 93)) 100 6) 89 12 (some 100)) 107 12) 89 13 (some 107)) 120 12) 89 14 (some 120)) 133 6) 89 15 (some 133)) 140 6) 89 16 (some 140)) 147 24) 89 17 (some 147)) 172 24) 89 18 (some 172)) 89 19 (some 197)) 198 20) 89 20 (some 198)) 89 26 (some 219)) 89 27 (some 220)) 221 60) 89 28 (some 221)) 282 12) 89 29 (some 282)) 295 3) 89 30 (some 295)) 89 35 (some 299)) 89 9 = some 91; rw [fup_o (by omega), fup_o (by omega), fmR_o (by omega), fup_o (by omega), fmR_o (by omega), fup_o (by omega), fmR_o (by omega), fup_o (by omega), fup_o (by omega), fup_o (by omega), fmR_o (by omega), fup_o (by omega), fup_o (by omega), fmR_o (by omega), fup_o (by omega), fmR_o (by omega), fup_o (by omega), fmR_o (by omega), fup_o (by omega), fmR_o (by omega), fup_o (by omega), fmR_o (by omega), fup_o (by omega), fmR_o (by omega), fup_o (by omega), fmR_o (by omega), fup_o (by omega), fmR_o (by omega), fup_o (by omega), fup_s]) (by unfold fscr; omega) ?_
  refine e_iload_n dX10_init_223 rfl rfl ?_
  refine e_iaload 4 dX10_init_224 (hsh 91 rfl) (show 91 < 300 by omega) rfl (by decide) (by decide) ?_
  refine e_int (nI (dT D0 4)) (by show (fup (fup (fup (fup I1 92 0 (nI (dT D0 0))) 92 1 (nI (dT D0 1))) 92 2 (nI (dT D0 2))) 92 3 (nI (dT D0 3))) 91 4 = _; rw [fup_o (by omega), fup_o (by omega), fup_o (by omega), fup_o (by omega)]; exact h92 4 (by decide)) ?_
  refine e_iastore 4 dX10_init_225 (hsh 92 rfl) (show 92 < 300 by omega) rfl (by decide) (by decide) ?_
  show fEv g _ mX10_init 226 [some (.ref 89), some (.int (nI 4))] [] ((300, 0, u + 5961), fup (fup (fmR (fup (fmR (fup (fmR (fup (fup (fup (fmR (fup (fup (fmR (fup (fmR (fup (fmR (fup (fmR (fup (fmR (fup (fmR (fup (fmR (fup (fmR (fup (fup (fup R 89 8 (some 90)) 89 9 (some 91)) 89 10 (some 92)) 93 6) 89 11 (some 93)) 100 6) 89 12 (some 100)) 107 12) 89 13 (some 107)) 120 12) 89 14 (some 120)) 133 6) 89 15 (some 133)) 140 6) 89 16 (some 140)) 147 24) 89 17 (some 147)) 172 24) 89 18 (some 172)) 89 19 (some 197)) 198 20) 89 20 (some 198)) 89 26 (some 219)) 89 27 (some 220)) 221 60) 89 28 (some 221)) 282 12) 89 29 (some 282)) 295 3) 89 30 (some 295)) 89 35 (some 299), (fup (fup (fup (fup (fup I1 92 0 (nI (dT D0 0))) 92 1 (nI (dT D0 1))) 92 2 (nI (dT D0 2))) 92 3 (nI (dT D0 3))) 92 4 (nI (dT D0 4))), J1) Q
  refine e_iinc (v := nI 5) (L1 := [some (.ref 89), some (.int (nI 5))]) dX10_init_226 rfl (by decide) (by decide) rfl ?_
  refine e_goto 208 dX10_init_229 (by decide) ?_
  refine e_iload_n dX10_init_208 rfl rfl ?_
  refine e_bipush (nI 7) dX10_init_209 (by decide) ?_
  refine e_icmp_ge 232 dX10_init_211 (by decide) (fun c => absurd c (by decide)) (fun _ => ?_)
  refine e_aload_n dX10_init_214 rfl rfl ?_
  refine e_getR (q := 92) dX10_init_215 fl_RX10_20 (hsh 89 rfl) (show 89 < 300 by omega) rfl (by show (fup (fup (fmR (fup (fmR (fup (fmR (fup (fup (fup (fmR (fup (fup (fmR (fup (fmR (fup (fmR (fup (fmR (fup (fmR (fup (fmR (fup (fmR (fup (fmR (fup (fup (fup R 89 8 (some 90)) 89 9 (some 91)) 89 10 (some 92)) 93 6) 89 11 (some 93)) 100 6) 89 12 (some 100)) 107 12) 89 13 (some 107)) 120 12) 89 14 (some 120)) 133 6) 89 15 (some 133)) 140 6) 89 16 (some 140)) 147 24) 89 17 (some 147)) 172 24) 89 18 (some 172)) 89 19 (some 197)) 198 20) 89 20 (some 198)) 89 26 (some 219)) 89 27 (some 220)) 221 60) 89 28 (some 221)) 282 12) 89 29 (some 282)) 295 3) 89 30 (some 295)) 89 35 (some 299)) 89 10 = some 92; rw [fup_o (by omega), fup_o (by omega), fmR_o (by omega), fup_o (by omega), fmR_o (by omega), fup_o (by omega), fmR_o (by omega), fup_o (by omega), fup_o (by omega), fup_o (by omega), fmR_o (by omega), fup_o (by omega), fup_o (by omega), fmR_o (by omega), fup_o (by omega), fmR_o (by omega), fup_o (by omega), fmR_o (by omega), fup_o (by omega), fmR_o (by omega), fup_o (by omega), fmR_o (by omega), fup_o (by omega), fmR_o (by omega), fup_o (by omega), fmR_o (by omega), fup_o (by omega), fmR_o (by omega), fup_s]) (by unfold fscr; omega) ?_
  refine e_iload_n dX10_init_218 rfl rfl ?_
  refine e_aload_n dX10_init_219 rfl rfl ?_
  refine e_getR (q := 91) dX10_init_220 fl_RX10_17 (hsh 89 rfl) (show 89 < 300 by omega) rfl (by show (fup (fup (fmR (fup (fmR (fup (fmR (fup (fup (fup (fmR (fup (fup (fmR (fup (fmR (fup (fmR (fup (fmR (fup (fmR (fup (fmR (fup (fmR (fup (fmR (fup (fup (fup R 89 8 (some 90)) 89 9 (some 91)) 89 10 (some 92)) 93 6) 89 11 (some 93)) 100 6) 89 12 (some 100)) 107 12) 89 13 (some 107)) 120 12) 89 14 (some 120)) 133 6) 89 15 (some 133)) 140 6) 89 16 (some 140)) 147 24) 89 17 (some 147)) 172 24) 89 18 (some 172)) 89 19 (some 197)) 198 20) 89 20 (some 198)) 89 26 (some 219)) 89 27 (some 220)) 221 60) 89 28 (some 221)) 282 12) 89 29 (some 282)) 295 3) 89 30 (some 295)) 89 35 (some 299)) 89 9 = some 91; rw [fup_o (by omega), fup_o (by omega), fmR_o (by omega), fup_o (by omega), fmR_o (by omega), fup_o (by omega), fmR_o (by omega), fup_o (by omega), fup_o (by omega), fup_o (by omega), fmR_o (by omega), fup_o (by omega), fup_o (by omega), fmR_o (by omega), fup_o (by omega), fmR_o (by omega), fup_o (by omega), fmR_o (by omega), fup_o (by omega), fmR_o (by omega), fup_o (by omega), fmR_o (by omega), fup_o (by omega), fmR_o (by omega), fup_o (by omega), fmR_o (by omega), fup_o (by omega), fmR_o (by omega), fup_o (by omega), fup_s]) (by unfold fscr; omega) ?_
  refine e_iload_n dX10_init_223 rfl rfl ?_
  refine e_iaload 5 dX10_init_224 (hsh 91 rfl) (show 91 < 300 by omega) rfl (by decide) (by decide) ?_
  refine e_int (nI (dT D0 5)) (by show (fup (fup (fup (fup (fup I1 92 0 (nI (dT D0 0))) 92 1 (nI (dT D0 1))) 92 2 (nI (dT D0 2))) 92 3 (nI (dT D0 3))) 92 4 (nI (dT D0 4))) 91 5 = _; rw [fup_o (by omega), fup_o (by omega), fup_o (by omega), fup_o (by omega), fup_o (by omega)]; exact h92 5 (by decide)) ?_
  refine e_iastore 5 dX10_init_225 (hsh 92 rfl) (show 92 < 300 by omega) rfl (by decide) (by decide) ?_
  show fEv g _ mX10_init 226 [some (.ref 89), some (.int (nI 5))] [] ((300, 0, u + 5961), fup (fup (fmR (fup (fmR (fup (fmR (fup (fup (fup (fmR (fup (fup (fmR (fup (fmR (fup (fmR (fup (fmR (fup (fmR (fup (fmR (fup (fmR (fup (fmR (fup (fup (fup R 89 8 (some 90)) 89 9 (some 91)) 89 10 (some 92)) 93 6) 89 11 (some 93)) 100 6) 89 12 (some 100)) 107 12) 89 13 (some 107)) 120 12) 89 14 (some 120)) 133 6) 89 15 (some 133)) 140 6) 89 16 (some 140)) 147 24) 89 17 (some 147)) 172 24) 89 18 (some 172)) 89 19 (some 197)) 198 20) 89 20 (some 198)) 89 26 (some 219)) 89 27 (some 220)) 221 60) 89 28 (some 221)) 282 12) 89 29 (some 282)) 295 3) 89 30 (some 295)) 89 35 (some 299), (fup (fup (fup (fup (fup (fup I1 92 0 (nI (dT D0 0))) 92 1 (nI (dT D0 1))) 92 2 (nI (dT D0 2))) 92 3 (nI (dT D0 3))) 92 4 (nI (dT D0 4))) 92 5 (nI (dT D0 5))), J1) Q
  refine e_iinc (v := nI 6) (L1 := [some (.ref 89), some (.int (nI 6))]) dX10_init_226 rfl (by decide) (by decide) rfl ?_
  refine e_goto 208 dX10_init_229 (by decide) ?_
  refine e_iload_n dX10_init_208 rfl rfl ?_
  refine e_bipush (nI 7) dX10_init_209 (by decide) ?_
  refine e_icmp_ge 232 dX10_init_211 (by decide) (fun c => absurd c (by decide)) (fun _ => ?_)
  refine e_aload_n dX10_init_214 rfl rfl ?_
  refine e_getR (q := 92) dX10_init_215 fl_RX10_20 (hsh 89 rfl) (show 89 < 300 by omega) rfl (by show (fup (fup (fmR (fup (fmR (fup (fmR (fup (fup (fup (fmR (fup (fup (fmR (fup (fmR (fup (fmR (fup (fmR (fup (fmR (fup (fmR (fup (fmR (fup (fmR (fup (fup (fup R 89 8 (some 90)) 89 9 (some 91)) 89 10 (some 92)) 93 6) 89 11 (some 93)) 100 6) 89 12 (some 100)) 107 12) 89 13 (some 107)) 120 12) 89 14 (some 120)) 133 6) 89 15 (some 133)) 140 6) 89 16 (some 140)) 147 24) 89 17 (some 147)) 172 24) 89 18 (some 172)) 89 19 (some 197)) 198 20) 89 20 (some 198)) 89 26 (some 219)) 89 27 (some 220)) 221 60) 89 28 (some 221)) 282 12) 89 29 (some 282)) 295 3) 89 30 (some 295)) 89 35 (some 299)) 89 10 = some 92; rw [fup_o (by omega), fup_o (by omega), fmR_o (by omega), fup_o (by omega), fmR_o (by omega), fup_o (by omega), fmR_o (by omega), fup_o (by omega), fup_o (by omega), fup_o (by omega), fmR_o (by omega), fup_o (by omega), fup_o (by omega), fmR_o (by omega), fup_o (by omega), fmR_o (by omega), fup_o (by omega), fmR_o (by omega), fup_o (by omega), fmR_o (by omega), fup_o (by omega), fmR_o (by omega), fup_o (by omega), fmR_o (by omega), fup_o (by omega), fmR_o (by omega), fup_o (by omega), fmR_o (by omega), fup_s]) (by unfold fscr; omega) ?_
  refine e_iload_n dX10_init_218 rfl rfl ?_
  refine e_aload_n dX10_init_219 rfl rfl ?_
  refine e_getR (q := 91) dX10_init_220 fl_RX10_17 (hsh 89 rfl) (show 89 < 300 by omega) rfl (by show (fup (fup (fmR (fup (fmR (fup (fmR (fup (fup (fup (fmR (fup (fup (fmR (fup (fmR (fup (fmR (fup (fmR (fup (fmR (fup (fmR (fup (fmR (fup (fmR (fup (fup (fup R 89 8 (some 90)) 89 9 (some 91)) 89 10 (some 92)) 93 6) 89 11 (some 93)) 100 6) 89 12 (some 100)) 107 12) 89 13 (some 107)) 120 12) 89 14 (some 120)) 133 6) 89 15 (some 133)) 140 6) 89 16 (some 140)) 147 24) 89 17 (some 147)) 172 24) 89 18 (some 172)) 89 19 (some 197)) 198 20) 89 20 (some 198)) 89 26 (some 219)) 89 27 (some 220)) 221 60) 89 28 (some 221)) 282 12) 89 29 (some 282)) 295 3) 89 30 (some 295)) 89 35 (some 299)) 89 9 = some 91; rw [fup_o (by omega), fup_o (by omega), fmR_o (by omega), fup_o (by omega), fmR_o (by omega), fup_o (by omega), fmR_o (by omega), fup_o (by omega), fup_o (by omega), fup_o (by omega), fmR_o (by omega), fup_o (by omega), fup_o (by omega), fmR_o (by omega), fup_o (by omega), fmR_o (by omega), fup_o (by omega), fmR_o (by omega), fup_o (by omega), fmR_o (by omega), fup_o (by omega), fmR_o (by omega), fup_o (by omega), fmR_o (by omega), fup_o (by omega), fmR_o (by omega), fup_o (by omega), fmR_o (by omega), fup_o (by omega), fup_s]) (by unfold fscr; omega) ?_
  refine e_iload_n dX10_init_223 rfl rfl ?_
  refine e_iaload 6 dX10_init_224 (hsh 91 rfl) (show 91 < 300 by omega) rfl (by decide) (by decide) ?_
  refine e_int (nI (dT D0 6)) (by show (fup (fup (fup (fup (fup (fup I1 92 0 (nI (dT D0 0))) 92 1 (nI (dT D0 1))) 92 2 (nI (dT D0 2))) 92 3 (nI (dT D0 3))) 92 4 (nI (dT D0 4))) 92 5 (nI (dT D0 5))) 91 6 = _; rw [fup_o (by omega), fup_o (by omega), fup_o (by omega), fup_o (by omega), fup_o (by omega), fup_o (by omega)]; exact h92 6 (by decide)) ?_
  refine e_iastore 6 dX10_init_225 (hsh 92 rfl) (show 92 < 300 by omega) rfl (by decide) (by decide) ?_
  show fEv g _ mX10_init 226 [some (.ref 89), some (.int (nI 6))] [] ((300, 0, u + 5961), fup (fup (fmR (fup (fmR (fup (fmR (fup (fup (fup (fmR (fup (fup (fmR (fup (fmR (fup (fmR (fup (fmR (fup (fmR (fup (fmR (fup (fmR (fup (fmR (fup (fup (fup R 89 8 (some 90)) 89 9 (some 91)) 89 10 (some 92)) 93 6) 89 11 (some 93)) 100 6) 89 12 (some 100)) 107 12) 89 13 (some 107)) 120 12) 89 14 (some 120)) 133 6) 89 15 (some 133)) 140 6) 89 16 (some 140)) 147 24) 89 17 (some 147)) 172 24) 89 18 (some 172)) 89 19 (some 197)) 198 20) 89 20 (some 198)) 89 26 (some 219)) 89 27 (some 220)) 221 60) 89 28 (some 221)) 282 12) 89 29 (some 282)) 295 3) 89 30 (some 295)) 89 35 (some 299), (fup (fup (fup (fup (fup (fup (fup I1 92 0 (nI (dT D0 0))) 92 1 (nI (dT D0 1))) 92 2 (nI (dT D0 2))) 92 3 (nI (dT D0 3))) 92 4 (nI (dT D0 4))) 92 5 (nI (dT D0 5))) 92 6 (nI (dT D0 6))), J1) Q
  refine e_iinc (v := nI 7) (L1 := [some (.ref 89), some (.int (nI 7))]) dX10_init_226 rfl (by decide) (by decide) rfl ?_
  refine e_goto 208 dX10_init_229 (by decide) ?_
  refine e_iload_n dX10_init_208 rfl rfl ?_
  refine e_bipush (nI 7) dX10_init_209 (by decide) ?_
  refine e_icmp_ge 232 dX10_init_211 (by decide) (fun _ => ?_) (fun c => absurd c (by decide))
  refine e_return dX10_init_232 rfl (h _ J1 (fun a na => ⟨?_, ?_⟩) (fun j => ?_) (fun j hj => ?_))
  · funext i
    rw [fup_o (by omega), fup_o (by omega), fup_o (by omega), fup_o (by omega), fup_o (by omega), fup_o (by omega), fup_o (by omega), (e4 a (by omega)).1, fup_o (by omega)]
  · exact (e4 a (by omega)).2
  · rw [fup_o (by omega), fup_o (by omega), fup_o (by omega), fup_o (by omega), fup_o (by omega), fup_o (by omega), fup_o (by omega), (e4 89 (by omega)).1]
    by_cases e : j = 3
    · rw [e, fup_s, if_pos rfl]
    · rw [fup_o (by omega), if_neg e]; exact (z0 89 (Nat.le_refl _) j).2.1
  · rcases (show j = 0 ∨ j = 1 ∨ j = 2 ∨ j = 3 ∨ j = 4 ∨ j = 5 ∨ j = 6 by omega) with rfl | rfl | rfl | rfl | rfl | rfl | rfl
    · rw [fup_o (by omega), fup_o (by omega), fup_o (by omega), fup_o (by omega), fup_o (by omega), fup_o (by omega), fup_s]
    · rw [fup_o (by omega), fup_o (by omega), fup_o (by omega), fup_o (by omega), fup_o (by omega), fup_s]
    · rw [fup_o (by omega), fup_o (by omega), fup_o (by omega), fup_o (by omega), fup_s]
    · rw [fup_o (by omega), fup_o (by omega), fup_o (by omega), fup_s]
    · rw [fup_o (by omega), fup_o (by omega), fup_s]
    · rw [fup_o (by omega), fup_s]
    · rw [fup_s]
