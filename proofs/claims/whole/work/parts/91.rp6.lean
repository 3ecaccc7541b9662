def fNA : Nat → Prop := fun a => a = 89 ∨ a = 197 ∨ a = 220 ∨ (283 ≤ a ∧ a < 295)
theorem m1_le {c : Nat} (hc : c < 1000) : (-1 : Int32) ≤ nI c := by
  rw [Int32.le_iff_toInt_le, nI_toInt (by omega), show (-1 : Int32).toInt = -1 by decide]
  omega
theorem t_X10_isOverF {g : fGP} {d : Nat} {σ : fAH} {Q : fRes → fAH → Prop} {D : fSD} {S : Nat → Nat} {sd : Int32} (Ms : fMs g σ) (Mr : fMr σ D S sd) (hD : fWD D) (hW : fWS D S) (hn : S 155 < 30) (h : Q (.inl (some (.int (nI 0)))) σ) : fEv g d mX10_isOver 0 (fent [.ref 89] 1) [] σ Q := t_X10_isOver Ms Mr hD hW (by rw [decide_eq_false (by omega)]; exact h)
theorem t_X10_isOverT {g : fGP} {d : Nat} {σ : fAH} {Q : fRes → fAH → Prop} {D : fSD} {S : Nat → Nat} {sd : Int32} (Ms : fMs g σ) (Mr : fMr σ D S sd) (hD : fWD D) (hW : fWS D S) (hn : ¬ S 155 < 30) (h : Q (.inl (some (.int (nI 1)))) σ) : fEv g d mX10_isOver 0 (fent [.ref 89] 1) [] σ Q := t_X10_isOver Ms Mr hD hW (by rw [decide_eq_true (by have := hW.2.2.2.2; omega)]; exact h)
set_option maxRecDepth 20000 in
theorem t_X10_isFillT {g : fGP} {d : Nat} {σ : fAH} {Q : fRes → fAH → Prop} {D : fSD} {S : Nat → Nat} {sd : Int32} {f : Nat} (Ms : fMs g σ) (Mr : fMr σ D S sd) (hD : fWD D) (hW : fWS D S) (hf : f < 4096) (hv1 : nI f &&& (nI (mfa (mal D S) 12 (dT D 1) 0 0) ^^^ (-1)) = 0) (hv2 : mon f 12 0 ≤ dT D 3) (h : Q (.inl (some (.int (nI 1)))) σ) : fEv g (d + 4) mX10_isFill 0 (fent [.ref 89, .int (nI f)] 2) [] σ Q := by
  rw [mfa_12 S hD] at hv1
  have ml := mon_le (b := f) 12 0
  obtain ⟨t0, t1, t2, t3, t4, t5, t6⟩ := id hD.1
  show fEv g (d + 4) mX10_isFill 0 [some (.ref 89), some (.int (nI f))] [] σ Q
  refine e_iload_n dX10_isFill_0 rfl rfl ?_
  refine e_if_lt 32 dX10_isFill_1 (by decide) (fun c => absurd c (fun q => absurd ((nI_zlt (by omega)).mp q) (by omega))) (fun _ => ?_)
  refine e_iload_n dX10_isFill_4 rfl rfl ?_
  refine e_aload_n dX10_isFill_5 rfl rfl ?_
  refine e_callV (k := 89) [] dX10_isFill_6 cc_X10_alive lk_RX10_215 im_X10_alive se_X10_alive (by decide) (Ms.s 89 rfl) (Ms.n (by decide)) rfl (Nat.le_of_ble_eq_true rfl) (Nat.le_of_ble_eq_true rfl) ?_
  refine t_X10_alive Ms Mr hD hW (fK_i ?_)
  show fEv g _ mX10_isFill 9 [some (.ref 89), some (.int (nI f))] [.int (nI (mbits D S)), .int (nI f)] σ Q
  refine e_iconst (-1) dX10_isFill_9 (by decide) ?_
  refine e_ixor dX10_isFill_10 ?_
  refine e_iand dX10_isFill_11 ?_
  refine e_if_ne 32 dX10_isFill_12 (by decide) (fun c => absurd hv1 c) (fun _ => ?_)
  refine e_iload_n dX10_isFill_15 rfl rfl ?_
  refine e_callS [.int (nI f)] dX10_isFill_16 cc_X10_ones lk_RX10_218 st_X10_ones in_RX10 rfl (Nat.le_of_ble_eq_true rfl) (Nat.le_of_ble_eq_true rfl) ?_
  refine t_X10_ones (by omega) (fK_i ?_)
  show fEv g _ mX10_isFill 19 [some (.ref 89), some (.int (nI f))] [.int (nI (mon f 12 0))] σ Q
  refine e_aload_n dX10_isFill_19 rfl rfl ?_
  refine e_getR (q := 92) dX10_isFill_20 fl_RX10_20 (Ms.s 89 rfl) (Ms.n (by decide)) rfl (Ms.r 89 10 rfl) (by unfold fscr; omega) ?_
  refine e_iconst (nI 3) dX10_isFill_23 (by decide) ?_
  refine e_iaload 3 dX10_isFill_24 (Ms.s 92 rfl) (Ms.n (by decide)) rfl (by omega) (by decide) ?_
  refine e_int (nI (dT D 3)) (Mr.t 3 (by omega)) ?_
  refine e_icmp_gt 32 dX10_isFill_25 (by decide) (fun c => absurd c (fun q => absurd ((nI_lt' (by omega) (by omega)).mp q) (by omega))) (fun _ => ?_)
  refine e_iconst (nI 1) dX10_isFill_28 (by decide) ?_
  refine e_goto 33 dX10_isFill_29 (by decide) ?_
  exact e_ireturn .boolean dX10_isFill_33 rfl (by decide) h
set_option maxRecDepth 20000 in
theorem t_X10_isFillF2 {g : fGP} {d : Nat} {σ : fAH} {Q : fRes → fAH → Prop} {D : fSD} {S : Nat → Nat} {sd : Int32} {f : Nat} (Ms : fMs g σ) (Mr : fMr σ D S sd) (hD : fWD D) (hW : fWS D S) (hf : f < 4096) (hv1 : nI f &&& (nI (mfa (mal D S) 12 (dT D 1) 0 0) ^^^ (-1)) = 0) (hv2 : ¬ mon f 12 0 ≤ dT D 3) (h : Q (.inl (some (.int (nI 0)))) σ) : fEv g (d + 4) mX10_isFill 0 (fent [.ref 89, .int (nI f)] 2) [] σ Q := by
  rw [mfa_12 S hD] at hv1
  have ml := mon_le (b := f) 12 0
  obtain ⟨t0, t1, t2, t3, t4, t5, t6⟩ := id hD.1
  show fEv g (d + 4) mX10_isFill 0 [some (.ref 89), some (.int (nI f))] [] σ Q
  refine e_iload_n dX10_isFill_0 rfl rfl ?_
  refine e_if_lt 32 dX10_isFill_1 (by decide) (fun c => absurd c (fun q => absurd ((nI_zlt (by omega)).mp q) (by omega))) (fun _ => ?_)
  refine e_iload_n dX10_isFill_4 rfl rfl ?_
  refine e_aload_n dX10_isFill_5 rfl rfl ?_
  refine e_callV (k := 89) [] dX10_isFill_6 cc_X10_alive lk_RX10_215 im_X10_alive se_X10_alive (by decide) (Ms.s 89 rfl) (Ms.n (by decide)) rfl (Nat.le_of_ble_eq_true rfl) (Nat.le_of_ble_eq_true rfl) ?_
  refine t_X10_alive Ms Mr hD hW (fK_i ?_)
  show fEv g _ mX10_isFill 9 [some (.ref 89), some (.int (nI f))] [.int (nI (mbits D S)), .int (nI f)] σ Q
  refine e_iconst (-1) dX10_isFill_9 (by decide) ?_
  refine e_ixor dX10_isFill_10 ?_
  refine e_iand dX10_isFill_11 ?_
  refine e_if_ne 32 dX10_isFill_12 (by decide) (fun c => absurd hv1 c) (fun _ => ?_)
  refine e_iload_n dX10_isFill_15 rfl rfl ?_
  refine e_callS [.int (nI f)] dX10_isFill_16 cc_X10_ones lk_RX10_218 st_X10_ones in_RX10 rfl (Nat.le_of_ble_eq_true rfl) (Nat.le_of_ble_eq_true rfl) ?_
  refine t_X10_ones (by omega) (fK_i ?_)
  show fEv g _ mX10_isFill 19 [some (.ref 89), some (.int (nI f))] [.int (nI (mon f 12 0))] σ Q
  refine e_aload_n dX10_isFill_19 rfl rfl ?_
  refine e_getR (q := 92) dX10_isFill_20 fl_RX10_20 (Ms.s 89 rfl) (Ms.n (by decide)) rfl (Ms.r 89 10 rfl) (by unfold fscr; omega) ?_
  refine e_iconst (nI 3) dX10_isFill_23 (by decide) ?_
  refine e_iaload 3 dX10_isFill_24 (Ms.s 92 rfl) (Ms.n (by decide)) rfl (by omega) (by decide) ?_
  refine e_int (nI (dT D 3)) (Mr.t 3 (by omega)) ?_
  refine e_icmp_gt 32 dX10_isFill_25 (by decide) (fun _ => ?_) (fun c => absurd ((nI_lt' (by omega) (by omega)).mpr (by omega)) c)
  refine e_iconst (nI 0) dX10_isFill_32 (by decide) ?_
  exact e_ireturn .boolean dX10_isFill_33 rfl (by decide) h
set_option maxRecDepth 20000 in
theorem t_X10_isFillF1 {g : fGP} {d : Nat} {σ : fAH} {Q : fRes → fAH → Prop} {D : fSD} {S : Nat → Nat} {sd : Int32} {a : Int32} (Ms : fMs g σ) (Mr : fMr σ D S sd) (hD : fWD D) (hW : fWS D S) (hv1 : ¬ a &&& (nI (mfa (mal D S) 12 (dT D 1) 0 0) ^^^ (-1)) = 0) (h : Q (.inl (some (.int (nI 0)))) σ) : fEv g (d + 4) mX10_isFill 0 (fent [.ref 89, .int a] 2) [] σ Q := by
  rw [mfa_12 S hD] at hv1
  obtain ⟨t0, t1, t2, t3, t4, t5, t6⟩ := id hD.1
  show fEv g (d + 4) mX10_isFill 0 [some (.ref 89), some (.int a)] [] σ Q
  refine e_iload_n dX10_isFill_0 rfl rfl ?_
  refine e_if_lt 32 dX10_isFill_1 (by decide) (fun c1 => ?_) (fun c1 => ?_)
  · refine e_iconst (nI 0) dX10_isFill_32 (by decide) ?_
    exact e_ireturn .boolean dX10_isFill_33 rfl (by decide) h
  · refine e_iload_n dX10_isFill_4 rfl rfl ?_
    refine e_aload_n dX10_isFill_5 rfl rfl ?_
    refine e_callV (k := 89) [] dX10_isFill_6 cc_X10_alive lk_RX10_215 im_X10_alive se_X10_alive (by decide) (Ms.s 89 rfl) (Ms.n (by decide)) rfl (Nat.le_of_ble_eq_true rfl) (Nat.le_of_ble_eq_true rfl) ?_
    refine t_X10_alive Ms Mr hD hW (fK_i ?_)
    show fEv g _ mX10_isFill 9 [some (.ref 89), some (.int a)] [.int (nI (mbits D S)), .int a] σ Q
    refine e_iconst (-1) dX10_isFill_9 (by decide) ?_
    refine e_ixor dX10_isFill_10 ?_
    refine e_iand dX10_isFill_11 ?_
    refine e_if_ne 32 dX10_isFill_12 (by decide) (fun _ => ?_) (fun c => absurd c hv1)
    refine e_iconst (nI 0) dX10_isFill_32 (by decide) ?_
    exact e_ireturn .boolean dX10_isFill_33 rfl (by decide) h
set_option maxRecDepth 20000 in
theorem l_X10_nt74 {g : fGP} {d : Nat} {σ : fAH} {Q : fRes → fAH → Prop} {D : fSD} {S : Nat → Nat} {T : Nat → Int32} {z b : Int32} {f c : Nat} (Ms : fMs g σ) (Mr : fMr σ D S z) (Mt : fMt σ S T) (hD : fWD D) (hW : fWS D S) (hC : fWC D S) (hN : fWN S 0 0) (hn : S 155 < 30) (hf : f < 4096) (hc : c ≤ 9) (h : ∀ σ', fSm fNA σ σ' → fMr σ' D (mgo ldr D f c (S, T, z)).1 (mgo ldr D f c (S, T, z)).2.2 → fMt σ' (mgo ldr D f c (S, T, z)).1 (mgo ldr D f c (S, T, z)).2.1 → (∀ j, j ≠ 31 → fI σ' 89 j = fI σ 89 j) → fI σ' 89 31 = nI 0 → Q (.inl (some (.int (nI ((mgo ldr D f c (S, T, z)).1 152) - nI (S 152))))) σ') : fEv g (d + 4) mX10_night 74 [some (.ref 89), some (.int (nI f)), some (.int b), some (.int (nI (S 152))), some (.int (nI c))] [] σ Q := by
  obtain ⟨t0, t1, t2, t3, t4, t5, t6⟩ := id hD.1
  refine e_aload_n dX10_night_74 rfl rfl ?_
  refine e_iconst (nI 1) dX10_night_75 (by decide) ?_
  refine e_putZ dX10_night_76 fl_RX10_193 (Ms.s 89 rfl) (Ms.n (by decide)) rfl rfl (by decide) ?_
  refine e_aload_n dX10_night_79 rfl rfl ?_
  refine e_getR (q := 220) dX10_night_80 fl_RX10_58 (Ms.s 89 rfl) (Ms.n (by decide)) rfl (Ms.r 89 27 rfl) (by unfold fscr; omega) ?_
  refine e_aload_n dX10_night_83 rfl rfl ?_
  refine e_getR (q := 197) dX10_night_84 fl_RX10_49 (Ms.s 89 rfl) (Ms.n (by decide)) rfl (Ms.r 89 19 rfl) (by unfold fscr; omega) ?_
  refine e_sipush (nI 155) dX10_night_87 (by decide) ?_
  refine e_iaload 155 dX10_night_90 (Ms.s 197 rfl) (Ms.n (by decide)) rfl (by omega) (by decide) ?_
  refine e_int (nI (S 155)) (by rw [fI_I, if_neg (by omega)]; exact (Mr.s 155 (by omega))) ?_
  refine e_iload dX10_night_91 rfl ?_
  refine e_iastore (S 155) dX10_night_93 (Ms.s 220 rfl) (Ms.n (by decide)) rfl (by omega) (by decide) ?_
  have Sm2 : fSm fNA σ (fsI (fsI σ 89 31 (nI 1)) 220 (S 155) (nI c)) := (fSm_I (A := fNA) (Or.inl rfl)).tr (fSm_I (Or.inr (Or.inr (Or.inl rfl))))
  have S2b : fSm (fun a => a = 89 ∨ a = 220) σ (fsI (fsI σ 89 31 (nI 1)) 220 (S 155) (nI c)) := (fSm_I (A := fun a => a = 89 ∨ a = 220) (Or.inl rfl)).tr (fSm_I (Or.inr rfl))
  have Ms2 := Ms.sm Sm2
  have Mr2 := Mr.smm S2b hD (fun i h1 h2 q => by omega)
  have Mt2 : fMt (fsI (fsI σ 89 31 (nI 1)) 220 (S 155) (nI c)) S T := ⟨fun i hi q hq => (S2b.i (by omega) q).trans (Mt.1 i hi q hq), fun t ht => by rw [fI_I, if_neg (by omega), fI_I, if_neg (by omega)]; exact Mt.2 t ht⟩
  have htr : fI (fsI (fsI σ 89 31 (nI 1)) 220 (S 155) (nI c)) 89 31 = nI (bn true) := by rw [fI_I, if_neg (by omega), fI_I, if_pos ⟨rfl, rfl⟩]; rfl
  have k2 : ∀ j, j ≠ 31 → fI (fsI (fsI σ 89 31 (nI 1)) 220 (S 155) (nI c)) 89 j = fI σ 89 j := fun j hj => by rw [fI_I, if_neg (by omega), fI_I, if_neg (by omega)]
  have c2 : fI (fsI (fsI σ 89 31 (nI 1)) 220 (S 155) (nI c)) 220 (S 155) = nI c := by rw [fI_I, if_pos ⟨rfl, rfl⟩]
  clear S2b
  generalize fsI (fsI σ 89 31 (nI 1)) 220 (S 155) (nI c) = σ2 at Sm2 Ms2 Mr2 Mt2 htr k2 c2 ⊢
  refine e_aload_n dX10_night_94 rfl rfl ?_
  refine e_iload_n dX10_night_95 rfl rfl ?_
  refine e_iload dX10_night_96 rfl ?_
  refine e_callV (k := 89) [.int (nI f), .int (nI c)] dX10_night_98 cc_X10_freezes lk_RX10_231 im_X10_freezes se_X10_freezes (by decide) (Ms2.s 89 rfl) (Ms2.n (by decide)) rfl (Nat.le_of_ble_eq_true rfl) (Nat.le_of_ble_eq_true rfl) ?_
  refine t_X10_freezes (T := T) (tr := true) Ms2 Mr2 hD hW hC hn hN htr hf (by omega) (fun σ3 Sm3 Mr3 Mt3 => fK_v ?_)
  show fEv g _ mX10_night 101 [some (.ref 89), some (.int (nI f)), some (.int b), some (.int (nI (S 152))), some (.int (nI c))] [] σ3 Q
  have Ms3 := Ms2.sm Sm3
  have Mt3 := Mt3 rfl Mt2
  have h1 := fWS_frz (dr := ldr) (fill := f) (cold := c) hD (dT D 1) 0 (S, T, z) (by omega) hW hC hn
  have h2 := fWN_frz (dr := ldr) (fill := f) (cold := c) hD (dT D 1) 0 (S, T, z) (by omega) hW hC hn hN
  have h3 := fWS_end hD h1.1 h1.2.1 (by rw [h1.2.2]; exact hn)
  refine e_aload_n dX10_night_101 rfl rfl ?_
  refine e_iconst (nI 0) dX10_night_102 (by decide) ?_
  refine e_putZ dX10_night_103 fl_RX10_193 (Ms3.s 89 rfl) (Ms3.n (by decide)) rfl rfl (by decide) ?_
  have Sm4 : fSm (fun a => a = 89) σ3 (fsI σ3 89 31 (nI 0)) := fSm_I rfl
  have Ms4 := Ms3.sm Sm4
  have Mr4 := Mr3.smm Sm4 hD (fun i h1 h2 (q : i = 89) => by omega)
  have k4 : ∀ j, j ≠ 31 → fI (fsI σ3 89 31 (nI 0)) 89 j = fI σ3 89 j := fun j hj => by rw [fI_I, if_neg (by omega)]
  have h31 : fI (fsI σ3 89 31 (nI 0)) 89 31 = nI 0 := by rw [fI_I, if_pos ⟨rfl, rfl⟩]
  generalize fsI σ3 89 31 (nI 0) = σ4 at Sm4 Ms4 Mr4 k4 h31 ⊢
  refine e_aload_n dX10_night_106 rfl rfl ?_
  refine e_callV (k := 89) [] dX10_night_107 cc_X10_sledges lk_RX10_234 im_X10_sledges se_X10_sledges (by decide) (Ms4.s 89 rfl) (Ms4.n (by decide)) rfl (Nat.le_of_ble_eq_true rfl) (Nat.le_of_ble_eq_true rfl) ?_
  refine t_X10_sledges Ms4 Mr4 hD h1.1 h1.2.1 h2 (fun σ5 Sm5 Mr5 => fK_v ?_)
  show fEv g _ mX10_night 110 [some (.ref 89), some (.int (nI f)), some (.int b), some (.int (nI (S 152))), some (.int (nI c))] [] σ5 Q
  have Ms5 := Ms4.sm Sm5
  refine e_aload_n dX10_night_110 rfl rfl ?_
  refine e_getR (q := 197) dX10_night_111 fl_RX10_49 (Ms5.s 89 rfl) (Ms5.n (by decide)) rfl (Ms5.r 89 19 rfl) (by unfold fscr; omega) ?_
  refine e_sipush (nI 152) dX10_night_114 (by decide) ?_
  refine e_iaload 152 dX10_night_117 (Ms5.s 197 rfl) (Ms5.n (by decide)) rfl (by omega) (by decide) ?_
  refine e_int (nI (mend D (mfrz ldr D f c (dT D 1) 0 (S, T, z)).1 152)) (Mr5.s 152 (by omega)) ?_
  refine e_iload_n dX10_night_118 rfl rfl ?_
  refine e_isub dX10_night_119 ?_
  have A9 : fSm fNA σ σ5 := ((Sm2.tr (Sm3.to (fun a q => by unfold fRA at q; unfold fNA; omega))).tr (Sm4.to (fun a (q : a = 89) => Or.inl q))).tr (Sm5.to (fun a (q : a = 197) => Or.inr (Or.inl q)))
  have k9 : ∀ j, j ≠ 31 → fI σ5 89 j = fI σ 89 j := fun j hj => (Sm5.i (fun q => by unfold fRA9 at q; omega) j).trans ((k4 j hj).trans ((Sm3.i (fun q => by unfold fRA at q; omega) j).trans (k2 j hj)))
  have Mt5 : fMt σ5 (mgo ldr D f c (S, T, z)).1 (mgo ldr D f c (S, T, z)).2.1 := by
    refine ⟨fun i hi q hq => ?_, fun t ht => ?_⟩
    · have hi : i < mend D (mfrz ldr D f c (dT D 1) 0 (S, T, z)).1 152 := hi
      rw [h3.2.2.2.2] at hi
      have w5 := h1.1.1.2
      show fI σ5 (283 + i) q = mTp (mfrz ldr D f c (dT D 1) 0 (S, T, z)).2.1 (100 + (mfrz ldr D f c (dT D 1) 0 (S, T, z)).1 155) (nI c) (i * 4 + q)
      rw [mTp_n _ _ (by omega), Sm5.i (fun (e : 283 + i = 197) => by omega), Sm4.i (fun (e : 283 + i = 89) => by omega)]
      exact Mt3.1 i hi q hq
    · have ht : t < mend D (mfrz ldr D f c (dT D 1) 0 (S, T, z)).1 155 := ht
      rw [h3.2.2.1] at ht
      show fI σ5 220 t = mTp (mfrz ldr D f c (dT D 1) 0 (S, T, z)).2.1 (100 + (mfrz ldr D f c (dT D 1) 0 (S, T, z)).1 155) (nI c) (100 + t)
      rw [Sm5.i (fun (e : 220 = 197) => by omega), Sm4.i (fun (e : 220 = 89) => by omega)]
      by_cases e : t = (mfrz ldr D f c (dT D 1) 0 (S, T, z)).1 155
      · rw [e, mTp_s, Sm3.i (fun q => by unfold fRA at q; omega), h1.2.2]; exact c2
      · rw [mTp_n _ _ (by omega)]; exact Mt3.2 t (by omega)
  exact e_ireturn .int dX10_night_120 rfl rfl (h σ5 A9 Mr5 Mt5 k9 ((Sm5.i (fun q => by unfold fRA9 at q; omega) 31).trans h31))
set_option maxRecDepth 20000 in
theorem lp_X10_night {g : fGP} {d : Nat} {σ : fAH} {Q : fRes → fAH → Prop} {x : fXS} {f c : Nat}  (Ms : fMs g σ) (ok : fOK x) (Ir : fIr σ x) (hz : fI σ 89 0 = nI 0) (hf : f < 4096) (hv1 : nI f &&& (nI (mfa (mal (xD x) (iS (xI x))) 12 (dT (xD x) 1) 0 0) ^^^ (-1)) = 0) (hv2 : mon f 12 0 ≤ dT (xD x) 3) (hn : (iS (xI x)) 155 < 30) (hc : c ≤ 9) (h : ∀ σ', fSm fRfA σ σ' → fIr σ' (xN f c x (iq (xI x))) → fI σ' 89 0 = nI 0 → Q (.inl (some (.int (nI ((mgo ldr (xD x) f c ((iS (xI x)), (iT (xI x)), iq (xI x))).1 152) - nI ((iS (xI x)) 152))))) σ') : fEv g (d + 5) mX10_night 5 [some (.ref 89), some (.int (nI f)), some (.int (nI c)), none, none] [] σ Q := by
  obtain ⟨D, ⟨S, T, sd, pn, P, rn, R⟩, B, tp, pl, im, Im⟩ := x
  have hD : fWD D := ok.1
  have hW : fWS D S := ok.2.1.1
  have hC : fWC D S := ok.2.1.2.1
  have hN : fWN S 0 0 := ok.2.1.2.2.1
  have Mr : fMr σ D S sd := Ir.1
  have Mt : fMt σ S T := Ir.2.1
  obtain ⟨t0, t1, t2, t3, t4, t5, t6⟩ := id hD.1
  have np := hW.n hD
  have n5 := hW.2.2.2.2
  have tp6 : tp ≤ 600 := ok.2.2.2.1
  have im3 : im ≤ 3 := ok.2.2.2.2.1
  have pn3 : pn ≤ 30 := ok.2.1.2.2.2.1
  have rn6 : rn ≤ 60 := ok.2.1.2.2.2.2.2.1
  have Rc : fRc σ (S, T, sd, pn, P, rn, R) := Ir.2.2.2.2.1
  have w52 := hW.1
  have hv1 : nI f &&& (nI (mfa (mal D S) 12 (dT D 1) 0 0) ^^^ (-1)) = 0 := hv1
  have hv2 : mon f 12 0 ≤ dT D 3 := hv2
  have hn : S 155 < 30 := hn
  show fEv g (d + 5) mX10_night 5 [some (.ref 89), some (.int (nI f)), some (.int (nI c)), none, none] [] σ Q
  refine e_aload_n dX10_night_5 rfl rfl ?_
  refine e_aload_n dX10_night_6 rfl rfl ?_
  refine e_iload_n dX10_night_7 rfl rfl ?_
  refine e_callV (k := 89) [.int (nI f)] dX10_night_8 cc_X10_isFill lk_RX10_221 im_X10_isFill se_X10_isFill (by decide) (Ms.s 89 rfl) (Ms.n (by decide)) rfl (Nat.le_of_ble_eq_true rfl) (Nat.le_of_ble_eq_true rfl) ?_
  refine t_X10_isFillT Ms Mr hD hW hf hv1 hv2 (fK_i ?_)
  show fEv g _ mX10_night 11 [some (.ref 89), some (.int (nI f)), some (.int (nI c)), none, none] [.int (nI 1), .ref 89] σ Q
  refine e_if_eq 24 dX10_night_11 (by decide) (fun c => absurd c (by decide)) (fun _ => ?_)
  refine e_iload_n dX10_night_14 rfl rfl ?_
  refine e_iconst (-1) dX10_night_15 (by decide) ?_
  refine e_bipush (nI 9) dX10_night_16 (by decide) ?_
  refine e_callS [.int (nI c), .int ((-1)), .int (nI 9)] dX10_night_18 cc_X10_in lk_RX10_110 st_X10_in in_RX10 rfl (Nat.le_of_ble_eq_true rfl) (Nat.le_of_ble_eq_true rfl) ?_
  refine t_X10_inT ⟨m1_le (by omega), (nI_le' (by omega) (by omega)).mpr (by omega)⟩ (fK_i ?_)
  show fEv g _ mX10_night 21 [some (.ref 89), some (.int (nI f)), some (.int (nI c)), none, none] [.int (nI 1), .ref 89] σ Q
  refine e_if_ne 28 dX10_night_21 (by decide) (fun _ => ?_) (fun c => absurd c (by decide))
  refine e_iconst (nI 0) dX10_night_28 (by decide) ?_
  refine e_iconst (nI 1) dX10_night_29 (by decide) ?_
  refine e_callV (k := 89) [.int (nI 0), .int (nI 1)] dX10_night_30 cc_X10_bad lk_RX10_148 im_X10_bad se_X10_bad (by decide) (Ms.s 89 rfl) (Ms.n (by decide)) rfl (Nat.le_of_ble_eq_true rfl) (Nat.le_of_ble_eq_true rfl) ?_
  refine t_X10_bad0 Ms hz (by decide) (fK_i ?_)
  show fEv g _ mX10_night 33 [some (.ref 89), some (.int (nI f)), some (.int (nI c)), none, none] [.int (nI 0)] σ Q
  refine e_if_ne 48 dX10_night_33 (by decide) (fun c => absurd c (by decide)) (fun _ => ?_)
  refine e_aload_n dX10_night_36 rfl rfl ?_
  refine e_aload_n dX10_night_37 rfl rfl ?_
  refine e_callV (k := 89) [] dX10_night_38 cc_X10_isOver lk_RX10_224 im_X10_isOver se_X10_isOver (by decide) (Ms.s 89 rfl) (Ms.n (by decide)) rfl (Nat.le_of_ble_eq_true rfl) (Nat.le_of_ble_eq_true rfl) ?_
  refine t_X10_isOverF Ms Mr hD hW hn (fK_i ?_)
  show fEv g _ mX10_night 41 [some (.ref 89), some (.int (nI f)), some (.int (nI c)), none, none] [.int (nI 0), .ref 89] σ Q
  refine e_iconst (nI 2) dX10_night_41 (by decide) ?_
  refine e_callV (k := 89) [.int (nI 0), .int (nI 2)] dX10_night_42 cc_X10_bad lk_RX10_148 im_X10_bad se_X10_bad (by decide) (Ms.s 89 rfl) (Ms.n (by decide)) rfl (Nat.le_of_ble_eq_true rfl) (Nat.le_of_ble_eq_true rfl) ?_
  refine t_X10_bad0 Ms hz (by decide) (fK_i ?_)
  show fEv g _ mX10_night 45 [some (.ref 89), some (.int (nI f)), some (.int (nI c)), none, none] [.int (nI 0)] σ Q
  refine e_if_eq 50 dX10_night_45 (by decide) (fun _ => ?_) (fun c => absurd c (by decide))
  refine e_aload_n dX10_night_50 rfl rfl ?_
  refine e_getR (q := 197) dX10_night_51 fl_RX10_49 (Ms.s 89 rfl) (Ms.n (by decide)) rfl (Ms.r 89 19 rfl) (by unfold fscr; omega) ?_
  refine e_sipush (nI 152) dX10_night_54 (by decide) ?_
  refine e_iaload 152 dX10_night_57 (Ms.s 197 rfl) (Ms.n (by decide)) rfl (by omega) (by decide) ?_
  refine e_int (nI (S 152)) (Mr.s 152 (by omega)) ?_
  refine e_istore_n (L1 := [some (.ref 89), some (.int (nI f)), some (.int (nI c)), some (.int (nI (S 152))), none]) dX10_night_58 rfl (by decide) rfl ?_
  refine e_iload_n dX10_night_59 rfl rfl ?_
  refine e_iconst (-1) dX10_night_60 (by decide) ?_
  refine e_icmp_ne 71 dX10_night_61 (by decide) (fun _ => ?_) (fun c => absurd c (nI_m1 (by omega)))
  refine e_iload_n dX10_night_71 rfl rfl ?_
  refine e_istore (L1 := [some (.ref 89), some (.int (nI f)), some (.int (nI c)), some (.int (nI (S 152))), some (.int (nI c))]) dX10_night_72 (by decide) rfl ?_
  refine l_X10_nt74 Ms Mr Mt hD hW hC hN hn hf hc (fun σ' Sm' Mr' Mt' k' h31 => ?_)
  have A9 : fSm fNA σ σ' := Sm'
  have k9 : ∀ j, j ≠ 31 → fI σ' 89 j = fI σ 89 j := k'
  have na : ∀ a, ¬ fNA a → ∀ j, fI σ' a j = fI σ a j := fun a ha j => A9.i ha j
  exact h σ' (A9.to (fun a q => by unfold fNA at q; unfold fRfA; omega)) (Ir.cur (i := ((mgo ldr D f c (S, T, sd)).1, (mgo ldr D f c (S, T, sd)).2.1, (mgo ldr D f c (S, T, sd)).2.2, pn, P, rn, R)) ok A9 (fun a q => by unfold fNA at q; omega) (fun j hj => by simp only [List.mem_cons, List.not_mem_nil, or_false] at hj; by_cases e : j = 31; rw [e, h31, Ir.2.2.1.2.1]; exact k9 j e) Mr' Mt' (Rc.cg rn6 (k9 22 (by decide)) (k9 23 (by decide)) (na 219 (by unfold fNA; omega)) (fun r hr => na _ (by unfold fNA; omega)))) ((k9 0 (by decide)).trans hz)
set_option maxRecDepth 20000 in
theorem t_X10_night {g : fGP} {d : Nat} {σ : fAH} {Q : fRes → fAH → Prop} {x : fXS} {f c : Nat}  (Ms : fMs g σ) (ok : fOK x) (Ir : fIr σ x) (hf : f < 4096) (hv1 : nI f &&& (nI (mfa (mal (xD x) (iS (xI x))) 12 (dT (xD x) 1) 0 0) ^^^ (-1)) = 0) (hv2 : mon f 12 0 ≤ dT (xD x) 3) (hn : (iS (xI x)) 155 < 30) (hc : c ≤ 9) (h : ∀ σ', fSm fRfA σ σ' → fIr σ' (xN f c x (iq (xI x))) → fI σ' 89 0 = nI 0 → Q (.inl (some (.int (nI ((mgo ldr (xD x) f c ((iS (xI x)), (iT (xI x)), iq (xI x))).1 152) - nI ((iS (xI x)) 152))))) σ') : fEv g (d + 5) mX10_night 0 (fent [.ref 89, .int (nI f), .int (nI c)] 5) [] σ Q := by
  have S9 : fSm (fun a => a = 89) σ (fsI σ 89 0 (nI 0)) := fSm_I rfl
  show fEv g (d + 5) mX10_night 0 [some (.ref 89), some (.int (nI f)), some (.int (nI c)), none, none] [] σ Q
  refine e_aload_n dX10_night_0 rfl rfl ?_
  refine e_iconst (nI 0) dX10_night_1 (by decide) ?_
  refine e_putI dX10_night_2 fl_RX10_76 (Ms.s 89 rfl) (Ms.n (by decide)) rfl rfl ?_
  exact lp_X10_night (Ms.sm S9) ok (Ir.f0 ok S9 (fun a (q : a = 89) => Or.inl (by omega)) (fun j hj => by simp only [List.mem_cons, List.not_mem_nil, or_false] at hj; rw [fI_I, if_neg (by omega)])) (by rw [fI_I, if_pos ⟨rfl, rfl⟩]) hf hv1 hv2 hn hc (fun σ' Sm' => h σ' ((S9.to (fun a (q : a = 89) => by unfold fRfA; omega)).tr Sm'))
set_option maxRecDepth 20000 in
theorem lp_X10_nightD {g : fGP} {d : Nat} {σ : fAH} {Q : fRes → fAH → Prop} {x : fXS} {f : Nat}  (Ms : fMs g σ) (ok : fOK x) (Ir : fIr σ x) (hz : fI σ 89 0 = nI 0) (hf : f < 4096) (hv1 : nI f &&& (nI (mfa (mal (xD x) (iS (xI x))) 12 (dT (xD x) 1) 0 0) ^^^ (-1)) = 0) (hv2 : mon f 12 0 ≤ dT (xD x) 3) (hn : (iS (xI x)) 155 < 30) (h : ∀ σ', fSm fRfA σ σ' → fIr σ' (xN f (mdc (xD x) (iS (xI x)) (iq (xI x))).1 x (mdc (xD x) (iS (xI x)) (iq (xI x))).2) → fI σ' 89 0 = nI 0 → Q (.inl (some (.int (nI ((mgo ldr (xD x) f (mdc (xD x) (iS (xI x)) (iq (xI x))).1 ((iS (xI x)), (iT (xI x)), (mdc (xD x) (iS (xI x)) (iq (xI x))).2)).1 152) - nI ((iS (xI x)) 152))))) σ') : fEv g (d + 5) mX10_night 5 [some (.ref 89), some (.int (nI f)), some (.int ((-1))), none, none] [] σ Q := by
  obtain ⟨D, ⟨S, T, sd, pn, P, rn, R⟩, B, tp, pl, im, Im⟩ := x
  have hD : fWD D := ok.1
  have hW : fWS D S := ok.2.1.1
  have hC : fWC D S := ok.2.1.2.1
  have hN : fWN S 0 0 := ok.2.1.2.2.1
  have Mr : fMr σ D S sd := Ir.1
  have Mt : fMt σ S T := Ir.2.1
  obtain ⟨t0, t1, t2, t3, t4, t5, t6⟩ := id hD.1
  have np := hW.n hD
  have n5 := hW.2.2.2.2
  have tp6 : tp ≤ 600 := ok.2.2.2.1
  have im3 : im ≤ 3 := ok.2.2.2.2.1
  have pn3 : pn ≤ 30 := ok.2.1.2.2.2.1
  have rn6 : rn ≤ 60 := ok.2.1.2.2.2.2.2.1
  have Rc : fRc σ (S, T, sd, pn, P, rn, R) := Ir.2.2.2.2.1
  have w52 := hW.1
  have hv1 : nI f &&& (nI (mfa (mal D S) 12 (dT D 1) 0 0) ^^^ (-1)) = 0 := hv1
  have hv2 : mon f 12 0 ≤ dT D 3 := hv2
  have hn : S 155 < 30 := hn
  show fEv g (d + 5) mX10_night 5 [some (.ref 89), some (.int (nI f)), some (.int ((-1))), none, none] [] σ Q
  refine e_aload_n dX10_night_5 rfl rfl ?_
  refine e_aload_n dX10_night_6 rfl rfl ?_
  refine e_iload_n dX10_night_7 rfl rfl ?_
  refine e_callV (k := 89) [.int (nI f)] dX10_night_8 cc_X10_isFill lk_RX10_221 im_X10_isFill se_X10_isFill (by decide) (Ms.s 89 rfl) (Ms.n (by decide)) rfl (Nat.le_of_ble_eq_true rfl) (Nat.le_of_ble_eq_true rfl) ?_
  refine t_X10_isFillT Ms Mr hD hW hf hv1 hv2 (fK_i ?_)
  show fEv g _ mX10_night 11 [some (.ref 89), some (.int (nI f)), some (.int ((-1))), none, none] [.int (nI 1), .ref 89] σ Q
  refine e_if_eq 24 dX10_night_11 (by decide) (fun c => absurd c (by decide)) (fun _ => ?_)
  refine e_iload_n dX10_night_14 rfl rfl ?_
  refine e_iconst (-1) dX10_night_15 (by decide) ?_
  refine e_bipush (nI 9) dX10_night_16 (by decide) ?_
  refine e_callS [.int ((-1)), .int ((-1)), .int (nI 9)] dX10_night_18 cc_X10_in lk_RX10_110 st_X10_in in_RX10 rfl (Nat.le_of_ble_eq_true rfl) (Nat.le_of_ble_eq_true rfl) ?_
  refine t_X10_inT (by decide) (fK_i ?_)
  show fEv g _ mX10_night 21 [some (.ref 89), some (.int (nI f)), some (.int ((-1))), none, none] [.int (nI 1), .ref 89] σ Q
  refine e_if_ne 28 dX10_night_21 (by decide) (fun _ => ?_) (fun c => absurd c (by decide))
  refine e_iconst (nI 0) dX10_night_28 (by decide) ?_
  refine e_iconst (nI 1) dX10_night_29 (by decide) ?_
  refine e_callV (k := 89) [.int (nI 0), .int (nI 1)] dX10_night_30 cc_X10_bad lk_RX10_148 im_X10_bad se_X10_bad (by decide) (Ms.s 89 rfl) (Ms.n (by decide)) rfl (Nat.le_of_ble_eq_true rfl) (Nat.le_of_ble_eq_true rfl) ?_
  refine t_X10_bad0 Ms hz (by decide) (fK_i ?_)
  show fEv g _ mX10_night 33 [some (.ref 89), some (.int (nI f)), some (.int ((-1))), none, none] [.int (nI 0)] σ Q
  refine e_if_ne 48 dX10_night_33 (by decide) (fun c => absurd c (by decide)) (fun _ => ?_)
  refine e_aload_n dX10_night_36 rfl rfl ?_
  refine e_aload_n dX10_night_37 rfl rfl ?_
  refine e_callV (k := 89) [] dX10_night_38 cc_X10_isOver lk_RX10_224 im_X10_isOver se_X10_isOver (by decide) (Ms.s 89 rfl) (Ms.n (by decide)) rfl (Nat.le_of_ble_eq_true rfl) (Nat.le_of_ble_eq_true rfl) ?_
  refine t_X10_isOverF Ms Mr hD hW hn (fK_i ?_)
  show fEv g _ mX10_night 41 [some (.ref 89), some (.int (nI f)), some (.int ((-1))), none, none] [.int (nI 0), .ref 89] σ Q
  refine e_iconst (nI 2) dX10_night_41 (by decide) ?_
  refine e_callV (k := 89) [.int (nI 0), .int (nI 2)] dX10_night_42 cc_X10_bad lk_RX10_148 im_X10_bad se_X10_bad (by decide) (Ms.s 89 rfl) (Ms.n (by decide)) rfl (Nat.le_of_ble_eq_true rfl) (Nat.le_of_ble_eq_true rfl) ?_
  refine t_X10_bad0 Ms hz (by decide) (fK_i ?_)
  show fEv g _ mX10_night 45 [some (.ref 89), some (.int (nI f)), some (.int ((-1))), none, none] [.int (nI 0)] σ Q
  refine e_if_eq 50 dX10_night_45 (by decide) (fun _ => ?_) (fun c => absurd c (by decide))
  refine e_aload_n dX10_night_50 rfl rfl ?_
  refine e_getR (q := 197) dX10_night_51 fl_RX10_49 (Ms.s 89 rfl) (Ms.n (by decide)) rfl (Ms.r 89 19 rfl) (by unfold fscr; omega) ?_
  refine e_sipush (nI 152) dX10_night_54 (by decide) ?_
  refine e_iaload 152 dX10_night_57 (Ms.s 197 rfl) (Ms.n (by decide)) rfl (by omega) (by decide) ?_
  refine e_int (nI (S 152)) (Mr.s 152 (by omega)) ?_
  refine e_istore_n (L1 := [some (.ref 89), some (.int (nI f)), some (.int ((-1))), some (.int (nI (S 152))), none]) dX10_night_58 rfl (by decide) rfl ?_
  refine e_iload_n dX10_night_59 rfl rfl ?_
  refine e_iconst (-1) dX10_night_60 (by decide) ?_
  refine e_icmp_ne 71 dX10_night_61 (by decide) (fun c => absurd c (by decide)) (fun _ => ?_)
  refine e_aload_n dX10_night_64 rfl rfl ?_
  refine e_callV (k := 89) [] dX10_night_65 cc_X10_drawn lk_RX10_228 im_X10_drawn se_X10_drawn (by decide) (Ms.s 89 rfl) (Ms.n (by decide)) rfl (Nat.le_of_ble_eq_true rfl) (Nat.le_of_ble_eq_true rfl) ?_
  refine t_X10_drawn (tr := false) Ms Mr hD hW (fun σ1 Sm1 Mr1 => fK_i ?_)
  show fEv g _ mX10_night 68 [some (.ref 89), some (.int (nI f)), some (.int ((-1))), some (.int (nI (S 152))), none] [.int (nI ((mdc D S sd).1))] σ1 Q
  have Ms1 := Ms.sm Sm1
  refine e_goto 72 dX10_night_68 (by decide) ?_
  refine e_istore (L1 := [some (.ref 89), some (.int (nI f)), some (.int ((-1))), some (.int (nI (S 152))), some (.int (nI ((mdc D S sd).1)))]) dX10_night_72 (by decide) rfl ?_
  have n1 : ∀ a, a ≠ 197 → ∀ j, fI σ1 a j = fI σ a j := fun a ha j => Sm1.i (fun q => by unfold fRA at q; rcases q with q | q; exact ha q; exact absurd q.1 (by decide)) j
  have Mt1 : fMt σ1 S T := Mt.cg hD hW (n1 220 (by omega)) (fun r hr => n1 _ (by omega))
  refine l_X10_nt74 Ms1 Mr1 Mt1 hD hW hC hN hn hf (mdc_9 hD S sd) (fun σ' Sm' Mr' Mt' k' h31 => ?_)
  have A9 : fSm fNA σ σ' := (Sm1.to (fun a q => by unfold fRA at q; rcases q with q | q; exact Or.inr (Or.inl q); exact absurd q.1 (by decide))).tr Sm'
  have k9 : ∀ j, j ≠ 31 → fI σ' 89 j = fI σ 89 j := fun j hj => (k' j hj).trans (n1 89 (by omega) j)
  have na : ∀ a, ¬ fNA a → ∀ j, fI σ' a j = fI σ a j := fun a ha j => A9.i ha j
  exact h σ' (A9.to (fun a q => by unfold fNA at q; unfold fRfA; omega)) (Ir.cur (i := ((mgo ldr D f (mdc D S sd).1 (S, T, (mdc D S sd).2)).1, (mgo ldr D f (mdc D S sd).1 (S, T, (mdc D S sd).2)).2.1, (mgo ldr D f (mdc D S sd).1 (S, T, (mdc D S sd).2)).2.2, pn, P, rn, R)) ok A9 (fun a q => by unfold fNA at q; omega) (fun j hj => by simp only [List.mem_cons, List.not_mem_nil, or_false] at hj; by_cases e : j = 31; rw [e, h31, Ir.2.2.1.2.1]; exact k9 j e) Mr' Mt' (Rc.cg rn6 (k9 22 (by decide)) (k9 23 (by decide)) (na 219 (by unfold fNA; omega)) (fun r hr => na _ (by unfold fNA; omega)))) ((k9 0 (by decide)).trans hz)
set_option maxRecDepth 20000 in
theorem t_X10_nightD {g : fGP} {d : Nat} {σ : fAH} {Q : fRes → fAH → Prop} {x : fXS} {f : Nat}  (Ms : fMs g σ) (ok : fOK x) (Ir : fIr σ x) (hf : f < 4096) (hv1 : nI f &&& (nI (mfa (mal (xD x) (iS (xI x))) 12 (dT (xD x) 1) 0 0) ^^^ (-1)) = 0) (hv2 : mon f 12 0 ≤ dT (xD x) 3) (hn : (iS (xI x)) 155 < 30) (h : ∀ σ', fSm fRfA σ σ' → fIr σ' (xN f (mdc (xD x) (iS (xI x)) (iq (xI x))).1 x (mdc (xD x) (iS (xI x)) (iq (xI x))).2) → fI σ' 89 0 = nI 0 → Q (.inl (some (.int (nI ((mgo ldr (xD x) f (mdc (xD x) (iS (xI x)) (iq (xI x))).1 ((iS (xI x)), (iT (xI x)), (mdc (xD x) (iS (xI x)) (iq (xI x))).2)).1 152) - nI ((iS (xI x)) 152))))) σ') : fEv g (d + 5) mX10_night 0 (fent [.ref 89, .int (nI f), .int ((-1))] 5) [] σ Q := by
  have S9 : fSm (fun a => a = 89) σ (fsI σ 89 0 (nI 0)) := fSm_I rfl
  show fEv g (d + 5) mX10_night 0 [some (.ref 89), some (.int (nI f)), some (.int ((-1))), none, none] [] σ Q
  refine e_aload_n dX10_night_0 rfl rfl ?_
  refine e_iconst (nI 0) dX10_night_1 (by decide) ?_
  refine e_putI dX10_night_2 fl_RX10_76 (Ms.s 89 rfl) (Ms.n (by decide)) rfl rfl ?_
  exact lp_X10_nightD (Ms.sm S9) ok (Ir.f0 ok S9 (fun a (q : a = 89) => Or.inl (by omega)) (fun j hj => by simp only [List.mem_cons, List.not_mem_nil, or_false] at hj; rw [fI_I, if_neg (by omega)])) (by rw [fI_I, if_pos ⟨rfl, rfl⟩]) hf hv1 hv2 hn (fun σ' Sm' => h σ' ((S9.to (fun a (q : a = 89) => by unfold fRfA; omega)).tr Sm'))
set_option maxRecDepth 20000 in
theorem lp_X10_nightE1 {g : fGP} {d : Nat} {σ : fAH} {Q : fRes → fAH → Prop} {x : fXS} {a b : Int32}  (Ms : fMs g σ) (ok : fOK x) (Ir : fIr σ x) (hz : fI σ 89 0 = nI 0) (hv1 : ¬ a &&& (nI (mfa (mal (xD x) (iS (xI x))) 12 (dT (xD x) 1) 0 0) ^^^ (-1)) = 0) (h : ∀ σ', fSm fRfA σ σ' → fIr σ' x → fI σ' 89 0 = nI 1 → Q (.inl (some (.int (nI 0)))) σ') : fEv g (d + 5) mX10_night 5 [some (.ref 89), some (.int a), some (.int b), none, none] [] σ Q := by
  obtain ⟨D, ⟨S, T, sd, pn, P, rn, R⟩, B, tp, pl, im, Im⟩ := x
  have hD : fWD D := ok.1
  have hW : fWS D S := ok.2.1.1
  have hC : fWC D S := ok.2.1.2.1
  have hN : fWN S 0 0 := ok.2.1.2.2.1
  have Mr : fMr σ D S sd := Ir.1
  have Mt : fMt σ S T := Ir.2.1
  obtain ⟨t0, t1, t2, t3, t4, t5, t6⟩ := id hD.1
  have np := hW.n hD
  have n5 := hW.2.2.2.2
  have tp6 : tp ≤ 600 := ok.2.2.2.1
  have im3 : im ≤ 3 := ok.2.2.2.2.1
  have pn3 : pn ≤ 30 := ok.2.1.2.2.2.1
  have rn6 : rn ≤ 60 := ok.2.1.2.2.2.2.2.1
  have Rc : fRc σ (S, T, sd, pn, P, rn, R) := Ir.2.2.2.2.1
  have w52 := hW.1
  show fEv g (d + 5) mX10_night 5 [some (.ref 89), some (.int a), some (.int b), none, none] [] σ Q
  refine e_aload_n dX10_night_5 rfl rfl ?_
  refine e_aload_n dX10_night_6 rfl rfl ?_
  refine e_iload_n dX10_night_7 rfl rfl ?_
  refine e_callV (k := 89) [.int a] dX10_night_8 cc_X10_isFill lk_RX10_221 im_X10_isFill se_X10_isFill (by decide) (Ms.s 89 rfl) (Ms.n (by decide)) rfl (Nat.le_of_ble_eq_true rfl) (Nat.le_of_ble_eq_true rfl) ?_
  refine t_X10_isFillF1 Ms Mr hD hW hv1 (fK_i ?_)
  show fEv g _ mX10_night 11 [some (.ref 89), some (.int a), some (.int b), none, none] [.int (nI 0), .ref 89] σ Q
  refine e_if_eq 24 dX10_night_11 (by decide) (fun _ => ?_) (fun c => absurd c (by decide))
  refine e_iconst (nI 1) dX10_night_24 (by decide) ?_
  refine e_goto 29 dX10_night_25 (by decide) ?_
  refine e_iconst (nI 1) dX10_night_29 (by decide) ?_
  refine e_callV (k := 89) [.int (nI 1), .int (nI 1)] dX10_night_30 cc_X10_bad lk_RX10_148 im_X10_bad se_X10_bad (by decide) (Ms.s 89 rfl) (Ms.n (by decide)) rfl (Nat.le_of_ble_eq_true rfl) (Nat.le_of_ble_eq_true rfl) ?_
  refine t_X10_bad1 Ms hz (by decide) (fK_i ?_)
  show fEv g _ mX10_night 33 [some (.ref 89), some (.int a), some (.int b), none, none] [.int (nI 1)] (fsI σ 89 0 (nI 1)) Q
  refine e_if_ne 48 dX10_night_33 (by decide) (fun _ => ?_) (fun c => absurd c (by decide))
  refine e_iconst (nI 0) dX10_night_48 (by decide) ?_
  exact e_ireturn .int dX10_night_49 rfl rfl (h _ (fSm_I (by unfold fRfA; omega)) (Ir.f0 ok (A := fun a => a = 89) (fSm_I rfl) (fun a (q : a = 89) => Or.inl (by omega)) (fun j hj => by simp only [List.mem_cons, List.not_mem_nil, or_false] at hj; rw [fI_I, if_neg (by omega)])) (by rw [fI_I, if_pos ⟨rfl, rfl⟩]))
set_option maxRecDepth 20000 in
theorem t_X10_nightE1 {g : fGP} {d : Nat} {σ : fAH} {Q : fRes → fAH → Prop} {x : fXS} {a b : Int32}  (Ms : fMs g σ) (ok : fOK x) (Ir : fIr σ x) (hv1 : ¬ a &&& (nI (mfa (mal (xD x) (iS (xI x))) 12 (dT (xD x) 1) 0 0) ^^^ (-1)) = 0) (h : ∀ σ', fSm fRfA σ σ' → fIr σ' x → fI σ' 89 0 = nI 1 → Q (.inl (some (.int (nI 0)))) σ') : fEv g (d + 5) mX10_night 0 (fent [.ref 89, .int a, .int b] 5) [] σ Q := by
  have S9 : fSm (fun a => a = 89) σ (fsI σ 89 0 (nI 0)) := fSm_I rfl
  show fEv g (d + 5) mX10_night 0 [some (.ref 89), some (.int a), some (.int b), none, none] [] σ Q
  refine e_aload_n dX10_night_0 rfl rfl ?_
  refine e_iconst (nI 0) dX10_night_1 (by decide) ?_
  refine e_putI dX10_night_2 fl_RX10_76 (Ms.s 89 rfl) (Ms.n (by decide)) rfl rfl ?_
  exact lp_X10_nightE1 (Ms.sm S9) ok (Ir.f0 ok S9 (fun a (q : a = 89) => Or.inl (by omega)) (fun j hj => by simp only [List.mem_cons, List.not_mem_nil, or_false] at hj; rw [fI_I, if_neg (by omega)])) (by rw [fI_I, if_pos ⟨rfl, rfl⟩]) hv1 (fun σ' Sm' => h σ' ((S9.to (fun a (q : a = 89) => by unfold fRfA; omega)).tr Sm'))
set_option maxRecDepth 20000 in
theorem lp_X10_nightE2 {g : fGP} {d : Nat} {σ : fAH} {Q : fRes → fAH → Prop} {x : fXS} {f : Nat} {b : Int32}  (Ms : fMs g σ) (ok : fOK x) (Ir : fIr σ x) (hz : fI σ 89 0 = nI 0) (hf : f < 4096) (hv1 : nI f &&& (nI (mfa (mal (xD x) (iS (xI x))) 12 (dT (xD x) 1) 0 0) ^^^ (-1)) = 0) (hv2 : ¬ mon f 12 0 ≤ dT (xD x) 3) (h : ∀ σ', fSm fRfA σ σ' → fIr σ' x → fI σ' 89 0 = nI 1 → Q (.inl (some (.int (nI 0)))) σ') : fEv g (d + 5) mX10_night 5 [some (.ref 89), some (.int (nI f)), some (.int b), none, none] [] σ Q := by
  obtain ⟨D, ⟨S, T, sd, pn, P, rn, R⟩, B, tp, pl, im, Im⟩ := x
  have hD : fWD D := ok.1
  have hW : fWS D S := ok.2.1.1
  have hC : fWC D S := ok.2.1.2.1
  have hN : fWN S 0 0 := ok.2.1.2.2.1
  have Mr : fMr σ D S sd := Ir.1
  have Mt : fMt σ S T := Ir.2.1
  obtain ⟨t0, t1, t2, t3, t4, t5, t6⟩ := id hD.1
  have np := hW.n hD
  have n5 := hW.2.2.2.2
  have tp6 : tp ≤ 600 := ok.2.2.2.1
  have im3 : im ≤ 3 := ok.2.2.2.2.1
  have pn3 : pn ≤ 30 := ok.2.1.2.2.2.1
  have rn6 : rn ≤ 60 := ok.2.1.2.2.2.2.2.1
  have Rc : fRc σ (S, T, sd, pn, P, rn, R) := Ir.2.2.2.2.1
  have w52 := hW.1
  show fEv g (d + 5) mX10_night 5 [some (.ref 89), some (.int (nI f)), some (.int b), none, none] [] σ Q
  refine e_aload_n dX10_night_5 rfl rfl ?_
  refine e_aload_n dX10_night_6 rfl rfl ?_
  refine e_iload_n dX10_night_7 rfl rfl ?_
  refine e_callV (k := 89) [.int (nI f)] dX10_night_8 cc_X10_isFill lk_RX10_221 im_X10_isFill se_X10_isFill (by decide) (Ms.s 89 rfl) (Ms.n (by decide)) rfl (Nat.le_of_ble_eq_true rfl) (Nat.le_of_ble_eq_true rfl) ?_
  refine t_X10_isFillF2 Ms Mr hD hW hf hv1 hv2 (fK_i ?_)
  show fEv g _ mX10_night 11 [some (.ref 89), some (.int (nI f)), some (.int b), none, none] [.int (nI 0), .ref 89] σ Q
  refine e_if_eq 24 dX10_night_11 (by decide) (fun _ => ?_) (fun c => absurd c (by decide))
  refine e_iconst (nI 1) dX10_night_24 (by decide) ?_
  refine e_goto 29 dX10_night_25 (by decide) ?_
  refine e_iconst (nI 1) dX10_night_29 (by decide) ?_
  refine e_callV (k := 89) [.int (nI 1), .int (nI 1)] dX10_night_30 cc_X10_bad lk_RX10_148 im_X10_bad se_X10_bad (by decide) (Ms.s 89 rfl) (Ms.n (by decide)) rfl (Nat.le_of_ble_eq_true rfl) (Nat.le_of_ble_eq_true rfl) ?_
  refine t_X10_bad1 Ms hz (by decide) (fK_i ?_)
  show fEv g _ mX10_night 33 [some (.ref 89), some (.int (nI f)), some (.int b), none, none] [.int (nI 1)] (fsI σ 89 0 (nI 1)) Q
  refine e_if_ne 48 dX10_night_33 (by decide) (fun _ => ?_) (fun c => absurd c (by decide))
  refine e_iconst (nI 0) dX10_night_48 (by decide) ?_
  exact e_ireturn .int dX10_night_49 rfl rfl (h _ (fSm_I (by unfold fRfA; omega)) (Ir.f0 ok (A := fun a => a = 89) (fSm_I rfl) (fun a (q : a = 89) => Or.inl (by omega)) (fun j hj => by simp only [List.mem_cons, List.not_mem_nil, or_false] at hj; rw [fI_I, if_neg (by omega)])) (by rw [fI_I, if_pos ⟨rfl, rfl⟩]))
set_option maxRecDepth 20000 in
theorem t_X10_nightE2 {g : fGP} {d : Nat} {σ : fAH} {Q : fRes → fAH → Prop} {x : fXS} {f : Nat} {b : Int32}  (Ms : fMs g σ) (ok : fOK x) (Ir : fIr σ x) (hf : f < 4096) (hv1 : nI f &&& (nI (mfa (mal (xD x) (iS (xI x))) 12 (dT (xD x) 1) 0 0) ^^^ (-1)) = 0) (hv2 : ¬ mon f 12 0 ≤ dT (xD x) 3) (h : ∀ σ', fSm fRfA σ σ' → fIr σ' x → fI σ' 89 0 = nI 1 → Q (.inl (some (.int (nI 0)))) σ') : fEv g (d + 5) mX10_night 0 (fent [.ref 89, .int (nI f), .int b] 5) [] σ Q := by
  have S9 : fSm (fun a => a = 89) σ (fsI σ 89 0 (nI 0)) := fSm_I rfl
  show fEv g (d + 5) mX10_night 0 [some (.ref 89), some (.int (nI f)), some (.int b), none, none] [] σ Q
  refine e_aload_n dX10_night_0 rfl rfl ?_
  refine e_iconst (nI 0) dX10_night_1 (by decide) ?_
  refine e_putI dX10_night_2 fl_RX10_76 (Ms.s 89 rfl) (Ms.n (by decide)) rfl rfl ?_
  exact lp_X10_nightE2 (Ms.sm S9) ok (Ir.f0 ok S9 (fun a (q : a = 89) => Or.inl (by omega)) (fun j hj => by simp only [List.mem_cons, List.not_mem_nil, or_false] at hj; rw [fI_I, if_neg (by omega)])) (by rw [fI_I, if_pos ⟨rfl, rfl⟩]) hf hv1 hv2 (fun σ' Sm' => h σ' ((S9.to (fun a (q : a = 89) => by unfold fRfA; omega)).tr Sm'))
set_option maxRecDepth 20000 in
theorem lp_X10_nightE3 {g : fGP} {d : Nat} {σ : fAH} {Q : fRes → fAH → Prop} {x : fXS} {f : Nat} {b : Int32}  (Ms : fMs g σ) (ok : fOK x) (Ir : fIr σ x) (hz : fI σ 89 0 = nI 0) (hf : f < 4096) (hv1 : nI f &&& (nI (mfa (mal (xD x) (iS (xI x))) 12 (dT (xD x) 1) 0 0) ^^^ (-1)) = 0) (hv2 : mon f 12 0 ≤ dT (xD x) 3) (hv : ¬ (-1 ≤ b ∧ b ≤ nI 9)) (h : ∀ σ', fSm fRfA σ σ' → fIr σ' x → fI σ' 89 0 = nI 1 → Q (.inl (some (.int (nI 0)))) σ') : fEv g (d + 5) mX10_night 5 [some (.ref 89), some (.int (nI f)), some (.int b), none, none] [] σ Q := by
  obtain ⟨D, ⟨S, T, sd, pn, P, rn, R⟩, B, tp, pl, im, Im⟩ := x
  have hD : fWD D := ok.1
  have hW : fWS D S := ok.2.1.1
  have hC : fWC D S := ok.2.1.2.1
  have hN : fWN S 0 0 := ok.2.1.2.2.1
  have Mr : fMr σ D S sd := Ir.1
  have Mt : fMt σ S T := Ir.2.1
  obtain ⟨t0, t1, t2, t3, t4, t5, t6⟩ := id hD.1
  have np := hW.n hD
  have n5 := hW.2.2.2.2
  have tp6 : tp ≤ 600 := ok.2.2.2.1
  have im3 : im ≤ 3 := ok.2.2.2.2.1
  have pn3 : pn ≤ 30 := ok.2.1.2.2.2.1
  have rn6 : rn ≤ 60 := ok.2.1.2.2.2.2.2.1
  have Rc : fRc σ (S, T, sd, pn, P, rn, R) := Ir.2.2.2.2.1
  have w52 := hW.1
  show fEv g (d + 5) mX10_night 5 [some (.ref 89), some (.int (nI f)), some (.int b), none, none] [] σ Q
  refine e_aload_n dX10_night_5 rfl rfl ?_
  refine e_aload_n dX10_night_6 rfl rfl ?_
  refine e_iload_n dX10_night_7 rfl rfl ?_
  refine e_callV (k := 89) [.int (nI f)] dX10_night_8 cc_X10_isFill lk_RX10_221 im_X10_isFill se_X10_isFill (by decide) (Ms.s 89 rfl) (Ms.n (by decide)) rfl (Nat.le_of_ble_eq_true rfl) (Nat.le_of_ble_eq_true rfl) ?_
  refine t_X10_isFillT Ms Mr hD hW hf hv1 hv2 (fK_i ?_)
  show fEv g _ mX10_night 11 [some (.ref 89), some (.int (nI f)), some (.int b), none, none] [.int (nI 1), .ref 89] σ Q
  refine e_if_eq 24 dX10_night_11 (by decide) (fun c => absurd c (by decide)) (fun _ => ?_)
  refine e_iload_n dX10_night_14 rfl rfl ?_
  refine e_iconst (-1) dX10_night_15 (by decide) ?_
  refine e_bipush (nI 9) dX10_night_16 (by decide) ?_
  refine e_callS [.int b, .int ((-1)), .int (nI 9)] dX10_night_18 cc_X10_in lk_RX10_110 st_X10_in in_RX10 rfl (Nat.le_of_ble_eq_true rfl) (Nat.le_of_ble_eq_true rfl) ?_
  refine t_X10_inF hv (fK_i ?_)
  show fEv g _ mX10_night 21 [some (.ref 89), some (.int (nI f)), some (.int b), none, none] [.int (nI 0), .ref 89] σ Q
  refine e_if_ne 28 dX10_night_21 (by decide) (fun c => absurd c (by decide)) (fun _ => ?_)
  refine e_iconst (nI 1) dX10_night_24 (by decide) ?_
  refine e_goto 29 dX10_night_25 (by decide) ?_
  refine e_iconst (nI 1) dX10_night_29 (by decide) ?_
  refine e_callV (k := 89) [.int (nI 1), .int (nI 1)] dX10_night_30 cc_X10_bad lk_RX10_148 im_X10_bad se_X10_bad (by decide) (Ms.s 89 rfl) (Ms.n (by decide)) rfl (Nat.le_of_ble_eq_true rfl) (Nat.le_of_ble_eq_true rfl) ?_
  refine t_X10_bad1 Ms hz (by decide) (fK_i ?_)
  show fEv g _ mX10_night 33 [some (.ref 89), some (.int (nI f)), some (.int b), none, none] [.int (nI 1)] (fsI σ 89 0 (nI 1)) Q
  refine e_if_ne 48 dX10_night_33 (by decide) (fun _ => ?_) (fun c => absurd c (by decide))
  refine e_iconst (nI 0) dX10_night_48 (by decide) ?_
  exact e_ireturn .int dX10_night_49 rfl rfl (h _ (fSm_I (by unfold fRfA; omega)) (Ir.f0 ok (A := fun a => a = 89) (fSm_I rfl) (fun a (q : a = 89) => Or.inl (by omega)) (fun j hj => by simp only [List.mem_cons, List.not_mem_nil, or_false] at hj; rw [fI_I, if_neg (by omega)])) (by rw [fI_I, if_pos ⟨rfl, rfl⟩]))
set_option maxRecDepth 20000 in
theorem t_X10_nightE3 {g : fGP} {d : Nat} {σ : fAH} {Q : fRes → fAH → Prop} {x : fXS} {f : Nat} {b : Int32}  (Ms : fMs g σ) (ok : fOK x) (Ir : fIr σ x) (hf : f < 4096) (hv1 : nI f &&& (nI (mfa (mal (xD x) (iS (xI x))) 12 (dT (xD x) 1) 0 0) ^^^ (-1)) = 0) (hv2 : mon f 12 0 ≤ dT (xD x) 3) (hv : ¬ (-1 ≤ b ∧ b ≤ nI 9)) (h : ∀ σ', fSm fRfA σ σ' → fIr σ' x → fI σ' 89 0 = nI 1 → Q (.inl (some (.int (nI 0)))) σ') : fEv g (d + 5) mX10_night 0 (fent [.ref 89, .int (nI f), .int b] 5) [] σ Q := by
  have S9 : fSm (fun a => a = 89) σ (fsI σ 89 0 (nI 0)) := fSm_I rfl
  show fEv g (d + 5) mX10_night 0 [some (.ref 89), some (.int (nI f)), some (.int b), none, none] [] σ Q
  refine e_aload_n dX10_night_0 rfl rfl ?_
  refine e_iconst (nI 0) dX10_night_1 (by decide) ?_
  refine e_putI dX10_night_2 fl_RX10_76 (Ms.s 89 rfl) (Ms.n (by decide)) rfl rfl ?_
  exact lp_X10_nightE3 (Ms.sm S9) ok (Ir.f0 ok S9 (fun a (q : a = 89) => Or.inl (by omega)) (fun j hj => by simp only [List.mem_cons, List.not_mem_nil, or_false] at hj; rw [fI_I, if_neg (by omega)])) (by rw [fI_I, if_pos ⟨rfl, rfl⟩]) hf hv1 hv2 hv (fun σ' Sm' => h σ' ((S9.to (fun a (q : a = 89) => by unfold fRfA; omega)).tr Sm'))
set_option maxRecDepth 20000 in
theorem lp_X10_nightE4 {g : fGP} {d : Nat} {σ : fAH} {Q : fRes → fAH → Prop} {x : fXS} {f : Nat} {b : Int32}  (Ms : fMs g σ) (ok : fOK x) (Ir : fIr σ x) (hz : fI σ 89 0 = nI 0) (hf : f < 4096) (hv1 : nI f &&& (nI (mfa (mal (xD x) (iS (xI x))) 12 (dT (xD x) 1) 0 0) ^^^ (-1)) = 0) (hv2 : mon f 12 0 ≤ dT (xD x) 3) (hv : -1 ≤ b ∧ b ≤ nI 9) (hn : ¬ (iS (xI x)) 155 < 30) (h : ∀ σ', fSm fRfA σ σ' → fIr σ' x → fI σ' 89 0 = nI 2 → Q (.inl (some (.int (nI 0)))) σ') : fEv g (d + 5) mX10_night 5 [some (.ref 89), some (.int (nI f)), some (.int b), none, none] [] σ Q := by
  obtain ⟨D, ⟨S, T, sd, pn, P, rn, R⟩, B, tp, pl, im, Im⟩ := x
  have hD : fWD D := ok.1
  have hW : fWS D S := ok.2.1.1
  have hC : fWC D S := ok.2.1.2.1
  have hN : fWN S 0 0 := ok.2.1.2.2.1
  have Mr : fMr σ D S sd := Ir.1
  have Mt : fMt σ S T := Ir.2.1
  obtain ⟨t0, t1, t2, t3, t4, t5, t6⟩ := id hD.1
  have np := hW.n hD
  have n5 := hW.2.2.2.2
  have tp6 : tp ≤ 600 := ok.2.2.2.1
  have im3 : im ≤ 3 := ok.2.2.2.2.1
  have pn3 : pn ≤ 30 := ok.2.1.2.2.2.1
  have rn6 : rn ≤ 60 := ok.2.1.2.2.2.2.2.1
  have Rc : fRc σ (S, T, sd, pn, P, rn, R) := Ir.2.2.2.2.1
  have w52 := hW.1
  show fEv g (d + 5) mX10_night 5 [some (.ref 89), some (.int (nI f)), some (.int b), none, none] [] σ Q
  refine e_aload_n dX10_night_5 rfl rfl ?_
  refine e_aload_n dX10_night_6 rfl rfl ?_
  refine e_iload_n dX10_night_7 rfl rfl ?_
  refine e_callV (k := 89) [.int (nI f)] dX10_night_8 cc_X10_isFill lk_RX10_221 im_X10_isFill se_X10_isFill (by decide) (Ms.s 89 rfl) (Ms.n (by decide)) rfl (Nat.le_of_ble_eq_true rfl) (Nat.le_of_ble_eq_true rfl) ?_
  refine t_X10_isFillT Ms Mr hD hW hf hv1 hv2 (fK_i ?_)
  show fEv g _ mX10_night 11 [some (.ref 89), some (.int (nI f)), some (.int b), none, none] [.int (nI 1), .ref 89] σ Q
  refine e_if_eq 24 dX10_night_11 (by decide) (fun c => absurd c (by decide)) (fun _ => ?_)
  refine e_iload_n dX10_night_14 rfl rfl ?_
  refine e_iconst (-1) dX10_night_15 (by decide) ?_
  refine e_bipush (nI 9) dX10_night_16 (by decide) ?_
  refine e_callS [.int b, .int ((-1)), .int (nI 9)] dX10_night_18 cc_X10_in lk_RX10_110 st_X10_in in_RX10 rfl (Nat.le_of_ble_eq_true rfl) (Nat.le_of_ble_eq_true rfl) ?_
  refine t_X10_inT hv (fK_i ?_)
  show fEv g _ mX10_night 21 [some (.ref 89), some (.int (nI f)), some (.int b), none, none] [.int (nI 1), .ref 89] σ Q
  refine e_if_ne 28 dX10_night_21 (by decide) (fun _ => ?_) (fun c => absurd c (by decide))
  refine e_iconst (nI 0) dX10_night_28 (by decide) ?_
  refine e_iconst (nI 1) dX10_night_29 (by decide) ?_
  refine e_callV (k := 89) [.int (nI 0), .int (nI 1)] dX10_night_30 cc_X10_bad lk_RX10_148 im_X10_bad se_X10_bad (by decide) (Ms.s 89 rfl) (Ms.n (by decide)) rfl (Nat.le_of_ble_eq_true rfl) (Nat.le_of_ble_eq_true rfl) ?_
  refine t_X10_bad0 Ms hz (by decide) (fK_i ?_)
  show fEv g _ mX10_night 33 [some (.ref 89), some (.int (nI f)), some (.int b), none, none] [.int (nI 0)] σ Q
  refine e_if_ne 48 dX10_night_33 (by decide) (fun c => absurd c (by decide)) (fun _ => ?_)
  refine e_aload_n dX10_night_36 rfl rfl ?_
  refine e_aload_n dX10_night_37 rfl rfl ?_
  refine e_callV (k := 89) [] dX10_night_38 cc_X10_isOver lk_RX10_224 im_X10_isOver se_X10_isOver (by decide) (Ms.s 89 rfl) (Ms.n (by decide)) rfl (Nat.le_of_ble_eq_true rfl) (Nat.le_of_ble_eq_true rfl) ?_
  refine t_X10_isOverT Ms Mr hD hW hn (fK_i ?_)
  show fEv g _ mX10_night 41 [some (.ref 89), some (.int (nI f)), some (.int b), none, none] [.int (nI 1), .ref 89] σ Q
  refine e_iconst (nI 2) dX10_night_41 (by decide) ?_
  refine e_callV (k := 89) [.int (nI 1), .int (nI 2)] dX10_night_42 cc_X10_bad lk_RX10_148 im_X10_bad se_X10_bad (by decide) (Ms.s 89 rfl) (Ms.n (by decide)) rfl (Nat.le_of_ble_eq_true rfl) (Nat.le_of_ble_eq_true rfl) ?_
  refine t_X10_bad1 Ms hz (by decide) (fK_i ?_)
  show fEv g _ mX10_night 45 [some (.ref 89), some (.int (nI f)), some (.int b), none, none] [.int (nI 1)] (fsI σ 89 0 (nI 2)) Q
  refine e_if_eq 50 dX10_night_45 (by decide) (fun c => absurd c (by decide)) (fun _ => ?_)
  refine e_iconst (nI 0) dX10_night_48 (by decide) ?_
  exact e_ireturn .int dX10_night_49 rfl rfl (h _ (fSm_I (by unfold fRfA; omega)) (Ir.f0 ok (A := fun a => a = 89) (fSm_I rfl) (fun a (q : a = 89) => Or.inl (by omega)) (fun j hj => by simp only [List.mem_cons, List.not_mem_nil, or_false] at hj; rw [fI_I, if_neg (by omega)])) (by rw [fI_I, if_pos ⟨rfl, rfl⟩]))
set_option maxRecDepth 20000 in
theorem t_X10_nightE4 {g : fGP} {d : Nat} {σ : fAH} {Q : fRes → fAH → Prop} {x : fXS} {f : Nat} {b : Int32}  (Ms : fMs g σ) (ok : fOK x) (Ir : fIr σ x) (hf : f < 4096) (hv1 : nI f &&& (nI (mfa (mal (xD x) (iS (xI x))) 12 (dT (xD x) 1) 0 0) ^^^ (-1)) = 0) (hv2 : mon f 12 0 ≤ dT (xD x) 3) (hv : -1 ≤ b ∧ b ≤ nI 9) (hn : ¬ (iS (xI x)) 155 < 30) (h : ∀ σ', fSm fRfA σ σ' → fIr σ' x → fI σ' 89 0 = nI 2 → Q (.inl (some (.int (nI 0)))) σ') : fEv g (d + 5) mX10_night 0 (fent [.ref 89, .int (nI f), .int b] 5) [] σ Q := by
  have S9 : fSm (fun a => a = 89) σ (fsI σ 89 0 (nI 0)) := fSm_I rfl
  show fEv g (d + 5) mX10_night 0 [some (.ref 89), some (.int (nI f)), some (.int b), none, none] [] σ Q
  refine e_aload_n dX10_night_0 rfl rfl ?_
  refine e_iconst (nI 0) dX10_night_1 (by decide) ?_
  refine e_putI dX10_night_2 fl_RX10_76 (Ms.s 89 rfl) (Ms.n (by decide)) rfl rfl ?_
  exact lp_X10_nightE4 (Ms.sm S9) ok (Ir.f0 ok S9 (fun a (q : a = 89) => Or.inl (by omega)) (fun j hj => by simp only [List.mem_cons, List.not_mem_nil, or_false] at hj; rw [fI_I, if_neg (by omega)])) (by rw [fI_I, if_pos ⟨rfl, rfl⟩]) hf hv1 hv2 hv hn (fun σ' Sm' => h σ' ((S9.to (fun a (q : a = 89) => by unfold fRfA; omega)).tr Sm'))
