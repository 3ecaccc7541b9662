theorem le_sub1 {a : Int32} {n : Nat} (hn : n < 100000) : a ≤ nI n - nI 1 ↔ a < nI n := by
  by_cases h : n = 0
  · subst h
    rw [show nI 0 - nI 1 = -1 by decide, Int32.le_iff_toInt_le, Int32.lt_iff_toInt_lt, show (nI 0).toInt = 0 by decide, show (-1 : Int32).toInt = -1 by decide]
    omega
  · rw [pk_sub (by omega), Int32.le_iff_toInt_le, Int32.lt_iff_toInt_lt, nI_toInt (by omega), nI_toInt (by omega)]
    omega
theorem t_X10_inT {g : fGP} {d : Nat} {σ : fAH} {Q : fRes → fAH → Prop} {v lo hi : Int32} (hv : lo ≤ v ∧ v ≤ hi) (h : Q (.inl (some (.int (nI 1)))) σ) : fEv g d mX10_in 0 (fent [.int v, .int lo, .int hi] 3) [] σ Q := t_X10_in (by rw [decide_eq_true hv]; exact h)
theorem t_X10_inF {g : fGP} {d : Nat} {σ : fAH} {Q : fRes → fAH → Prop} {v lo hi : Int32} (hv : ¬ (lo ≤ v ∧ v ≤ hi)) (h : Q (.inl (some (.int (nI 0)))) σ) : fEv g d mX10_in 0 (fent [.int v, .int lo, .int hi] 3) [] σ Q := t_X10_in (by rw [decide_eq_false hv]; exact h)
set_option maxRecDepth 20000 in
theorem t_X10_isSlotT {g : fGP} {d : Nat} {σ : fAH} {Q : fRes → fAH → Prop} {D : fSD} {S : Nat → Nat} {sd : Int32} {k : Nat} (Ms : fMs g σ) (Mr : fMr σ D S sd) (hD : fWD D) (hk : k < dT D 1) (h : Q (.inl (some (.int (nI 1)))) σ) : fEv g (d + 1) mX10_isSlot 0 (fent [.ref 89, .int (nI k)] 2) [] σ Q := by
  obtain ⟨t0, t1, t2, t3, t4, t5, t6⟩ := id hD.1
  show fEv g (d + 1) mX10_isSlot 0 [some (.ref 89), some (.int (nI k))] [] σ Q
  refine e_iload_n dX10_isSlot_0 rfl rfl ?_
  refine e_iconst (nI 0) dX10_isSlot_1 (by decide) ?_
  refine e_aload_n dX10_isSlot_2 rfl rfl ?_
  refine e_getR (q := 92) dX10_isSlot_3 fl_RX10_20 (Ms.s 89 rfl) (Ms.n (by decide)) rfl (Ms.r 89 10 rfl) (by unfold fscr; omega) ?_
  refine e_iconst (nI 1) dX10_isSlot_6 (by decide) ?_
  refine e_iaload 1 dX10_isSlot_7 (Ms.s 92 rfl) (Ms.n (by decide)) rfl (by omega) (by decide) ?_
  refine e_int (nI (dT D 1)) (Mr.t 1 (by omega)) ?_
  refine e_iconst (nI 1) dX10_isSlot_8 (by decide) ?_
  refine e_isub dX10_isSlot_9 ?_
  refine e_callS [.int (nI k), .int (nI 0), .int ((nI (dT D 1)) - (nI 1))] dX10_isSlot_10 cc_X10_in lk_RX10_110 st_X10_in in_RX10 rfl (Nat.le_of_ble_eq_true rfl) (Nat.le_of_ble_eq_true rfl) ?_
  refine t_X10_inT ⟨(nI_le' (by omega) (by omega)).mpr (by omega), (le_sub1 (by omega)).mpr ((nI_lt' (by omega) (by omega)).mpr (by omega))⟩ (fK_i ?_)
  show fEv g _ mX10_isSlot 13 [some (.ref 89), some (.int (nI k))] [.int (nI 1)] σ Q
  exact e_ireturn .boolean dX10_isSlot_13 rfl (by decide) h
set_option maxRecDepth 20000 in
theorem t_X10_isSlotF {g : fGP} {d : Nat} {σ : fAH} {Q : fRes → fAH → Prop} {D : fSD} {S : Nat → Nat} {sd : Int32} {a : Int32} (Ms : fMs g σ) (Mr : fMr σ D S sd) (hD : fWD D) (hv : ¬ (nI 0 ≤ a ∧ a < nI (dT D 1))) (h : Q (.inl (some (.int (nI 0)))) σ) : fEv g (d + 1) mX10_isSlot 0 (fent [.ref 89, .int a] 2) [] σ Q := by
  obtain ⟨t0, t1, t2, t3, t4, t5, t6⟩ := id hD.1
  show fEv g (d + 1) mX10_isSlot 0 [some (.ref 89), some (.int a)] [] σ Q
  refine e_iload_n dX10_isSlot_0 rfl rfl ?_
  refine e_iconst (nI 0) dX10_isSlot_1 (by decide) ?_
  refine e_aload_n dX10_isSlot_2 rfl rfl ?_
  refine e_getR (q := 92) dX10_isSlot_3 fl_RX10_20 (Ms.s 89 rfl) (Ms.n (by decide)) rfl (Ms.r 89 10 rfl) (by unfold fscr; omega) ?_
  refine e_iconst (nI 1) dX10_isSlot_6 (by decide) ?_
  refine e_iaload 1 dX10_isSlot_7 (Ms.s 92 rfl) (Ms.n (by decide)) rfl (by omega) (by decide) ?_
  refine e_int (nI (dT D 1)) (Mr.t 1 (by omega)) ?_
  refine e_iconst (nI 1) dX10_isSlot_8 (by decide) ?_
  refine e_isub dX10_isSlot_9 ?_
  refine e_callS [.int a, .int (nI 0), .int ((nI (dT D 1)) - (nI 1))] dX10_isSlot_10 cc_X10_in lk_RX10_110 st_X10_in in_RX10 rfl (Nat.le_of_ble_eq_true rfl) (Nat.le_of_ble_eq_true rfl) ?_
  refine t_X10_inF (fun q => hv ⟨q.1, (le_sub1 (by omega)).mp q.2⟩) (fK_i ?_)
  show fEv g _ mX10_isSlot 13 [some (.ref 89), some (.int a)] [.int (nI 0)] σ Q
  exact e_ireturn .boolean dX10_isSlot_13 rfl (by decide) h
set_option maxRecDepth 20000 in
theorem t_X10_isOrderT {g : fGP} {d : Nat} {σ : fAH} {Q : fRes → fAH → Prop} {D : fSD} {S : Nat → Nat} {sd : Int32} {k : Nat} (Ms : fMs g σ) (Mr : fMr σ D S sd) (hD : fWD D) (hk : k < dT D 2) (h : Q (.inl (some (.int (nI 1)))) σ) : fEv g (d + 1) mX10_isOrder 0 (fent [.ref 89, .int (nI k)] 2) [] σ Q := by
  obtain ⟨t0, t1, t2, t3, t4, t5, t6⟩ := id hD.1
  show fEv g (d + 1) mX10_isOrder 0 [some (.ref 89), some (.int (nI k))] [] σ Q
  refine e_iload_n dX10_isOrder_0 rfl rfl ?_
  refine e_iconst (nI 0) dX10_isOrder_1 (by decide) ?_
  refine e_aload_n dX10_isOrder_2 rfl rfl ?_
  refine e_getR (q := 92) dX10_isOrder_3 fl_RX10_20 (Ms.s 89 rfl) (Ms.n (by decide)) rfl (Ms.r 89 10 rfl) (by unfold fscr; omega) ?_
  refine e_iconst (nI 2) dX10_isOrder_6 (by decide) ?_
  refine e_iaload 2 dX10_isOrder_7 (Ms.s 92 rfl) (Ms.n (by decide)) rfl (by omega) (by decide) ?_
  refine e_int (nI (dT D 2)) (Mr.t 2 (by omega)) ?_
  refine e_iconst (nI 1) dX10_isOrder_8 (by decide) ?_
  refine e_isub dX10_isOrder_9 ?_
  refine e_callS [.int (nI k), .int (nI 0), .int ((nI (dT D 2)) - (nI 1))] dX10_isOrder_10 cc_X10_in lk_RX10_110 st_X10_in in_RX10 rfl (Nat.le_of_ble_eq_true rfl) (Nat.le_of_ble_eq_true rfl) ?_
  refine t_X10_inT ⟨(nI_le' (by omega) (by omega)).mpr (by omega), (le_sub1 (by omega)).mpr ((nI_lt' (by omega) (by omega)).mpr (by omega))⟩ (fK_i ?_)
  show fEv g _ mX10_isOrder 13 [some (.ref 89), some (.int (nI k))] [.int (nI 1)] σ Q
  exact e_ireturn .boolean dX10_isOrder_13 rfl (by decide) h
set_option maxRecDepth 20000 in
theorem t_X10_isOrderF {g : fGP} {d : Nat} {σ : fAH} {Q : fRes → fAH → Prop} {D : fSD} {S : Nat → Nat} {sd : Int32} {a : Int32} (Ms : fMs g σ) (Mr : fMr σ D S sd) (hD : fWD D) (hv : ¬ (nI 0 ≤ a ∧ a < nI (dT D 2))) (h : Q (.inl (some (.int (nI 0)))) σ) : fEv g (d + 1) mX10_isOrder 0 (fent [.ref 89, .int a] 2) [] σ Q := by
  obtain ⟨t0, t1, t2, t3, t4, t5, t6⟩ := id hD.1
  show fEv g (d + 1) mX10_isOrder 0 [some (.ref 89), some (.int a)] [] σ Q
  refine e_iload_n dX10_isOrder_0 rfl rfl ?_
  refine e_iconst (nI 0) dX10_isOrder_1 (by decide) ?_
  refine e_aload_n dX10_isOrder_2 rfl rfl ?_
  refine e_getR (q := 92) dX10_isOrder_3 fl_RX10_20 (Ms.s 89 rfl) (Ms.n (by decide)) rfl (Ms.r 89 10 rfl) (by unfold fscr; omega) ?_
  refine e_iconst (nI 2) dX10_isOrder_6 (by decide) ?_
  refine e_iaload 2 dX10_isOrder_7 (Ms.s 92 rfl) (Ms.n (by decide)) rfl (by omega) (by decide) ?_
  refine e_int (nI (dT D 2)) (Mr.t 2 (by omega)) ?_
  refine e_iconst (nI 1) dX10_isOrder_8 (by decide) ?_
  refine e_isub dX10_isOrder_9 ?_
  refine e_callS [.int a, .int (nI 0), .int ((nI (dT D 2)) - (nI 1))] dX10_isOrder_10 cc_X10_in lk_RX10_110 st_X10_in in_RX10 rfl (Nat.le_of_ble_eq_true rfl) (Nat.le_of_ble_eq_true rfl) ?_
  refine t_X10_inF (fun q => hv ⟨q.1, (le_sub1 (by omega)).mp q.2⟩) (fK_i ?_)
  show fEv g _ mX10_isOrder 13 [some (.ref 89), some (.int a)] [.int (nI 0)] σ Q
  exact e_ireturn .boolean dX10_isOrder_13 rfl (by decide) h
set_option maxRecDepth 20000 in
theorem lp_X10_fault {g : fGP} {d : Nat} {σ : fAH} {Q : fRes → fAH → Prop} {x : fXS}  (Ms : fMs g σ) (ok : fOK x) (Ir : fIr σ x) (hz : fI σ 89 0 = nI 0) (h : ∀ σ', fSm fRfA σ σ' → fIr σ' x → fI σ' 89 0 = nI 0 → Q (.inl (some (.int (xp x)))) σ') : fEv g (d) mX10_fault 5 [some (.ref 89)] [] σ Q := by
  obtain ⟨D, ⟨S, T, sd, pn, P, rn, R⟩, B, tp, pl, im, Im⟩ := x
  have hD : fWD D := ok.1
  have hW : fWS D S := ok.2.1.1
  have hC : fWC D S := ok.2.1.2.1
  have hN : fWN S 0 0 := ok.2.1.2.2.1
  have Mr : fMr σ D S sd := Ir.1
  have Mt : fMt σ S T := Ir.2.1
  obtain ⟨t0, t1, t2, t3, t4, t5, t6⟩ := id hD.1
  have np := hW.n hD
  have n5 := hW.2.2.2.2
  have tp6 : tp ≤ 600 := ok.2.2.2.1
  have im3 : im ≤ 3 := ok.2.2.2.2.1
  have pn3 : pn ≤ 30 := ok.2.1.2.2.2.1
  have rn6 : rn ≤ 60 := ok.2.1.2.2.2.2.2.1
  have Rc : fRc σ (S, T, sd, pn, P, rn, R) := Ir.2.2.2.2.1
  have w52 := hW.1
  show fEv g (d) mX10_fault 5 [some (.ref 89)] [] σ Q
  refine e_aload_n dX10_fault_5 rfl rfl ?_
  refine e_getI dX10_fault_6 fl_RX10_9 (Ms.s 89 rfl) (Ms.n (by decide)) rfl ?_
  refine e_int (pl) Ir.2.2.1.2.2.2.2.1 ?_
  exact e_ireturn .int dX10_fault_9 rfl rfl (h σ fSm.rfl' Ir hz)
set_option maxRecDepth 20000 in
theorem t_X10_fault {g : fGP} {d : Nat} {σ : fAH} {Q : fRes → fAH → Prop} {x : fXS}  (Ms : fMs g σ) (ok : fOK x) (Ir : fIr σ x) (h : ∀ σ', fSm fRfA σ σ' → fIr σ' x → fI σ' 89 0 = nI 0 → Q (.inl (some (.int (xp x)))) σ') : fEv g (d) mX10_fault 0 (fent [.ref 89] 1) [] σ Q := by
  have S9 : fSm (fun a => a = 89) σ (fsI σ 89 0 (nI 0)) := fSm_I rfl
  show fEv g (d) mX10_fault 0 [some (.ref 89)] [] σ Q
  refine e_aload_n dX10_fault_0 rfl rfl ?_
  refine e_iconst (nI 0) dX10_fault_1 (by decide) ?_
  refine e_putI dX10_fault_2 fl_RX10_76 (Ms.s 89 rfl) (Ms.n (by decide)) rfl rfl ?_
  exact lp_X10_fault (Ms.sm S9) ok (Ir.f0 ok S9 (fun a (q : a = 89) => Or.inl (by omega)) (fun j hj => by simp only [List.mem_cons, List.not_mem_nil, or_false] at hj; rw [fI_I, if_neg (by omega)])) (by rw [fI_I, if_pos ⟨rfl, rfl⟩])  (fun σ' Sm' => h σ' ((S9.to (fun a (q : a = 89) => by unfold fRfA; omega)).tr Sm'))
set_option maxRecDepth 20000 in
theorem lp_X10_told {g : fGP} {d : Nat} {σ : fAH} {Q : fRes → fAH → Prop} {x : fXS} {w : Nat}  (Ms : fMs g σ) (ok : fOK x) (Ir : fIr σ x) (hz : fI σ 89 0 = nI 0) (hw : w < 8) (h : ∀ σ', fSm fRfA σ σ' → fIr σ' x → fI σ' 89 0 = nI 0 → Q (.inl (some (.int (vTold (xD x) (iS (xI x)) w)))) σ') : fEv g (d + 1) mX10_told 5 [some (.ref 89), some (.int (nI w))] [] σ Q := by
  obtain ⟨D, ⟨S, T, sd, pn, P, rn, R⟩, B, tp, pl, im, Im⟩ := x
  have hD : fWD D := ok.1
  have hW : fWS D S := ok.2.1.1
  have hC : fWC D S := ok.2.1.2.1
  have hN : fWN S 0 0 := ok.2.1.2.2.1
  have Mr : fMr σ D S sd := Ir.1
  have Mt : fMt σ S T := Ir.2.1
  obtain ⟨t0, t1, t2, t3, t4, t5, t6⟩ := id hD.1
  have np := hW.n hD
  have n5 := hW.2.2.2.2
  have tp6 : tp ≤ 600 := ok.2.2.2.1
  have im3 : im ≤ 3 := ok.2.2.2.2.1
  have pn3 : pn ≤ 30 := ok.2.1.2.2.2.1
  have rn6 : rn ≤ 60 := ok.2.1.2.2.2.2.2.1
  have Rc : fRc σ (S, T, sd, pn, P, rn, R) := Ir.2.2.2.2.1
  have w52 := hW.1
  rcases (show w = 0 ∨ w = 1 ∨ w = 2 ∨ w = 3 ∨ w = 4 ∨ w = 5 ∨ w = 6 ∨ w = 7 by omega) with rfl | rfl | rfl | rfl | rfl | rfl | rfl | rfl
  · show fEv g (d + 1) mX10_told 5 [some (.ref 89), some (.int (nI 0))] [] σ Q
    refine e_aload_n dX10_told_5 rfl rfl ?_
    refine e_iload_n dX10_told_6 rfl rfl ?_
    refine e_iconst (nI 0) dX10_told_7 (by decide) ?_
    refine e_bipush (nI 7) dX10_told_8 (by decide) ?_
    refine e_callS [.int (nI 0), .int (nI 0), .int (nI 7)] dX10_told_10 cc_X10_in lk_RX10_110 st_X10_in in_RX10 rfl (Nat.le_of_ble_eq_true rfl) (Nat.le_of_ble_eq_true rfl) ?_
    refine t_X10_inT ⟨(nI_le' (by omega) (by omega)).mpr (by omega), (nI_le' (by omega) (by omega)).mpr (by omega)⟩ (fK_i ?_)
    show fEv g _ mX10_told 13 [some (.ref 89), some (.int (nI 0))] [.int (nI 1), .ref 89] σ Q
    refine e_if_ne 20 dX10_told_13 (by decide) (fun _ => ?_) (fun c => absurd c (by decide))
    refine e_iconst (nI 0) dX10_told_20 (by decide) ?_
    refine e_iconst (nI 1) dX10_told_21 (by decide) ?_
    refine e_callV (k := 89) [.int (nI 0), .int (nI 1)] dX10_told_22 cc_X10_bad lk_RX10_148 im_X10_bad se_X10_bad (by decide) (Ms.s 89 rfl) (Ms.n (by decide)) rfl (Nat.le_of_ble_eq_true rfl) (Nat.le_of_ble_eq_true rfl) ?_
    refine t_X10_bad0 Ms hz (by decide) (fK_i ?_)
    show fEv g _ mX10_told 25 [some (.ref 89), some (.int (nI 0))] [.int (nI 0)] σ Q
    refine e_if_eq 30 dX10_told_25 (by decide) (fun _ => ?_) (fun c => absurd c (by decide))
    refine e_iload_n dX10_told_30 rfl rfl ?_
    refine e_bipush (nI 6) dX10_told_31 (by decide) ?_
    refine e_icmp_ge 45 dX10_told_33 (by decide) (fun c => absurd c (by decide)) (fun _ => ?_)
    refine e_aload_n dX10_told_36 rfl rfl ?_
    refine e_getR (q := 92) dX10_told_37 fl_RX10_20 (Ms.s 89 rfl) (Ms.n (by decide)) rfl (Ms.r 89 10 rfl) (by unfold fscr; omega) ?_
    refine e_iload_n dX10_told_40 rfl rfl ?_
    refine e_iaload 0 dX10_told_41 (Ms.s 92 rfl) (Ms.n (by decide)) rfl (by omega) (by decide) ?_
    refine e_int (nI (dT D 0)) (Mr.t 0 (by omega)) ?_
    refine e_goto 69 dX10_told_42 (by decide) ?_
    exact e_ireturn .int dX10_told_69 rfl rfl (h σ fSm.rfl' Ir hz)
  · show fEv g (d + 1) mX10_told 5 [some (.ref 89), some (.int (nI 1))] [] σ Q
    refine e_aload_n dX10_told_5 rfl rfl ?_
    refine e_iload_n dX10_told_6 rfl rfl ?_
    refine e_iconst (nI 0) dX10_told_7 (by decide) ?_
    refine e_bipush (nI 7) dX10_told_8 (by decide) ?_
    refine e_callS [.int (nI 1), .int (nI 0), .int (nI 7)] dX10_told_10 cc_X10_in lk_RX10_110 st_X10_in in_RX10 rfl (Nat.le_of_ble_eq_true rfl) (Nat.le_of_ble_eq_true rfl) ?_
    refine t_X10_inT ⟨(nI_le' (by omega) (by omega)).mpr (by omega), (nI_le' (by omega) (by omega)).mpr (by omega)⟩ (fK_i ?_)
    show fEv g _ mX10_told 13 [some (.ref 89), some (.int (nI 1))] [.int (nI 1), .ref 89] σ Q
    refine e_if_ne 20 dX10_told_13 (by decide) (fun _ => ?_) (fun c => absurd c (by decide))
    refine e_iconst (nI 0) dX10_told_20 (by decide) ?_
    refine e_iconst (nI 1) dX10_told_21 (by decide) ?_
    refine e_callV (k := 89) [.int (nI 0), .int (nI 1)] dX10_told_22 cc_X10_bad lk_RX10_148 im_X10_bad se_X10_bad (by decide) (Ms.s 89 rfl) (Ms.n (by decide)) rfl (Nat.le_of_ble_eq_true rfl) (Nat.le_of_ble_eq_true rfl) ?_
    refine t_X10_bad0 Ms hz (by decide) (fK_i ?_)
    show fEv g _ mX10_told 25 [some (.ref 89), some (.int (nI 1))] [.int (nI 0)] σ Q
    refine e_if_eq 30 dX10_told_25 (by decide) (fun _ => ?_) (fun c => absurd c (by decide))
    refine e_iload_n dX10_told_30 rfl rfl ?_
    refine e_bipush (nI 6) dX10_told_31 (by decide) ?_
    refine e_icmp_ge 45 dX10_told_33 (by decide) (fun c => absurd c (by decide)) (fun _ => ?_)
    refine e_aload_n dX10_told_36 rfl rfl ?_
    refine e_getR (q := 92) dX10_told_37 fl_RX10_20 (Ms.s 89 rfl) (Ms.n (by decide)) rfl (Ms.r 89 10 rfl) (by unfold fscr; omega) ?_
    refine e_iload_n dX10_told_40 rfl rfl ?_
    refine e_iaload 1 dX10_told_41 (Ms.s 92 rfl) (Ms.n (by decide)) rfl (by omega) (by decide) ?_
    refine e_int (nI (dT D 1)) (Mr.t 1 (by omega)) ?_
    refine e_goto 69 dX10_told_42 (by decide) ?_
    exact e_ireturn .int dX10_told_69 rfl rfl (h σ fSm.rfl' Ir hz)
  · show fEv g (d + 1) mX10_told 5 [some (.ref 89), some (.int (nI 2))] [] σ Q
    refine e_aload_n dX10_told_5 rfl rfl ?_
    refine e_iload_n dX10_told_6 rfl rfl ?_
    refine e_iconst (nI 0) dX10_told_7 (by decide) ?_
    refine e_bipush (nI 7) dX10_told_8 (by decide) ?_
    refine e_callS [.int (nI 2), .int (nI 0), .int (nI 7)] dX10_told_10 cc_X10_in lk_RX10_110 st_X10_in in_RX10 rfl (Nat.le_of_ble_eq_true rfl) (Nat.le_of_ble_eq_true rfl) ?_
    refine t_X10_inT ⟨(nI_le' (by omega) (by omega)).mpr (by omega), (nI_le' (by omega) (by omega)).mpr (by omega)⟩ (fK_i ?_)
    show fEv g _ mX10_told 13 [some (.ref 89), some (.int (nI 2))] [.int (nI 1), .ref 89] σ Q
    refine e_if_ne 20 dX10_told_13 (by decide) (fun _ => ?_) (fun c => absurd c (by decide))
    refine e_iconst (nI 0) dX10_told_20 (by decide) ?_
    refine e_iconst (nI 1) dX10_told_21 (by decide) ?_
    refine e_callV (k := 89) [.int (nI 0), .int (nI 1)] dX10_told_22 cc_X10_bad lk_RX10_148 im_X10_bad se_X10_bad (by decide) (Ms.s 89 rfl) (Ms.n (by decide)) rfl (Nat.le_of_ble_eq_true rfl) (Nat.le_of_ble_eq_true rfl) ?_
    refine t_X10_bad0 Ms hz (by decide) (fK_i ?_)
    show fEv g _ mX10_told 25 [some (.ref 89), some (.int (nI 2))] [.int (nI 0)] σ Q
    refine e_if_eq 30 dX10_told_25 (by decide) (fun _ => ?_) (fun c => absurd c (by decide))
    refine e_iload_n dX10_told_30 rfl rfl ?_
    refine e_bipush (nI 6) dX10_told_31 (by decide) ?_
    refine e_icmp_ge 45 dX10_told_33 (by decide) (fun c => absurd c (by decide)) (fun _ => ?_)
    refine e_aload_n dX10_told_36 rfl rfl ?_
    refine e_getR (q := 92) dX10_told_37 fl_RX10_20 (Ms.s 89 rfl) (Ms.n (by decide)) rfl (Ms.r 89 10 rfl) (by unfold fscr; omega) ?_
    refine e_iload_n dX10_told_40 rfl rfl ?_
    refine e_iaload 2 dX10_told_41 (Ms.s 92 rfl) (Ms.n (by decide)) rfl (by omega) (by decide) ?_
    refine e_int (nI (dT D 2)) (Mr.t 2 (by omega)) ?_
    refine e_goto 69 dX10_told_42 (by decide) ?_
    exact e_ireturn .int dX10_told_69 rfl rfl (h σ fSm.rfl' Ir hz)
  · show fEv g (d + 1) mX10_told 5 [some (.ref 89), some (.int (nI 3))] [] σ Q
    refine e_aload_n dX10_told_5 rfl rfl ?_
    refine e_iload_n dX10_told_6 rfl rfl ?_
    refine e_iconst (nI 0) dX10_told_7 (by decide) ?_
    refine e_bipush (nI 7) dX10_told_8 (by decide) ?_
    refine e_callS [.int (nI 3), .int (nI 0), .int (nI 7)] dX10_told_10 cc_X10_in lk_RX10_110 st_X10_in in_RX10 rfl (Nat.le_of_ble_eq_true rfl) (Nat.le_of_ble_eq_true rfl) ?_
    refine t_X10_inT ⟨(nI_le' (by omega) (by omega)).mpr (by omega), (nI_le' (by omega) (by omega)).mpr (by omega)⟩ (fK_i ?_)
    show fEv g _ mX10_told 13 [some (.ref 89), some (.int (nI 3))] [.int (nI 1), .ref 89] σ Q
    refine e_if_ne 20 dX10_told_13 (by decide) (fun _ => ?_) (fun c => absurd c (by decide))
    refine e_iconst (nI 0) dX10_told_20 (by decide) ?_
    refine e_iconst (nI 1) dX10_told_21 (by decide) ?_
    refine e_callV (k := 89) [.int (nI 0), .int (nI 1)] dX10_told_22 cc_X10_bad lk_RX10_148 im_X10_bad se_X10_bad (by decide) (Ms.s 89 rfl) (Ms.n (by decide)) rfl (Nat.le_of_ble_eq_true rfl) (Nat.le_of_ble_eq_true rfl) ?_
    refine t_X10_bad0 Ms hz (by decide) (fK_i ?_)
    show fEv g _ mX10_told 25 [some (.ref 89), some (.int (nI 3))] [.int (nI 0)] σ Q
    refine e_if_eq 30 dX10_told_25 (by decide) (fun _ => ?_) (fun c => absurd c (by decide))
    refine e_iload_n dX10_told_30 rfl rfl ?_
    refine e_bipush (nI 6) dX10_told_31 (by decide) ?_
    refine e_icmp_ge 45 dX10_told_33 (by decide) (fun c => absurd c (by decide)) (fun _ => ?_)
    refine e_aload_n dX10_told_36 rfl rfl ?_
    refine e_getR (q := 92) dX10_told_37 fl_RX10_20 (Ms.s 89 rfl) (Ms.n (by decide)) rfl (Ms.r 89 10 rfl) (by unfold fscr; omega) ?_
    refine e_iload_n dX10_told_40 rfl rfl ?_
    refine e_iaload 3 dX10_told_41 (Ms.s 92 rfl) (Ms.n (by decide)) rfl (by omega) (by decide) ?_
    refine e_int (nI (dT D 3)) (Mr.t 3 (by omega)) ?_
    refine e_goto 69 dX10_told_42 (by decide) ?_
    exact e_ireturn .int dX10_told_69 rfl rfl (h σ fSm.rfl' Ir hz)
  · show fEv g (d + 1) mX10_told 5 [some (.ref 89), some (.int (nI 4))] [] σ Q
    refine e_aload_n dX10_told_5 rfl rfl ?_
    refine e_iload_n dX10_told_6 rfl rfl ?_
    refine e_iconst (nI 0) dX10_told_7 (by decide) ?_
    refine e_bipush (nI 7) dX10_told_8 (by decide) ?_
    refine e_callS [.int (nI 4), .int (nI 0), .int (nI 7)] dX10_told_10 cc_X10_in lk_RX10_110 st_X10_in in_RX10 rfl (Nat.le_of_ble_eq_true rfl) (Nat.le_of_ble_eq_true rfl) ?_
    refine t_X10_inT ⟨(nI_le' (by omega) (by omega)).mpr (by omega), (nI_le' (by omega) (by omega)).mpr (by omega)⟩ (fK_i ?_)
    show fEv g _ mX10_told 13 [some (.ref 89), some (.int (nI 4))] [.int (nI 1), .ref 89] σ Q
    refine e_if_ne 20 dX10_told_13 (by decide) (fun _ => ?_) (fun c => absurd c (by decide))
    refine e_iconst (nI 0) dX10_told_20 (by decide) ?_
    refine e_iconst (nI 1) dX10_told_21 (by decide) ?_
    refine e_callV (k := 89) [.int (nI 0), .int (nI 1)] dX10_told_22 cc_X10_bad lk_RX10_148 im_X10_bad se_X10_bad (by decide) (Ms.s 89 rfl) (Ms.n (by decide)) rfl (Nat.le_of_ble_eq_true rfl) (Nat.le_of_ble_eq_true rfl) ?_
    refine t_X10_bad0 Ms hz (by decide) (fK_i ?_)
    show fEv g _ mX10_told 25 [some (.ref 89), some (.int (nI 4))] [.int (nI 0)] σ Q
    refine e_if_eq 30 dX10_told_25 (by decide) (fun _ => ?_) (fun c => absurd c (by decide))
    refine e_iload_n dX10_told_30 rfl rfl ?_
    refine e_bipush (nI 6) dX10_told_31 (by decide) ?_
    refine e_icmp_ge 45 dX10_told_33 (by decide) (fun c => absurd c (by decide)) (fun _ => ?_)
    refine e_aload_n dX10_told_36 rfl rfl ?_
    refine e_getR (q := 92) dX10_told_37 fl_RX10_20 (Ms.s 89 rfl) (Ms.n (by decide)) rfl (Ms.r 89 10 rfl) (by unfold fscr; omega) ?_
    refine e_iload_n dX10_told_40 rfl rfl ?_
    refine e_iaload 4 dX10_told_41 (Ms.s 92 rfl) (Ms.n (by decide)) rfl (by omega) (by decide) ?_
    refine e_int (nI (dT D 4)) (Mr.t 4 (by omega)) ?_
    refine e_goto 69 dX10_told_42 (by decide) ?_
    exact e_ireturn .int dX10_told_69 rfl rfl (h σ fSm.rfl' Ir hz)
  · show fEv g (d + 1) mX10_told 5 [some (.ref 89), some (.int (nI 5))] [] σ Q
    refine e_aload_n dX10_told_5 rfl rfl ?_
    refine e_iload_n dX10_told_6 rfl rfl ?_
    refine e_iconst (nI 0) dX10_told_7 (by decide) ?_
    refine e_bipush (nI 7) dX10_told_8 (by decide) ?_
    refine e_callS [.int (nI 5), .int (nI 0), .int (nI 7)] dX10_told_10 cc_X10_in lk_RX10_110 st_X10_in in_RX10 rfl (Nat.le_of_ble_eq_true rfl) (Nat.le_of_ble_eq_true rfl) ?_
    refine t_X10_inT ⟨(nI_le' (by omega) (by omega)).mpr (by omega), (nI_le' (by omega) (by omega)).mpr (by omega)⟩ (fK_i ?_)
    show fEv g _ mX10_told 13 [some (.ref 89), some (.int (nI 5))] [.int (nI 1), .ref 89] σ Q
    refine e_if_ne 20 dX10_told_13 (by decide) (fun _ => ?_) (fun c => absurd c (by decide))
    refine e_iconst (nI 0) dX10_told_20 (by decide) ?_
    refine e_iconst (nI 1) dX10_told_21 (by decide) ?_
    refine e_callV (k := 89) [.int (nI 0), .int (nI 1)] dX10_told_22 cc_X10_bad lk_RX10_148 im_X10_bad se_X10_bad (by decide) (Ms.s 89 rfl) (Ms.n (by decide)) rfl (Nat.le_of_ble_eq_true rfl) (Nat.le_of_ble_eq_true rfl) ?_
    refine t_X10_bad0 Ms hz (by decide) (fK_i ?_)
    show fEv g _ mX10_told 25 [some (.ref 89), some (.int (nI 5))] [.int (nI 0)] σ Q
    refine e_if_eq 30 dX10_told_25 (by decide) (fun _ => ?_) (fun c => absurd c (by decide))
    refine e_iload_n dX10_told_30 rfl rfl ?_
    refine e_bipush (nI 6) dX10_told_31 (by decide) ?_
    refine e_icmp_ge 45 dX10_told_33 (by decide) (fun c => absurd c (by decide)) (fun _ => ?_)
    refine e_aload_n dX10_told_36 rfl rfl ?_
    refine e_getR (q := 92) dX10_told_37 fl_RX10_20 (Ms.s 89 rfl) (Ms.n (by decide)) rfl (Ms.r 89 10 rfl) (by unfold fscr; omega) ?_
    refine e_iload_n dX10_told_40 rfl rfl ?_
    refine e_iaload 5 dX10_told_41 (Ms.s 92 rfl) (Ms.n (by decide)) rfl (by omega) (by decide) ?_
    refine e_int (nI (dT D 5)) (Mr.t 5 (by omega)) ?_
    refine e_goto 69 dX10_told_42 (by decide) ?_
    exact e_ireturn .int dX10_told_69 rfl rfl (h σ fSm.rfl' Ir hz)
  · show fEv g (d + 1) mX10_told 5 [some (.ref 89), some (.int (nI 6))] [] σ Q
    refine e_aload_n dX10_told_5 rfl rfl ?_
    refine e_iload_n dX10_told_6 rfl rfl ?_
    refine e_iconst (nI 0) dX10_told_7 (by decide) ?_
    refine e_bipush (nI 7) dX10_told_8 (by decide) ?_
    refine e_callS [.int (nI 6), .int (nI 0), .int (nI 7)] dX10_told_10 cc_X10_in lk_RX10_110 st_X10_in in_RX10 rfl (Nat.le_of_ble_eq_true rfl) (Nat.le_of_ble_eq_true rfl) ?_
    refine t_X10_inT ⟨(nI_le' (by omega) (by omega)).mpr (by omega), (nI_le' (by omega) (by omega)).mpr (by omega)⟩ (fK_i ?_)
    show fEv g _ mX10_told 13 [some (.ref 89), some (.int (nI 6))] [.int (nI 1), .ref 89] σ Q
    refine e_if_ne 20 dX10_told_13 (by decide) (fun _ => ?_) (fun c => absurd c (by decide))
    refine e_iconst (nI 0) dX10_told_20 (by decide) ?_
    refine e_iconst (nI 1) dX10_told_21 (by decide) ?_
    refine e_callV (k := 89) [.int (nI 0), .int (nI 1)] dX10_told_22 cc_X10_bad lk_RX10_148 im_X10_bad se_X10_bad (by decide) (Ms.s 89 rfl) (Ms.n (by decide)) rfl (Nat.le_of_ble_eq_true rfl) (Nat.le_of_ble_eq_true rfl) ?_
    refine t_X10_bad0 Ms hz (by decide) (fK_i ?_)
    show fEv g _ mX10_told 25 [some (.ref 89), some (.int (nI 6))] [.int (nI 0)] σ Q
    refine e_if_eq 30 dX10_told_25 (by decide) (fun _ => ?_) (fun c => absurd c (by decide))
    refine e_iload_n dX10_told_30 rfl rfl ?_
    refine e_bipush (nI 6) dX10_told_31 (by decide) ?_
    refine e_icmp_ge 45 dX10_told_33 (by decide) (fun _ => ?_) (fun c => absurd c (by decide))
    refine e_iload_n dX10_told_45 rfl rfl ?_
    refine e_bipush (nI 6) dX10_told_46 (by decide) ?_
    refine e_icmp_ne 62 dX10_told_48 (by decide) (fun c => absurd c (by decide)) (fun _ => ?_)
    refine e_aload_n dX10_told_51 rfl rfl ?_
    refine e_getR (q := 197) dX10_told_52 fl_RX10_49 (Ms.s 89 rfl) (Ms.n (by decide)) rfl (Ms.r 89 19 rfl) (by unfold fscr; omega) ?_
    refine e_sipush (nI 155) dX10_told_55 (by decide) ?_
    refine e_iaload 155 dX10_told_58 (Ms.s 197 rfl) (Ms.n (by decide)) rfl (by omega) (by decide) ?_
    refine e_int (nI (S 155)) (Mr.s 155 (by omega)) ?_
    refine e_goto 69 dX10_told_59 (by decide) ?_
    exact e_ireturn .int dX10_told_69 rfl rfl (h σ fSm.rfl' Ir hz)
  · show fEv g (d + 1) mX10_told 5 [some (.ref 89), some (.int (nI 7))] [] σ Q
    refine e_aload_n dX10_told_5 rfl rfl ?_
    refine e_iload_n dX10_told_6 rfl rfl ?_
    refine e_iconst (nI 0) dX10_told_7 (by decide) ?_
    refine e_bipush (nI 7) dX10_told_8 (by decide) ?_
    refine e_callS [.int (nI 7), .int (nI 0), .int (nI 7)] dX10_told_10 cc_X10_in lk_RX10_110 st_X10_in in_RX10 rfl (Nat.le_of_ble_eq_true rfl) (Nat.le_of_ble_eq_true rfl) ?_
    refine t_X10_inT ⟨(nI_le' (by omega) (by omega)).mpr (by omega), (nI_le' (by omega) (by omega)).mpr (by omega)⟩ (fK_i ?_)
    show fEv g _ mX10_told 13 [some (.ref 89), some (.int (nI 7))] [.int (nI 1), .ref 89] σ Q
    refine e_if_ne 20 dX10_told_13 (by decide) (fun _ => ?_) (fun c => absurd c (by decide))
    refine e_iconst (nI 0) dX10_told_20 (by decide) ?_
    refine e_iconst (nI 1) dX10_told_21 (by decide) ?_
    refine e_callV (k := 89) [.int (nI 0), .int (nI 1)] dX10_told_22 cc_X10_bad lk_RX10_148 im_X10_bad se_X10_bad (by decide) (Ms.s 89 rfl) (Ms.n (by decide)) rfl (Nat.le_of_ble_eq_true rfl) (Nat.le_of_ble_eq_true rfl) ?_
    refine t_X10_bad0 Ms hz (by decide) (fK_i ?_)
    show fEv g _ mX10_told 25 [some (.ref 89), some (.int (nI 7))] [.int (nI 0)] σ Q
    refine e_if_eq 30 dX10_told_25 (by decide) (fun _ => ?_) (fun c => absurd c (by decide))
    refine e_iload_n dX10_told_30 rfl rfl ?_
    refine e_bipush (nI 6) dX10_told_31 (by decide) ?_
    refine e_icmp_ge 45 dX10_told_33 (by decide) (fun _ => ?_) (fun c => absurd c (by decide))
    refine e_iload_n dX10_told_45 rfl rfl ?_
    refine e_bipush (nI 6) dX10_told_46 (by decide) ?_
    refine e_icmp_ne 62 dX10_told_48 (by decide) (fun _ => ?_) (fun c => absurd c (by decide))
    refine e_aload_n dX10_told_62 rfl rfl ?_
    refine e_getR (q := 197) dX10_told_63 fl_RX10_49 (Ms.s 89 rfl) (Ms.n (by decide)) rfl (Ms.r 89 19 rfl) (by unfold fscr; omega) ?_
    refine e_bipush (nI 120) dX10_told_66 (by decide) ?_
    refine e_iaload 120 dX10_told_68 (Ms.s 197 rfl) (Ms.n (by decide)) rfl (by omega) (by decide) ?_
    refine e_int (nI (S 120)) (Mr.s 120 (by omega)) ?_
    exact e_ireturn .int dX10_told_69 rfl rfl (h σ fSm.rfl' Ir hz)
set_option maxRecDepth 20000 in
theorem t_X10_told {g : fGP} {d : Nat} {σ : fAH} {Q : fRes → fAH → Prop} {x : fXS} {w : Nat}  (Ms : fMs g σ) (ok : fOK x) (Ir : fIr σ x) (hw : w < 8) (h : ∀ σ', fSm fRfA σ σ' → fIr σ' x → fI σ' 89 0 = nI 0 → Q (.inl (some (.int (vTold (xD x) (iS (xI x)) w)))) σ') : fEv g (d + 1) mX10_told 0 (fent [.ref 89, .int (nI w)] 2) [] σ Q := by
  have S9 : fSm (fun a => a = 89) σ (fsI σ 89 0 (nI 0)) := fSm_I rfl
  show fEv g (d + 1) mX10_told 0 [some (.ref 89), some (.int (nI w))] [] σ Q
  refine e_aload_n dX10_told_0 rfl rfl ?_
  refine e_iconst (nI 0) dX10_told_1 (by decide) ?_
  refine e_putI dX10_told_2 fl_RX10_76 (Ms.s 89 rfl) (Ms.n (by decide)) rfl rfl ?_
  exact lp_X10_told (Ms.sm S9) ok (Ir.f0 ok S9 (fun a (q : a = 89) => Or.inl (by omega)) (fun j hj => by simp only [List.mem_cons, List.not_mem_nil, or_false] at hj; rw [fI_I, if_neg (by omega)])) (by rw [fI_I, if_pos ⟨rfl, rfl⟩]) hw (fun σ' Sm' => h σ' ((S9.to (fun a (q : a = 89) => by unfold fRfA; omega)).tr Sm'))
set_option maxRecDepth 20000 in
theorem lp_X10_toldE {g : fGP} {d : Nat} {σ : fAH} {Q : fRes → fAH → Prop} {x : fXS} {a : Int32}  (Ms : fMs g σ) (ok : fOK x) (Ir : fIr σ x) (hz : fI σ 89 0 = nI 0) (hv : ¬ (nI 0 ≤ a ∧ a ≤ nI 7)) (h : ∀ σ', fSm fRfA σ σ' → fIr σ' x → fI σ' 89 0 = nI 1 → Q (.inl (some (.int (nI 0)))) σ') : fEv g (d + 1) mX10_told 5 [some (.ref 89), some (.int a)] [] σ Q := by
  obtain ⟨D, ⟨S, T, sd, pn, P, rn, R⟩, B, tp, pl, im, Im⟩ := x
  have hD : fWD D := ok.1
  have hW : fWS D S := ok.2.1.1
  have hC : fWC D S := ok.2.1.2.1
  have hN : fWN S 0 0 := ok.2.1.2.2.1
  have Mr : fMr σ D S sd := Ir.1
  have Mt : fMt σ S T := Ir.2.1
  obtain ⟨t0, t1, t2, t3, t4, t5, t6⟩ := id hD.1
  have np := hW.n hD
  have n5 := hW.2.2.2.2
  have tp6 : tp ≤ 600 := ok.2.2.2.1
  have im3 : im ≤ 3 := ok.2.2.2.2.1
  have pn3 : pn ≤ 30 := ok.2.1.2.2.2.1
  have rn6 : rn ≤ 60 := ok.2.1.2.2.2.2.2.1
  have Rc : fRc σ (S, T, sd, pn, P, rn, R) := Ir.2.2.2.2.1
  have w52 := hW.1
  show fEv g (d + 1) mX10_told 5 [some (.ref 89), some (.int a)] [] σ Q
  refine e_aload_n dX10_told_5 rfl rfl ?_
  refine e_iload_n dX10_told_6 rfl rfl ?_
  refine e_iconst (nI 0) dX10_told_7 (by decide) ?_
  refine e_bipush (nI 7) dX10_told_8 (by decide) ?_
  refine e_callS [.int a, .int (nI 0), .int (nI 7)] dX10_told_10 cc_X10_in lk_RX10_110 st_X10_in in_RX10 rfl (Nat.le_of_ble_eq_true rfl) (Nat.le_of_ble_eq_true rfl) ?_
  refine t_X10_inF hv (fK_i ?_)
  show fEv g _ mX10_told 13 [some (.ref 89), some (.int a)] [.int (nI 0), .ref 89] σ Q
  refine e_if_ne 20 dX10_told_13 (by decide) (fun c => absurd c (by decide)) (fun _ => ?_)
  refine e_iconst (nI 1) dX10_told_16 (by decide) ?_
  refine e_goto 21 dX10_told_17 (by decide) ?_
  refine e_iconst (nI 1) dX10_told_21 (by decide) ?_
  refine e_callV (k := 89) [.int (nI 1), .int (nI 1)] dX10_told_22 cc_X10_bad lk_RX10_148 im_X10_bad se_X10_bad (by decide) (Ms.s 89 rfl) (Ms.n (by decide)) rfl (Nat.le_of_ble_eq_true rfl) (Nat.le_of_ble_eq_true rfl) ?_
  refine t_X10_bad1 Ms hz (by decide) (fK_i ?_)
  show fEv g _ mX10_told 25 [some (.ref 89), some (.int a)] [.int (nI 1)] (fsI σ 89 0 (nI 1)) Q
  refine e_if_eq 30 dX10_told_25 (by decide) (fun c => absurd c (by decide)) (fun _ => ?_)
  refine e_iconst (nI 0) dX10_told_28 (by decide) ?_
  exact e_ireturn .int dX10_told_29 rfl rfl (h _ (fSm_I (by unfold fRfA; omega)) (Ir.f0 ok (A := fun a => a = 89) (fSm_I rfl) (fun a (q : a = 89) => Or.inl (by omega)) (fun j hj => by simp only [List.mem_cons, List.not_mem_nil, or_false] at hj; rw [fI_I, if_neg (by omega)])) (by rw [fI_I, if_pos ⟨rfl, rfl⟩]))
set_option maxRecDepth 20000 in
theorem t_X10_toldE {g : fGP} {d : Nat} {σ : fAH} {Q : fRes → fAH → Prop} {x : fXS} {a : Int32}  (Ms : fMs g σ) (ok : fOK x) (Ir : fIr σ x) (hv : ¬ (nI 0 ≤ a ∧ a ≤ nI 7)) (h : ∀ σ', fSm fRfA σ σ' → fIr σ' x → fI σ' 89 0 = nI 1 → Q (.inl (some (.int (nI 0)))) σ') : fEv g (d + 1) mX10_told 0 (fent [.ref 89, .int a] 2) [] σ Q := by
  have S9 : fSm (fun a => a = 89) σ (fsI σ 89 0 (nI 0)) := fSm_I rfl
  show fEv g (d + 1) mX10_told 0 [some (.ref 89), some (.int a)] [] σ Q
  refine e_aload_n dX10_told_0 rfl rfl ?_
  refine e_iconst (nI 0) dX10_told_1 (by decide) ?_
  refine e_putI dX10_told_2 fl_RX10_76 (Ms.s 89 rfl) (Ms.n (by decide)) rfl rfl ?_
  exact lp_X10_toldE (Ms.sm S9) ok (Ir.f0 ok S9 (fun a (q : a = 89) => Or.inl (by omega)) (fun j hj => by simp only [List.mem_cons, List.not_mem_nil, or_false] at hj; rw [fI_I, if_neg (by omega)])) (by rw [fI_I, if_pos ⟨rfl, rfl⟩]) hv (fun σ' Sm' => h σ' ((S9.to (fun a (q : a = 89) => by unfold fRfA; omega)).tr Sm'))
set_option maxRecDepth 20000 in
theorem lp_X10_slot {g : fGP} {d : Nat} {σ : fAH} {Q : fRes → fAH → Prop} {x : fXS} {k w : Nat}  (Ms : fMs g σ) (ok : fOK x) (Ir : fIr σ x) (hz : fI σ 89 0 = nI 0) (hk : k < dT (xD x) 1) (hw : w < 8) (h : ∀ σ', fSm fRfA σ σ' → fIr σ' x → fI σ' 89 0 = nI 0 → Q (.inl (some (.int (vSlot (xD x) (iS (xI x)) k w)))) σ') : fEv g (d + 4) mX10_slot 5 [some (.ref 89), some (.int (nI k)), some (.int (nI w))] [] σ Q := by
  obtain ⟨D, ⟨S, T, sd, pn, P, rn, R⟩, B, tp, pl, im, Im⟩ := x
  have hD : fWD D := ok.1
  have hW : fWS D S := ok.2.1.1
  have hC : fWC D S := ok.2.1.2.1
  have hN : fWN S 0 0 := ok.2.1.2.2.1
  have Mr : fMr σ D S sd := Ir.1
  have Mt : fMt σ S T := Ir.2.1
  obtain ⟨t0, t1, t2, t3, t4, t5, t6⟩ := id hD.1
  have np := hW.n hD
  have n5 := hW.2.2.2.2
  have tp6 : tp ≤ 600 := ok.2.2.2.1
  have im3 : im ≤ 3 := ok.2.2.2.2.1
  have pn3 : pn ≤ 30 := ok.2.1.2.2.2.1
  have rn6 : rn ≤ 60 := ok.2.1.2.2.2.2.2.1
  have Rc : fRc σ (S, T, sd, pn, P, rn, R) := Ir.2.2.2.2.1
  have w52 := hW.1
  have hk : k < dT D 1 := hk
  rcases (show w = 0 ∨ w = 1 ∨ w = 2 ∨ w = 3 ∨ w = 4 ∨ w = 5 ∨ w = 6 ∨ w = 7 by omega) with rfl | rfl | rfl | rfl | rfl | rfl | rfl | rfl
  · show fEv g (d + 4) mX10_slot 5 [some (.ref 89), some (.int (nI k)), some (.int (nI 0))] [] σ Q
    refine e_aload_n dX10_slot_5 rfl rfl ?_
    refine e_aload_n dX10_slot_6 rfl rfl ?_
    refine e_iload_n dX10_slot_7 rfl rfl ?_
    refine e_callV (k := 89) [.int (nI k)] dX10_slot_8 cc_X10_isSlot lk_RX10_177 im_X10_isSlot se_X10_isSlot (by decide) (Ms.s 89 rfl) (Ms.n (by decide)) rfl (Nat.le_of_ble_eq_true rfl) (Nat.le_of_ble_eq_true rfl) ?_
    refine t_X10_isSlotT Ms Mr hD hk (fK_i ?_)
    show fEv g _ mX10_slot 11 [some (.ref 89), some (.int (nI k)), some (.int (nI 0))] [.int (nI 1), .ref 89] σ Q
    refine e_if_ne 18 dX10_slot_11 (by decide) (fun _ => ?_) (fun c => absurd c (by decide))
    refine e_iconst (nI 0) dX10_slot_18 (by decide) ?_
    refine e_iconst (nI 1) dX10_slot_19 (by decide) ?_
    refine e_callV (k := 89) [.int (nI 0), .int (nI 1)] dX10_slot_20 cc_X10_bad lk_RX10_148 im_X10_bad se_X10_bad (by decide) (Ms.s 89 rfl) (Ms.n (by decide)) rfl (Nat.le_of_ble_eq_true rfl) (Nat.le_of_ble_eq_true rfl) ?_
    refine t_X10_bad0 Ms hz (by decide) (fK_i ?_)
    show fEv g _ mX10_slot 23 [some (.ref 89), some (.int (nI k)), some (.int (nI 0))] [.int (nI 0)] σ Q
    refine e_if_ne 49 dX10_slot_23 (by decide) (fun c => absurd c (by decide)) (fun _ => ?_)
    refine e_aload_n dX10_slot_26 rfl rfl ?_
    refine e_iload_n dX10_slot_27 rfl rfl ?_
    refine e_iconst (nI 0) dX10_slot_28 (by decide) ?_
    refine e_bipush (nI 7) dX10_slot_29 (by decide) ?_
    refine e_callS [.int (nI 0), .int (nI 0), .int (nI 7)] dX10_slot_31 cc_X10_in lk_RX10_110 st_X10_in in_RX10 rfl (Nat.le_of_ble_eq_true rfl) (Nat.le_of_ble_eq_true rfl) ?_
    refine t_X10_inT ⟨(nI_le' (by omega) (by omega)).mpr (by omega), (nI_le' (by omega) (by omega)).mpr (by omega)⟩ (fK_i ?_)
    show fEv g _ mX10_slot 34 [some (.ref 89), some (.int (nI k)), some (.int (nI 0))] [.int (nI 1), .ref 89] σ Q
    refine e_if_ne 41 dX10_slot_34 (by decide) (fun _ => ?_) (fun c => absurd c (by decide))
    refine e_iconst (nI 0) dX10_slot_41 (by decide) ?_
    refine e_iconst (nI 2) dX10_slot_42 (by decide) ?_
    refine e_callV (k := 89) [.int (nI 0), .int (nI 2)] dX10_slot_43 cc_X10_bad lk_RX10_148 im_X10_bad se_X10_bad (by decide) (Ms.s 89 rfl) (Ms.n (by decide)) rfl (Nat.le_of_ble_eq_true rfl) (Nat.le_of_ble_eq_true rfl) ?_
    refine t_X10_bad0 Ms hz (by decide) (fK_i ?_)
    show fEv g _ mX10_slot 46 [some (.ref 89), some (.int (nI k)), some (.int (nI 0))] [.int (nI 0)] σ Q
    refine e_if_eq 51 dX10_slot_46 (by decide) (fun _ => ?_) (fun c => absurd c (by decide))
    refine e_iload_n dX10_slot_51 rfl rfl ?_
    refine e_iconst (nI 4) dX10_slot_52 (by decide) ?_
    refine e_icmp_ge 65 dX10_slot_53 (by decide) (fun c => absurd c (by decide)) (fun _ => ?_)
    refine e_aload_n dX10_slot_56 rfl rfl ?_
    refine e_getR (q := 120) dX10_slot_57 fl_RX10_34 (Ms.s 89 rfl) (Ms.n (by decide)) rfl (Ms.r 89 14 rfl) (by unfold fscr; omega) ?_
    refine e_iload_n dX10_slot_60 rfl rfl ?_
    refine e_aaload (q := 121 + k) k dX10_slot_61 (Ms.s 120 rfl) (by decide) (Ms.n (by decide)) rfl (by omega) (by decide) (Ms.r 120 _ (frf_slot _ (by omega))) (by unfold fscr; omega) ?_
    refine e_iload_n dX10_slot_62 rfl rfl ?_
    refine e_iaload 0 dX10_slot_63 (Ms.s _ (fsh_slot _ (by omega))) (Ms.n (by omega)) rfl (by omega) (by decide) ?_
    refine e_int (nI (dS D k 0)) (Mr.slot k (by omega) 0 (by omega)) ?_
    exact e_ireturn .int dX10_slot_64 rfl rfl (h σ fSm.rfl' Ir hz)
  · show fEv g (d + 4) mX10_slot 5 [some (.ref 89), some (.int (nI k)), some (.int (nI 1))] [] σ Q
    refine e_aload_n dX10_slot_5 rfl rfl ?_
    refine e_aload_n dX10_slot_6 rfl rfl ?_
    refine e_iload_n dX10_slot_7 rfl rfl ?_
    refine e_callV (k := 89) [.int (nI k)] dX10_slot_8 cc_X10_isSlot lk_RX10_177 im_X10_isSlot se_X10_isSlot (by decide) (Ms.s 89 rfl) (Ms.n (by decide)) rfl (Nat.le_of_ble_eq_true rfl) (Nat.le_of_ble_eq_true rfl) ?_
    refine t_X10_isSlotT Ms Mr hD hk (fK_i ?_)
    show fEv g _ mX10_slot 11 [some (.ref 89), some (.int (nI k)), some (.int (nI 1))] [.int (nI 1), .ref 89] σ Q
    refine e_if_ne 18 dX10_slot_11 (by decide) (fun _ => ?_) (fun c => absurd c (by decide))
    refine e_iconst (nI 0) dX10_slot_18 (by decide) ?_
    refine e_iconst (nI 1) dX10_slot_19 (by decide) ?_
    refine e_callV (k := 89) [.int (nI 0), .int (nI 1)] dX10_slot_20 cc_X10_bad lk_RX10_148 im_X10_bad se_X10_bad (by decide) (Ms.s 89 rfl) (Ms.n (by decide)) rfl (Nat.le_of_ble_eq_true rfl) (Nat.le_of_ble_eq_true rfl) ?_
    refine t_X10_bad0 Ms hz (by decide) (fK_i ?_)
    show fEv g _ mX10_slot 23 [some (.ref 89), some (.int (nI k)), some (.int (nI 1))] [.int (nI 0)] σ Q
    refine e_if_ne 49 dX10_slot_23 (by decide) (fun c => absurd c (by decide)) (fun _ => ?_)
    refine e_aload_n dX10_slot_26 rfl rfl ?_
    refine e_iload_n dX10_slot_27 rfl rfl ?_
    refine e_iconst (nI 0) dX10_slot_28 (by decide) ?_
    refine e_bipush (nI 7) dX10_slot_29 (by decide) ?_
    refine e_callS [.int (nI 1), .int (nI 0), .int (nI 7)] dX10_slot_31 cc_X10_in lk_RX10_110 st_X10_in in_RX10 rfl (Nat.le_of_ble_eq_true rfl) (Nat.le_of_ble_eq_true rfl) ?_
    refine t_X10_inT ⟨(nI_le' (by omega) (by omega)).mpr (by omega), (nI_le' (by omega) (by omega)).mpr (by omega)⟩ (fK_i ?_)
    show fEv g _ mX10_slot 34 [some (.ref 89), some (.int (nI k)), some (.int (nI 1))] [.int (nI 1), .ref 89] σ Q
    refine e_if_ne 41 dX10_slot_34 (by decide) (fun _ => ?_) (fun c => absurd c (by decide))
    refine e_iconst (nI 0) dX10_slot_41 (by decide) ?_
    refine e_iconst (nI 2) dX10_slot_42 (by decide) ?_
    refine e_callV (k := 89) [.int (nI 0), .int (nI 2)] dX10_slot_43 cc_X10_bad lk_RX10_148 im_X10_bad se_X10_bad (by decide) (Ms.s 89 rfl) (Ms.n (by decide)) rfl (Nat.le_of_ble_eq_true rfl) (Nat.le_of_ble_eq_true rfl) ?_
    refine t_X10_bad0 Ms hz (by decide) (fK_i ?_)
    show fEv g _ mX10_slot 46 [some (.ref 89), some (.int (nI k)), some (.int (nI 1))] [.int (nI 0)] σ Q
    refine e_if_eq 51 dX10_slot_46 (by decide) (fun _ => ?_) (fun c => absurd c (by decide))
    refine e_iload_n dX10_slot_51 rfl rfl ?_
    refine e_iconst (nI 4) dX10_slot_52 (by decide) ?_
    refine e_icmp_ge 65 dX10_slot_53 (by decide) (fun c => absurd c (by decide)) (fun _ => ?_)
    refine e_aload_n dX10_slot_56 rfl rfl ?_
    refine e_getR (q := 120) dX10_slot_57 fl_RX10_34 (Ms.s 89 rfl) (Ms.n (by decide)) rfl (Ms.r 89 14 rfl) (by unfold fscr; omega) ?_
    refine e_iload_n dX10_slot_60 rfl rfl ?_
    refine e_aaload (q := 121 + k) k dX10_slot_61 (Ms.s 120 rfl) (by decide) (Ms.n (by decide)) rfl (by omega) (by decide) (Ms.r 120 _ (frf_slot _ (by omega))) (by unfold fscr; omega) ?_
    refine e_iload_n dX10_slot_62 rfl rfl ?_
    refine e_iaload 1 dX10_slot_63 (Ms.s _ (fsh_slot _ (by omega))) (Ms.n (by omega)) rfl (by omega) (by decide) ?_
    refine e_int (nI (dS D k 1)) (Mr.slot k (by omega) 1 (by omega)) ?_
    exact e_ireturn .int dX10_slot_64 rfl rfl (h σ fSm.rfl' Ir hz)
  · show fEv g (d + 4) mX10_slot 5 [some (.ref 89), some (.int (nI k)), some (.int (nI 2))] [] σ Q
    refine e_aload_n dX10_slot_5 rfl rfl ?_
    refine e_aload_n dX10_slot_6 rfl rfl ?_
    refine e_iload_n dX10_slot_7 rfl rfl ?_
    refine e_callV (k := 89) [.int (nI k)] dX10_slot_8 cc_X10_isSlot lk_RX10_177 im_X10_isSlot se_X10_isSlot (by decide) (Ms.s 89 rfl) (Ms.n (by decide)) rfl (Nat.le_of_ble_eq_true rfl) (Nat.le_of_ble_eq_true rfl) ?_
    refine t_X10_isSlotT Ms Mr hD hk (fK_i ?_)
    show fEv g _ mX10_slot 11 [some (.ref 89), some (.int (nI k)), some (.int (nI 2))] [.int (nI 1), .ref 89] σ Q
    refine e_if_ne 18 dX10_slot_11 (by decide) (fun _ => ?_) (fun c => absurd c (by decide))
    refine e_iconst (nI 0) dX10_slot_18 (by decide) ?_
    refine e_iconst (nI 1) dX10_slot_19 (by decide) ?_
    refine e_callV (k := 89) [.int (nI 0), .int (nI 1)] dX10_slot_20 cc_X10_bad lk_RX10_148 im_X10_bad se_X10_bad (by decide) (Ms.s 89 rfl) (Ms.n (by decide)) rfl (Nat.le_of_ble_eq_true rfl) (Nat.le_of_ble_eq_true rfl) ?_
    refine t_X10_bad0 Ms hz (by decide) (fK_i ?_)
    show fEv g _ mX10_slot 23 [some (.ref 89), some (.int (nI k)), some (.int (nI 2))] [.int (nI 0)] σ Q
    refine e_if_ne 49 dX10_slot_23 (by decide) (fun c => absurd c (by decide)) (fun _ => ?_)
    refine e_aload_n dX10_slot_26 rfl rfl ?_
    refine e_iload_n dX10_slot_27 rfl rfl ?_
    refine e_iconst (nI 0) dX10_slot_28 (by decide) ?_
    refine e_bipush (nI 7) dX10_slot_29 (by decide) ?_
    refine e_callS [.int (nI 2), .int (nI 0), .int (nI 7)] dX10_slot_31 cc_X10_in lk_RX10_110 st_X10_in in_RX10 rfl (Nat.le_of_ble_eq_true rfl) (Nat.le_of_ble_eq_true rfl) ?_
    refine t_X10_inT ⟨(nI_le' (by omega) (by omega)).mpr (by omega), (nI_le' (by omega) (by omega)).mpr (by omega)⟩ (fK_i ?_)
    show fEv g _ mX10_slot 34 [some (.ref 89), some (.int (nI k)), some (.int (nI 2))] [.int (nI 1), .ref 89] σ Q
    refine e_if_ne 41 dX10_slot_34 (by decide) (fun _ => ?_) (fun c => absurd c (by decide))
    refine e_iconst (nI 0) dX10_slot_41 (by decide) ?_
    refine e_iconst (nI 2) dX10_slot_42 (by decide) ?_
    refine e_callV (k := 89) [.int (nI 0), .int (nI 2)] dX10_slot_43 cc_X10_bad lk_RX10_148 im_X10_bad se_X10_bad (by decide) (Ms.s 89 rfl) (Ms.n (by decide)) rfl (Nat.le_of_ble_eq_true rfl) (Nat.le_of_ble_eq_true rfl) ?_
    refine t_X10_bad0 Ms hz (by decide) (fK_i ?_)
    show fEv g _ mX10_slot 46 [some (.ref 89), some (.int (nI k)), some (.int (nI 2))] [.int (nI 0)] σ Q
    refine e_if_eq 51 dX10_slot_46 (by decide) (fun _ => ?_) (fun c => absurd c (by decide))
    refine e_iload_n dX10_slot_51 rfl rfl ?_
    refine e_iconst (nI 4) dX10_slot_52 (by decide) ?_
    refine e_icmp_ge 65 dX10_slot_53 (by decide) (fun c => absurd c (by decide)) (fun _ => ?_)
    refine e_aload_n dX10_slot_56 rfl rfl ?_
    refine e_getR (q := 120) dX10_slot_57 fl_RX10_34 (Ms.s 89 rfl) (Ms.n (by decide)) rfl (Ms.r 89 14 rfl) (by unfold fscr; omega) ?_
    refine e_iload_n dX10_slot_60 rfl rfl ?_
    refine e_aaload (q := 121 + k) k dX10_slot_61 (Ms.s 120 rfl) (by decide) (Ms.n (by decide)) rfl (by omega) (by decide) (Ms.r 120 _ (frf_slot _ (by omega))) (by unfold fscr; omega) ?_
    refine e_iload_n dX10_slot_62 rfl rfl ?_
    refine e_iaload 2 dX10_slot_63 (Ms.s _ (fsh_slot _ (by omega))) (Ms.n (by omega)) rfl (by omega) (by decide) ?_
    refine e_int (nI (dS D k 2)) (Mr.slot k (by omega) 2 (by omega)) ?_
    exact e_ireturn .int dX10_slot_64 rfl rfl (h σ fSm.rfl' Ir hz)
  · show fEv g (d + 4) mX10_slot 5 [some (.ref 89), some (.int (nI k)), some (.int (nI 3))] [] σ Q
    refine e_aload_n dX10_slot_5 rfl rfl ?_
    refine e_aload_n dX10_slot_6 rfl rfl ?_
    refine e_iload_n dX10_slot_7 rfl rfl ?_
    refine e_callV (k := 89) [.int (nI k)] dX10_slot_8 cc_X10_isSlot lk_RX10_177 im_X10_isSlot se_X10_isSlot (by decide) (Ms.s 89 rfl) (Ms.n (by decide)) rfl (Nat.le_of_ble_eq_true rfl) (Nat.le_of_ble_eq_true rfl) ?_
    refine t_X10_isSlotT Ms Mr hD hk (fK_i ?_)
    show fEv g _ mX10_slot 11 [some (.ref 89), some (.int (nI k)), some (.int (nI 3))] [.int (nI 1), .ref 89] σ Q
    refine e_if_ne 18 dX10_slot_11 (by decide) (fun _ => ?_) (fun c => absurd c (by decide))
    refine e_iconst (nI 0) dX10_slot_18 (by decide) ?_
    refine e_iconst (nI 1) dX10_slot_19 (by decide) ?_
    refine e_callV (k := 89) [.int (nI 0), .int (nI 1)] dX10_slot_20 cc_X10_bad lk_RX10_148 im_X10_bad se_X10_bad (by decide) (Ms.s 89 rfl) (Ms.n (by decide)) rfl (Nat.le_of_ble_eq_true rfl) (Nat.le_of_ble_eq_true rfl) ?_
    refine t_X10_bad0 Ms hz (by decide) (fK_i ?_)
    show fEv g _ mX10_slot 23 [some (.ref 89), some (.int (nI k)), some (.int (nI 3))] [.int (nI 0)] σ Q
    refine e_if_ne 49 dX10_slot_23 (by decide) (fun c => absurd c (by decide)) (fun _ => ?_)
    refine e_aload_n dX10_slot_26 rfl rfl ?_
    refine e_iload_n dX10_slot_27 rfl rfl ?_
    refine e_iconst (nI 0) dX10_slot_28 (by decide) ?_
    refine e_bipush (nI 7) dX10_slot_29 (by decide) ?_
    refine e_callS [.int (nI 3), .int (nI 0), .int (nI 7)] dX10_slot_31 cc_X10_in lk_RX10_110 st_X10_in in_RX10 rfl (Nat.le_of_ble_eq_true rfl) (Nat.le_of_ble_eq_true rfl) ?_
    refine t_X10_inT ⟨(nI_le' (by omega) (by omega)).mpr (by omega), (nI_le' (by omega) (by omega)).mpr (by omega)⟩ (fK_i ?_)
    show fEv g _ mX10_slot 34 [some (.ref 89), some (.int (nI k)), some (.int (nI 3))] [.int (nI 1), .ref 89] σ Q
    refine e_if_ne 41 dX10_slot_34 (by decide) (fun _ => ?_) (fun c => absurd c (by decide))
    refine e_iconst (nI 0) dX10_slot_41 (by decide) ?_
    refine e_iconst (nI 2) dX10_slot_42 (by decide) ?_
    refine e_callV (k := 89) [.int (nI 0), .int (nI 2)] dX10_slot_43 cc_X10_bad lk_RX10_148 im_X10_bad se_X10_bad (by decide) (Ms.s 89 rfl) (Ms.n (by decide)) rfl (Nat.le_of_ble_eq_true rfl) (Nat.le_of_ble_eq_true rfl) ?_
    refine t_X10_bad0 Ms hz (by decide) (fK_i ?_)
    show fEv g _ mX10_slot 46 [some (.ref 89), some (.int (nI k)), some (.int (nI 3))] [.int (nI 0)] σ Q
    refine e_if_eq 51 dX10_slot_46 (by decide) (fun _ => ?_) (fun c => absurd c (by decide))
    refine e_iload_n dX10_slot_51 rfl rfl ?_
    refine e_iconst (nI 4) dX10_slot_52 (by decide) ?_
    refine e_icmp_ge 65 dX10_slot_53 (by decide) (fun c => absurd c (by decide)) (fun _ => ?_)
    refine e_aload_n dX10_slot_56 rfl rfl ?_
    refine e_getR (q := 120) dX10_slot_57 fl_RX10_34 (Ms.s 89 rfl) (Ms.n (by decide)) rfl (Ms.r 89 14 rfl) (by unfold fscr; omega) ?_
    refine e_iload_n dX10_slot_60 rfl rfl ?_
    refine e_aaload (q := 121 + k) k dX10_slot_61 (Ms.s 120 rfl) (by decide) (Ms.n (by decide)) rfl (by omega) (by decide) (Ms.r 120 _ (frf_slot _ (by omega))) (by unfold fscr; omega) ?_
    refine e_iload_n dX10_slot_62 rfl rfl ?_
    refine e_iaload 3 dX10_slot_63 (Ms.s _ (fsh_slot _ (by omega))) (Ms.n (by omega)) rfl (by omega) (by decide) ?_
    refine e_int (nI (dS D k 3)) (Mr.slot k (by omega) 3 (by omega)) ?_
    exact e_ireturn .int dX10_slot_64 rfl rfl (h σ fSm.rfl' Ir hz)
  · show fEv g (d + 4) mX10_slot 5 [some (.ref 89), some (.int (nI k)), some (.int (nI 4))] [] σ Q
    refine e_aload_n dX10_slot_5 rfl rfl ?_
    refine e_aload_n dX10_slot_6 rfl rfl ?_
    refine e_iload_n dX10_slot_7 rfl rfl ?_
    refine e_callV (k := 89) [.int (nI k)] dX10_slot_8 cc_X10_isSlot lk_RX10_177 im_X10_isSlot se_X10_isSlot (by decide) (Ms.s 89 rfl) (Ms.n (by decide)) rfl (Nat.le_of_ble_eq_true rfl) (Nat.le_of_ble_eq_true rfl) ?_
    refine t_X10_isSlotT Ms Mr hD hk (fK_i ?_)
    show fEv g _ mX10_slot 11 [some (.ref 89), some (.int (nI k)), some (.int (nI 4))] [.int (nI 1), .ref 89] σ Q
    refine e_if_ne 18 dX10_slot_11 (by decide) (fun _ => ?_) (fun c => absurd c (by decide))
    refine e_iconst (nI 0) dX10_slot_18 (by decide) ?_
    refine e_iconst (nI 1) dX10_slot_19 (by decide) ?_
    refine e_callV (k := 89) [.int (nI 0), .int (nI 1)] dX10_slot_20 cc_X10_bad lk_RX10_148 im_X10_bad se_X10_bad (by decide) (Ms.s 89 rfl) (Ms.n (by decide)) rfl (Nat.le_of_ble_eq_true rfl) (Nat.le_of_ble_eq_true rfl) ?_
    refine t_X10_bad0 Ms hz (by decide) (fK_i ?_)
    show fEv g _ mX10_slot 23 [some (.ref 89), some (.int (nI k)), some (.int (nI 4))] [.int (nI 0)] σ Q
    refine e_if_ne 49 dX10_slot_23 (by decide) (fun c => absurd c (by decide)) (fun _ => ?_)
    refine e_aload_n dX10_slot_26 rfl rfl ?_
    refine e_iload_n dX10_slot_27 rfl rfl ?_
    refine e_iconst (nI 0) dX10_slot_28 (by decide) ?_
    refine e_bipush (nI 7) dX10_slot_29 (by decide) ?_
    refine e_callS [.int (nI 4), .int (nI 0), .int (nI 7)] dX10_slot_31 cc_X10_in lk_RX10_110 st_X10_in in_RX10 rfl (Nat.le_of_ble_eq_true rfl) (Nat.le_of_ble_eq_true rfl) ?_
    refine t_X10_inT ⟨(nI_le' (by omega) (by omega)).mpr (by omega), (nI_le' (by omega) (by omega)).mpr (by omega)⟩ (fK_i ?_)
    show fEv g _ mX10_slot 34 [some (.ref 89), some (.int (nI k)), some (.int (nI 4))] [.int (nI 1), .ref 89] σ Q
    refine e_if_ne 41 dX10_slot_34 (by decide) (fun _ => ?_) (fun c => absurd c (by decide))
    refine e_iconst (nI 0) dX10_slot_41 (by decide) ?_
    refine e_iconst (nI 2) dX10_slot_42 (by decide) ?_
    refine e_callV (k := 89) [.int (nI 0), .int (nI 2)] dX10_slot_43 cc_X10_bad lk_RX10_148 im_X10_bad se_X10_bad (by decide) (Ms.s 89 rfl) (Ms.n (by decide)) rfl (Nat.le_of_ble_eq_true rfl) (Nat.le_of_ble_eq_true rfl) ?_
    refine t_X10_bad0 Ms hz (by decide) (fK_i ?_)
    show fEv g _ mX10_slot 46 [some (.ref 89), some (.int (nI k)), some (.int (nI 4))] [.int (nI 0)] σ Q
    refine e_if_eq 51 dX10_slot_46 (by decide) (fun _ => ?_) (fun c => absurd c (by decide))
    refine e_iload_n dX10_slot_51 rfl rfl ?_
    refine e_iconst (nI 4) dX10_slot_52 (by decide) ?_
    refine e_icmp_ge 65 dX10_slot_53 (by decide) (fun _ => ?_) (fun c => absurd c (by decide))
    refine e_iload_n dX10_slot_65 rfl rfl ?_
    refine e_iconst (nI 4) dX10_slot_66 (by decide) ?_
    refine e_icmp_ne 82 dX10_slot_67 (by decide) (fun c => absurd c (by decide)) (fun _ => ?_)
    refine e_aload_n dX10_slot_70 rfl rfl ?_
    refine e_getR (q := 197) dX10_slot_71 fl_RX10_49 (Ms.s 89 rfl) (Ms.n (by decide)) rfl (Ms.r 89 19 rfl) (by unfold fscr; omega) ?_
    refine e_bipush (nI 121) dX10_slot_74 (by decide) ?_
    refine e_iload_n dX10_slot_76 rfl rfl ?_
    refine e_iadd dX10_slot_77 ?_
    refine e_int (nI (121 + k)) (nI_add 121 k) ?_
    refine e_iaload (121 + k) dX10_slot_78 (Ms.s 197 rfl) (Ms.n (by decide)) rfl (by omega) (by decide) ?_
    refine e_int (nI (S (121 + k))) (Mr.s (121 + k) (by omega)) ?_
    refine e_goto 122 dX10_slot_79 (by decide) ?_
    exact e_ireturn .int dX10_slot_122 rfl rfl (h σ fSm.rfl' Ir hz)
  · show fEv g (d + 4) mX10_slot 5 [some (.ref 89), some (.int (nI k)), some (.int (nI 5))] [] σ Q
    refine e_aload_n dX10_slot_5 rfl rfl ?_
    refine e_aload_n dX10_slot_6 rfl rfl ?_
    refine e_iload_n dX10_slot_7 rfl rfl ?_
    refine e_callV (k := 89) [.int (nI k)] dX10_slot_8 cc_X10_isSlot lk_RX10_177 im_X10_isSlot se_X10_isSlot (by decide) (Ms.s 89 rfl) (Ms.n (by decide)) rfl (Nat.le_of_ble_eq_true rfl) (Nat.le_of_ble_eq_true rfl) ?_
    refine t_X10_isSlotT Ms Mr hD hk (fK_i ?_)
    show fEv g _ mX10_slot 11 [some (.ref 89), some (.int (nI k)), some (.int (nI 5))] [.int (nI 1), .ref 89] σ Q
    refine e_if_ne 18 dX10_slot_11 (by decide) (fun _ => ?_) (fun c => absurd c (by decide))
    refine e_iconst (nI 0) dX10_slot_18 (by decide) ?_
    refine e_iconst (nI 1) dX10_slot_19 (by decide) ?_
    refine e_callV (k := 89) [.int (nI 0), .int (nI 1)] dX10_slot_20 cc_X10_bad lk_RX10_148 im_X10_bad se_X10_bad (by decide) (Ms.s 89 rfl) (Ms.n (by decide)) rfl (Nat.le_of_ble_eq_true rfl) (Nat.le_of_ble_eq_true rfl) ?_
    refine t_X10_bad0 Ms hz (by decide) (fK_i ?_)
    show fEv g _ mX10_slot 23 [some (.ref 89), some (.int (nI k)), some (.int (nI 5))] [.int (nI 0)] σ Q
    refine e_if_ne 49 dX10_slot_23 (by decide) (fun c => absurd c (by decide)) (fun _ => ?_)
    refine e_aload_n dX10_slot_26 rfl rfl ?_
    refine e_iload_n dX10_slot_27 rfl rfl ?_
    refine e_iconst (nI 0) dX10_slot_28 (by decide) ?_
    refine e_bipush (nI 7) dX10_slot_29 (by decide) ?_
    refine e_callS [.int (nI 5), .int (nI 0), .int (nI 7)] dX10_slot_31 cc_X10_in lk_RX10_110 st_X10_in in_RX10 rfl (Nat.le_of_ble_eq_true rfl) (Nat.le_of_ble_eq_true rfl) ?_
    refine t_X10_inT ⟨(nI_le' (by omega) (by omega)).mpr (by omega), (nI_le' (by omega) (by omega)).mpr (by omega)⟩ (fK_i ?_)
    show fEv g _ mX10_slot 34 [some (.ref 89), some (.int (nI k)), some (.int (nI 5))] [.int (nI 1), .ref 89] σ Q
    refine e_if_ne 41 dX10_slot_34 (by decide) (fun _ => ?_) (fun c => absurd c (by decide))
    refine e_iconst (nI 0) dX10_slot_41 (by decide) ?_
    refine e_iconst (nI 2) dX10_slot_42 (by decide) ?_
    refine e_callV (k := 89) [.int (nI 0), .int (nI 2)] dX10_slot_43 cc_X10_bad lk_RX10_148 im_X10_bad se_X10_bad (by decide) (Ms.s 89 rfl) (Ms.n (by decide)) rfl (Nat.le_of_ble_eq_true rfl) (Nat.le_of_ble_eq_true rfl) ?_
    refine t_X10_bad0 Ms hz (by decide) (fK_i ?_)
    show fEv g _ mX10_slot 46 [some (.ref 89), some (.int (nI k)), some (.int (nI 5))] [.int (nI 0)] σ Q
    refine e_if_eq 51 dX10_slot_46 (by decide) (fun _ => ?_) (fun c => absurd c (by decide))
    refine e_iload_n dX10_slot_51 rfl rfl ?_
    refine e_iconst (nI 4) dX10_slot_52 (by decide) ?_
    refine e_icmp_ge 65 dX10_slot_53 (by decide) (fun _ => ?_) (fun c => absurd c (by decide))
    refine e_iload_n dX10_slot_65 rfl rfl ?_
    refine e_iconst (nI 4) dX10_slot_66 (by decide) ?_
    refine e_icmp_ne 82 dX10_slot_67 (by decide) (fun _ => ?_) (fun c => absurd c (by decide))
    refine e_iload_n dX10_slot_82 rfl rfl ?_
    refine e_iconst (nI 5) dX10_slot_83 (by decide) ?_
    refine e_icmp_ne 95 dX10_slot_84 (by decide) (fun c => absurd c (by decide)) (fun _ => ?_)
    refine e_aload_n dX10_slot_87 rfl rfl ?_
    refine e_iload_n dX10_slot_88 rfl rfl ?_
    refine e_callV (k := 89) [.int (nI k)] dX10_slot_89 cc_X10_needOf lk_RX10_180 im_X10_needOf se_X10_needOf (by decide) (Ms.s 89 rfl) (Ms.n (by decide)) rfl (Nat.le_of_ble_eq_true rfl) (Nat.le_of_ble_eq_true rfl) ?_
    refine t_X10_needOf Ms Mr hD hW (by omega) (fK_i ?_)
    show fEv g _ mX10_slot 92 [some (.ref 89), some (.int (nI k)), some (.int (nI 5))] [.int (nI (mneed D S k))] σ Q
    refine e_goto 122 dX10_slot_92 (by decide) ?_
    exact e_ireturn .int dX10_slot_122 rfl rfl (h σ fSm.rfl' Ir hz)
  · show fEv g (d + 4) mX10_slot 5 [some (.ref 89), some (.int (nI k)), some (.int (nI 6))] [] σ Q
    refine e_aload_n dX10_slot_5 rfl rfl ?_
    refine e_aload_n dX10_slot_6 rfl rfl ?_
    refine e_iload_n dX10_slot_7 rfl rfl ?_
    refine e_callV (k := 89) [.int (nI k)] dX10_slot_8 cc_X10_isSlot lk_RX10_177 im_X10_isSlot se_X10_isSlot (by decide) (Ms.s 89 rfl) (Ms.n (by decide)) rfl (Nat.le_of_ble_eq_true rfl) (Nat.le_of_ble_eq_true rfl) ?_
    refine t_X10_isSlotT Ms Mr hD hk (fK_i ?_)
    show fEv g _ mX10_slot 11 [some (.ref 89), some (.int (nI k)), some (.int (nI 6))] [.int (nI 1), .ref 89] σ Q
    refine e_if_ne 18 dX10_slot_11 (by decide) (fun _ => ?_) (fun c => absurd c (by decide))
    refine e_iconst (nI 0) dX10_slot_18 (by decide) ?_
    refine e_iconst (nI 1) dX10_slot_19 (by decide) ?_
    refine e_callV (k := 89) [.int (nI 0), .int (nI 1)] dX10_slot_20 cc_X10_bad lk_RX10_148 im_X10_bad se_X10_bad (by decide) (Ms.s 89 rfl) (Ms.n (by decide)) rfl (Nat.le_of_ble_eq_true rfl) (Nat.le_of_ble_eq_true rfl) ?_
    refine t_X10_bad0 Ms hz (by decide) (fK_i ?_)
    show fEv g _ mX10_slot 23 [some (.ref 89), some (.int (nI k)), some (.int (nI 6))] [.int (nI 0)] σ Q
    refine e_if_ne 49 dX10_slot_23 (by decide) (fun c => absurd c (by decide)) (fun _ => ?_)
    refine e_aload_n dX10_slot_26 rfl rfl ?_
    refine e_iload_n dX10_slot_27 rfl rfl ?_
    refine e_iconst (nI 0) dX10_slot_28 (by decide) ?_
    refine e_bipush (nI 7) dX10_slot_29 (by decide) ?_
    refine e_callS [.int (nI 6), .int (nI 0), .int (nI 7)] dX10_slot_31 cc_X10_in lk_RX10_110 st_X10_in in_RX10 rfl (Nat.le_of_ble_eq_true rfl) (Nat.le_of_ble_eq_true rfl) ?_
    refine t_X10_inT ⟨(nI_le' (by omega) (by omega)).mpr (by omega), (nI_le' (by omega) (by omega)).mpr (by omega)⟩ (fK_i ?_)
    show fEv g _ mX10_slot 34 [some (.ref 89), some (.int (nI k)), some (.int (nI 6))] [.int (nI 1), .ref 89] σ Q
    refine e_if_ne 41 dX10_slot_34 (by decide) (fun _ => ?_) (fun c => absurd c (by decide))
    refine e_iconst (nI 0) dX10_slot_41 (by decide) ?_
    refine e_iconst (nI 2) dX10_slot_42 (by decide) ?_
    refine e_callV (k := 89) [.int (nI 0), .int (nI 2)] dX10_slot_43 cc_X10_bad lk_RX10_148 im_X10_bad se_X10_bad (by decide) (Ms.s 89 rfl) (Ms.n (by decide)) rfl (Nat.le_of_ble_eq_true rfl) (Nat.le_of_ble_eq_true rfl) ?_
    refine t_X10_bad0 Ms hz (by decide) (fK_i ?_)
    show fEv g _ mX10_slot 46 [some (.ref 89), some (.int (nI k)), some (.int (nI 6))] [.int (nI 0)] σ Q
    refine e_if_eq 51 dX10_slot_46 (by decide) (fun _ => ?_) (fun c => absurd c (by decide))
    refine e_iload_n dX10_slot_51 rfl rfl ?_
    refine e_iconst (nI 4) dX10_slot_52 (by decide) ?_
    refine e_icmp_ge 65 dX10_slot_53 (by decide) (fun _ => ?_) (fun c => absurd c (by decide))
    refine e_iload_n dX10_slot_65 rfl rfl ?_
    refine e_iconst (nI 4) dX10_slot_66 (by decide) ?_
    refine e_icmp_ne 82 dX10_slot_67 (by decide) (fun _ => ?_) (fun c => absurd c (by decide))
    refine e_iload_n dX10_slot_82 rfl rfl ?_
    refine e_iconst (nI 5) dX10_slot_83 (by decide) ?_
    refine e_icmp_ne 95 dX10_slot_84 (by decide) (fun _ => ?_) (fun c => absurd c (by decide))
    refine e_iload_n dX10_slot_95 rfl rfl ?_
    refine e_bipush (nI 6) dX10_slot_96 (by decide) ?_
    refine e_icmp_ne 117 dX10_slot_98 (by decide) (fun c => absurd c (by decide)) (fun _ => ?_)
    refine e_aload_n dX10_slot_101 rfl rfl ?_
    refine e_iload_n dX10_slot_102 rfl rfl ?_
    refine e_callV (k := 89) [.int (nI k)] dX10_slot_103 cc_X10_isAlive lk_RX10_183 im_X10_isAlive se_X10_isAlive (by decide) (Ms.s 89 rfl) (Ms.n (by decide)) rfl (Nat.le_of_ble_eq_true rfl) (Nat.le_of_ble_eq_true rfl) ?_
    refine t_X10_isAlive Ms Mr hD hW (by omega) (fK_i ?_)
    show fEv g _ mX10_slot 106 [some (.ref 89), some (.int (nI k)), some (.int (nI 6))] [.int (nI (bn (mal D S k)))] σ Q
    refine e_if_eq 113 dX10_slot_106 (by decide) (fun c106 => ?_) (fun c106 => ?_)
    · have c106 := bn0 c106
      refine e_iconst (nI 0) dX10_slot_113 (by decide) ?_
      refine e_goto 122 dX10_slot_114 (by decide) ?_
      have h9 : Q (.inl (some (.int (nI (bn (mal D S k)))))) σ := h σ fSm.rfl' Ir hz
      rw [c106] at h9
      exact e_ireturn .int dX10_slot_122 rfl rfl h9
    · have c106 := bn1 c106
      refine e_iconst (nI 1) dX10_slot_109 (by decide) ?_
      refine e_goto 122 dX10_slot_110 (by decide) ?_
      have h9 : Q (.inl (some (.int (nI (bn (mal D S k)))))) σ := h σ fSm.rfl' Ir hz
      rw [c106] at h9
      exact e_ireturn .int dX10_slot_122 rfl rfl h9
  · show fEv g (d + 4) mX10_slot 5 [some (.ref 89), some (.int (nI k)), some (.int (nI 7))] [] σ Q
    refine e_aload_n dX10_slot_5 rfl rfl ?_
    refine e_aload_n dX10_slot_6 rfl rfl ?_
    refine e_iload_n dX10_slot_7 rfl rfl ?_
    refine e_callV (k := 89) [.int (nI k)] dX10_slot_8 cc_X10_isSlot lk_RX10_177 im_X10_isSlot se_X10_isSlot (by decide) (Ms.s 89 rfl) (Ms.n (by decide)) rfl (Nat.le_of_ble_eq_true rfl) (Nat.le_of_ble_eq_true rfl) ?_
    refine t_X10_isSlotT Ms Mr hD hk (fK_i ?_)
    show fEv g _ mX10_slot 11 [some (.ref 89), some (.int (nI k)), some (.int (nI 7))] [.int (nI 1), .ref 89] σ Q
    refine e_if_ne 18 dX10_slot_11 (by decide) (fun _ => ?_) (fun c => absurd c (by decide))
    refine e_iconst (nI 0) dX10_slot_18 (by decide) ?_
    refine e_iconst (nI 1) dX10_slot_19 (by decide) ?_
    refine e_callV (k := 89) [.int (nI 0), .int (nI 1)] dX10_slot_20 cc_X10_bad lk_RX10_148 im_X10_bad se_X10_bad (by decide) (Ms.s 89 rfl) (Ms.n (by decide)) rfl (Nat.le_of_ble_eq_true rfl) (Nat.le_of_ble_eq_true rfl) ?_
    refine t_X10_bad0 Ms hz (by decide) (fK_i ?_)
    show fEv g _ mX10_slot 23 [some (.ref 89), some (.int (nI k)), some (.int (nI 7))] [.int (nI 0)] σ Q
    refine e_if_ne 49 dX10_slot_23 (by decide) (fun c => absurd c (by decide)) (fun _ => ?_)
    refine e_aload_n dX10_slot_26 rfl rfl ?_
    refine e_iload_n dX10_slot_27 rfl rfl ?_
    refine e_iconst (nI 0) dX10_slot_28 (by decide) ?_
    refine e_bipush (nI 7) dX10_slot_29 (by decide) ?_
    refine e_callS [.int (nI 7), .int (nI 0), .int (nI 7)] dX10_slot_31 cc_X10_in lk_RX10_110 st_X10_in in_RX10 rfl (Nat.le_of_ble_eq_true rfl) (Nat.le_of_ble_eq_true rfl) ?_
    refine t_X10_inT ⟨(nI_le' (by omega) (by omega)).mpr (by omega), (nI_le' (by omega) (by omega)).mpr (by omega)⟩ (fK_i ?_)
    show fEv g _ mX10_slot 34 [some (.ref 89), some (.int (nI k)), some (.int (nI 7))] [.int (nI 1), .ref 89] σ Q
    refine e_if_ne 41 dX10_slot_34 (by decide) (fun _ => ?_) (fun c => absurd c (by decide))
    refine e_iconst (nI 0) dX10_slot_41 (by decide) ?_
    refine e_iconst (nI 2) dX10_slot_42 (by decide) ?_
    refine e_callV (k := 89) [.int (nI 0), .int (nI 2)] dX10_slot_43 cc_X10_bad lk_RX10_148 im_X10_bad se_X10_bad (by decide) (Ms.s 89 rfl) (Ms.n (by decide)) rfl (Nat.le_of_ble_eq_true rfl) (Nat.le_of_ble_eq_true rfl) ?_
    refine t_X10_bad0 Ms hz (by decide) (fK_i ?_)
    show fEv g _ mX10_slot 46 [some (.ref 89), some (.int (nI k)), some (.int (nI 7))] [.int (nI 0)] σ Q
    refine e_if_eq 51 dX10_slot_46 (by decide) (fun _ => ?_) (fun c => absurd c (by decide))
    refine e_iload_n dX10_slot_51 rfl rfl ?_
    refine e_iconst (nI 4) dX10_slot_52 (by decide) ?_
    refine e_icmp_ge 65 dX10_slot_53 (by decide) (fun _ => ?_) (fun c => absurd c (by decide))
    refine e_iload_n dX10_slot_65 rfl rfl ?_
    refine e_iconst (nI 4) dX10_slot_66 (by decide) ?_
    refine e_icmp_ne 82 dX10_slot_67 (by decide) (fun _ => ?_) (fun c => absurd c (by decide))
    refine e_iload_n dX10_slot_82 rfl rfl ?_
    refine e_iconst (nI 5) dX10_slot_83 (by decide) ?_
    refine e_icmp_ne 95 dX10_slot_84 (by decide) (fun _ => ?_) (fun c => absurd c (by decide))
    refine e_iload_n dX10_slot_95 rfl rfl ?_
    refine e_bipush (nI 6) dX10_slot_96 (by decide) ?_
    refine e_icmp_ne 117 dX10_slot_98 (by decide) (fun _ => ?_) (fun c => absurd c (by decide))
    refine e_aload_n dX10_slot_117 rfl rfl ?_
    refine e_iload_n dX10_slot_118 rfl rfl ?_
    refine e_callV (k := 89) [.int (nI k)] dX10_slot_119 cc_X10_pieceOf lk_RX10_168 im_X10_pieceOf se_X10_pieceOf (by decide) (Ms.s 89 rfl) (Ms.n (by decide)) rfl (Nat.le_of_ble_eq_true rfl) (Nat.le_of_ble_eq_true rfl) ?_
    refine t_X10_pieceOf Ms Mr hD hW (by omega) (fK_i ?_)
    show fEv g _ mX10_slot 122 [some (.ref 89), some (.int (nI k)), some (.int (nI 7))] [.int (mo (mpc D S k))] σ Q
    exact e_ireturn .int dX10_slot_122 rfl rfl (h σ fSm.rfl' Ir hz)
set_option maxRecDepth 20000 in
theorem t_X10_slot {g : fGP} {d : Nat} {σ : fAH} {Q : fRes → fAH → Prop} {x : fXS} {k w : Nat}  (Ms : fMs g σ) (ok : fOK x) (Ir : fIr σ x) (hk : k < dT (xD x) 1) (hw : w < 8) (h : ∀ σ', fSm fRfA σ σ' → fIr σ' x → fI σ' 89 0 = nI 0 → Q (.inl (some (.int (vSlot (xD x) (iS (xI x)) k w)))) σ') : fEv g (d + 4) mX10_slot 0 (fent [.ref 89, .int (nI k), .int (nI w)] 3) [] σ Q := by
  have S9 : fSm (fun a => a = 89) σ (fsI σ 89 0 (nI 0)) := fSm_I rfl
  show fEv g (d + 4) mX10_slot 0 [some (.ref 89), some (.int (nI k)), some (.int (nI w))] [] σ Q
  refine e_aload_n dX10_slot_0 rfl rfl ?_
  refine e_iconst (nI 0) dX10_slot_1 (by decide) ?_
  refine e_putI dX10_slot_2 fl_RX10_76 (Ms.s 89 rfl) (Ms.n (by decide)) rfl rfl ?_
  exact lp_X10_slot (Ms.sm S9) ok (Ir.f0 ok S9 (fun a (q : a = 89) => Or.inl (by omega)) (fun j hj => by simp only [List.mem_cons, List.not_mem_nil, or_false] at hj; rw [fI_I, if_neg (by omega)])) (by rw [fI_I, if_pos ⟨rfl, rfl⟩]) hk hw (fun σ' Sm' => h σ' ((S9.to (fun a (q : a = 89) => by unfold fRfA; omega)).tr Sm'))
set_option maxRecDepth 20000 in
theorem lp_X10_slotE1 {g : fGP} {d : Nat} {σ : fAH} {Q : fRes → fAH → Prop} {x : fXS} {a b : Int32}  (Ms : fMs g σ) (ok : fOK x) (Ir : fIr σ x) (hz : fI σ 89 0 = nI 0) (hv : ¬ (nI 0 ≤ a ∧ a < nI (dT (xD x) 1))) (h : ∀ σ', fSm fRfA σ σ' → fIr σ' x → fI σ' 89 0 = nI 1 → Q (.inl (some (.int (nI 0)))) σ') : fEv g (d + 2) mX10_slot 5 [some (.ref 89), some (.int a), some (.int b)] [] σ Q := by
  obtain ⟨D, ⟨S, T, sd, pn, P, rn, R⟩, B, tp, pl, im, Im⟩ := x
  have hD : fWD D := ok.1
  have hW : fWS D S := ok.2.1.1
  have hC : fWC D S := ok.2.1.2.1
  have hN : fWN S 0 0 := ok.2.1.2.2.1
  have Mr : fMr σ D S sd := Ir.1
  have Mt : fMt σ S T := Ir.2.1
  obtain ⟨t0, t1, t2, t3, t4, t5, t6⟩ := id hD.1
  have np := hW.n hD
  have n5 := hW.2.2.2.2
  have tp6 : tp ≤ 600 := ok.2.2.2.1
  have im3 : im ≤ 3 := ok.2.2.2.2.1
  have pn3 : pn ≤ 30 := ok.2.1.2.2.2.1
  have rn6 : rn ≤ 60 := ok.2.1.2.2.2.2.2.1
  have Rc : fRc σ (S, T, sd, pn, P, rn, R) := Ir.2.2.2.2.1
  have w52 := hW.1
  show fEv g (d + 2) mX10_slot 5 [some (.ref 89), some (.int a), some (.int b)] [] σ Q
  refine e_aload_n dX10_slot_5 rfl rfl ?_
  refine e_aload_n dX10_slot_6 rfl rfl ?_
  refine e_iload_n dX10_slot_7 rfl rfl ?_
  refine e_callV (k := 89) [.int a] dX10_slot_8 cc_X10_isSlot lk_RX10_177 im_X10_isSlot se_X10_isSlot (by decide) (Ms.s 89 rfl) (Ms.n (by decide)) rfl (Nat.le_of_ble_eq_true rfl) (Nat.le_of_ble_eq_true rfl) ?_
  refine t_X10_isSlotF Ms Mr hD hv (fK_i ?_)
  show fEv g _ mX10_slot 11 [some (.ref 89), some (.int a), some (.int b)] [.int (nI 0), .ref 89] σ Q
  refine e_if_ne 18 dX10_slot_11 (by decide) (fun c => absurd c (by decide)) (fun _ => ?_)
  refine e_iconst (nI 1) dX10_slot_14 (by decide) ?_
  refine e_goto 19 dX10_slot_15 (by decide) ?_
  refine e_iconst (nI 1) dX10_slot_19 (by decide) ?_
  refine e_callV (k := 89) [.int (nI 1), .int (nI 1)] dX10_slot_20 cc_X10_bad lk_RX10_148 im_X10_bad se_X10_bad (by decide) (Ms.s 89 rfl) (Ms.n (by decide)) rfl (Nat.le_of_ble_eq_true rfl) (Nat.le_of_ble_eq_true rfl) ?_
  refine t_X10_bad1 Ms hz (by decide) (fK_i ?_)
  show fEv g _ mX10_slot 23 [some (.ref 89), some (.int a), some (.int b)] [.int (nI 1)] (fsI σ 89 0 (nI 1)) Q
  refine e_if_ne 49 dX10_slot_23 (by decide) (fun _ => ?_) (fun c => absurd c (by decide))
  refine e_iconst (nI 0) dX10_slot_49 (by decide) ?_
  exact e_ireturn .int dX10_slot_50 rfl rfl (h _ (fSm_I (by unfold fRfA; omega)) (Ir.f0 ok (A := fun a => a = 89) (fSm_I rfl) (fun a (q : a = 89) => Or.inl (by omega)) (fun j hj => by simp only [List.mem_cons, List.not_mem_nil, or_false] at hj; rw [fI_I, if_neg (by omega)])) (by rw [fI_I, if_pos ⟨rfl, rfl⟩]))
set_option maxRecDepth 20000 in
theorem t_X10_slotE1 {g : fGP} {d : Nat} {σ : fAH} {Q : fRes → fAH → Prop} {x : fXS} {a b : Int32}  (Ms : fMs g σ) (ok : fOK x) (Ir : fIr σ x) (hv : ¬ (nI 0 ≤ a ∧ a < nI (dT (xD x) 1))) (h : ∀ σ', fSm fRfA σ σ' → fIr σ' x → fI σ' 89 0 = nI 1 → Q (.inl (some (.int (nI 0)))) σ') : fEv g (d + 2) mX10_slot 0 (fent [.ref 89, .int a, .int b] 3) [] σ Q := by
  have S9 : fSm (fun a => a = 89) σ (fsI σ 89 0 (nI 0)) := fSm_I rfl
  show fEv g (d + 2) mX10_slot 0 [some (.ref 89), some (.int a), some (.int b)] [] σ Q
  refine e_aload_n dX10_slot_0 rfl rfl ?_
  refine e_iconst (nI 0) dX10_slot_1 (by decide) ?_
  refine e_putI dX10_slot_2 fl_RX10_76 (Ms.s 89 rfl) (Ms.n (by decide)) rfl rfl ?_
  exact lp_X10_slotE1 (Ms.sm S9) ok (Ir.f0 ok S9 (fun a (q : a = 89) => Or.inl (by omega)) (fun j hj => by simp only [List.mem_cons, List.not_mem_nil, or_false] at hj; rw [fI_I, if_neg (by omega)])) (by rw [fI_I, if_pos ⟨rfl, rfl⟩]) hv (fun σ' Sm' => h σ' ((S9.to (fun a (q : a = 89) => by unfold fRfA; omega)).tr Sm'))
set_option maxRecDepth 20000 in
theorem lp_X10_slotE2 {g : fGP} {d : Nat} {σ : fAH} {Q : fRes → fAH → Prop} {x : fXS} {k : Nat} {b : Int32}  (Ms : fMs g σ) (ok : fOK x) (Ir : fIr σ x) (hz : fI σ 89 0 = nI 0) (hk : k < dT (xD x) 1) (hv : ¬ (nI 0 ≤ b ∧ b ≤ nI 7)) (h : ∀ σ', fSm fRfA σ σ' → fIr σ' x → fI σ' 89 0 = nI 2 → Q (.inl (some (.int (nI 0)))) σ') : fEv g (d + 2) mX10_slot 5 [some (.ref 89), some (.int (nI k)), some (.int b)] [] σ Q := by
  obtain ⟨D, ⟨S, T, sd, pn, P, rn, R⟩, B, tp, pl, im, Im⟩ := x
  have hD : fWD D := ok.1
  have hW : fWS D S := ok.2.1.1
  have hC : fWC D S := ok.2.1.2.1
  have hN : fWN S 0 0 := ok.2.1.2.2.1
  have Mr : fMr σ D S sd := Ir.1
  have Mt : fMt σ S T := Ir.2.1
  obtain ⟨t0, t1, t2, t3, t4, t5, t6⟩ := id hD.1
  have np := hW.n hD
  have n5 := hW.2.2.2.2
  have tp6 : tp ≤ 600 := ok.2.2.2.1
  have im3 : im ≤ 3 := ok.2.2.2.2.1
  have pn3 : pn ≤ 30 := ok.2.1.2.2.2.1
  have rn6 : rn ≤ 60 := ok.2.1.2.2.2.2.2.1
  have Rc : fRc σ (S, T, sd, pn, P, rn, R) := Ir.2.2.2.2.1
  have w52 := hW.1
  show fEv g (d + 2) mX10_slot 5 [some (.ref 89), some (.int (nI k)), some (.int b)] [] σ Q
  refine e_aload_n dX10_slot_5 rfl rfl ?_
  refine e_aload_n dX10_slot_6 rfl rfl ?_
  refine e_iload_n dX10_slot_7 rfl rfl ?_
  refine e_callV (k := 89) [.int (nI k)] dX10_slot_8 cc_X10_isSlot lk_RX10_177 im_X10_isSlot se_X10_isSlot (by decide) (Ms.s 89 rfl) (Ms.n (by decide)) rfl (Nat.le_of_ble_eq_true rfl) (Nat.le_of_ble_eq_true rfl) ?_
  refine t_X10_isSlotT Ms Mr hD hk (fK_i ?_)
  show fEv g _ mX10_slot 11 [some (.ref 89), some (.int (nI k)), some (.int b)] [.int (nI 1), .ref 89] σ Q
  refine e_if_ne 18 dX10_slot_11 (by decide) (fun _ => ?_) (fun c => absurd c (by decide))
  refine e_iconst (nI 0) dX10_slot_18 (by decide) ?_
  refine e_iconst (nI 1) dX10_slot_19 (by decide) ?_
  refine e_callV (k := 89) [.int (nI 0), .int (nI 1)] dX10_slot_20 cc_X10_bad lk_RX10_148 im_X10_bad se_X10_bad (by decide) (Ms.s 89 rfl) (Ms.n (by decide)) rfl (Nat.le_of_ble_eq_true rfl) (Nat.le_of_ble_eq_true rfl) ?_
  refine t_X10_bad0 Ms hz (by decide) (fK_i ?_)
  show fEv g _ mX10_slot 23 [some (.ref 89), some (.int (nI k)), some (.int b)] [.int (nI 0)] σ Q
  refine e_if_ne 49 dX10_slot_23 (by decide) (fun c => absurd c (by decide)) (fun _ => ?_)
  refine e_aload_n dX10_slot_26 rfl rfl ?_
  refine e_iload_n dX10_slot_27 rfl rfl ?_
  refine e_iconst (nI 0) dX10_slot_28 (by decide) ?_
  refine e_bipush (nI 7) dX10_slot_29 (by decide) ?_
  refine e_callS [.int b, .int (nI 0), .int (nI 7)] dX10_slot_31 cc_X10_in lk_RX10_110 st_X10_in in_RX10 rfl (Nat.le_of_ble_eq_true rfl) (Nat.le_of_ble_eq_true rfl) ?_
  refine t_X10_inF hv (fK_i ?_)
  show fEv g _ mX10_slot 34 [some (.ref 89), some (.int (nI k)), some (.int b)] [.int (nI 0), .ref 89] σ Q
  refine e_if_ne 41 dX10_slot_34 (by decide) (fun c => absurd c (by decide)) (fun _ => ?_)
  refine e_iconst (nI 1) dX10_slot_37 (by decide) ?_
  refine e_goto 42 dX10_slot_38 (by decide) ?_
  refine e_iconst (nI 2) dX10_slot_42 (by decide) ?_
  refine e_callV (k := 89) [.int (nI 1), .int (nI 2)] dX10_slot_43 cc_X10_bad lk_RX10_148 im_X10_bad se_X10_bad (by decide) (Ms.s 89 rfl) (Ms.n (by decide)) rfl (Nat.le_of_ble_eq_true rfl) (Nat.le_of_ble_eq_true rfl) ?_
  refine t_X10_bad1 Ms hz (by decide) (fK_i ?_)
  show fEv g _ mX10_slot 46 [some (.ref 89), some (.int (nI k)), some (.int b)] [.int (nI 1)] (fsI σ 89 0 (nI 2)) Q
  refine e_if_eq 51 dX10_slot_46 (by decide) (fun c => absurd c (by decide)) (fun _ => ?_)
  refine e_iconst (nI 0) dX10_slot_49 (by decide) ?_
  exact e_ireturn .int dX10_slot_50 rfl rfl (h _ (fSm_I (by unfold fRfA; omega)) (Ir.f0 ok (A := fun a => a = 89) (fSm_I rfl) (fun a (q : a = 89) => Or.inl (by omega)) (fun j hj => by simp only [List.mem_cons, List.not_mem_nil, or_false] at hj; rw [fI_I, if_neg (by omega)])) (by rw [fI_I, if_pos ⟨rfl, rfl⟩]))
set_option maxRecDepth 20000 in
theorem t_X10_slotE2 {g : fGP} {d : Nat} {σ : fAH} {Q : fRes → fAH → Prop} {x : fXS} {k : Nat} {b : Int32}  (Ms : fMs g σ) (ok : fOK x) (Ir : fIr σ x) (hk : k < dT (xD x) 1) (hv : ¬ (nI 0 ≤ b ∧ b ≤ nI 7)) (h : ∀ σ', fSm fRfA σ σ' → fIr σ' x → fI σ' 89 0 = nI 2 → Q (.inl (some (.int (nI 0)))) σ') : fEv g (d + 2) mX10_slot 0 (fent [.ref 89, .int (nI k), .int b] 3) [] σ Q := by
  have S9 : fSm (fun a => a = 89) σ (fsI σ 89 0 (nI 0)) := fSm_I rfl
  show fEv g (d + 2) mX10_slot 0 [some (.ref 89), some (.int (nI k)), some (.int b)] [] σ Q
  refine e_aload_n dX10_slot_0 rfl rfl ?_
  refine e_iconst (nI 0) dX10_slot_1 (by decide) ?_
  refine e_putI dX10_slot_2 fl_RX10_76 (Ms.s 89 rfl) (Ms.n (by decide)) rfl rfl ?_
  exact lp_X10_slotE2 (Ms.sm S9) ok (Ir.f0 ok S9 (fun a (q : a = 89) => Or.inl (by omega)) (fun j hj => by simp only [List.mem_cons, List.not_mem_nil, or_false] at hj; rw [fI_I, if_neg (by omega)])) (by rw [fI_I, if_pos ⟨rfl, rfl⟩]) hk hv (fun σ' Sm' => h σ' ((S9.to (fun a (q : a = 89) => by unfold fRfA; omega)).tr Sm'))
set_option maxRecDepth 20000 in
theorem lp_X10_order {g : fGP} {d : Nat} {σ : fAH} {Q : fRes → fAH → Prop} {x : fXS} {k w : Nat}  (Ms : fMs g σ) (ok : fOK x) (Ir : fIr σ x) (hz : fI σ 89 0 = nI 0) (hk : k < dT (xD x) 2) (hw : w < 6) (h : ∀ σ', fSm fRfA σ σ' → fIr σ' x → fI σ' 89 0 = nI 0 → Q (.inl (some (.int (vOrd (xD x) (iS (xI x)) k w)))) σ') : fEv g (d + 2) mX10_order 5 [some (.ref 89), some (.int (nI k)), some (.int (nI w))] [] σ Q := by
  obtain ⟨D, ⟨S, T, sd, pn, P, rn, R⟩, B, tp, pl, im, Im⟩ := x
  have hD : fWD D := ok.1
  have hW : fWS D S := ok.2.1.1
  have hC : fWC D S := ok.2.1.2.1
  have hN : fWN S 0 0 := ok.2.1.2.2.1
  have Mr : fMr σ D S sd := Ir.1
  have Mt : fMt σ S T := Ir.2.1
  obtain ⟨t0, t1, t2, t3, t4, t5, t6⟩ := id hD.1
  have np := hW.n hD
  have n5 := hW.2.2.2.2
  have tp6 : tp ≤ 600 := ok.2.2.2.1
  have im3 : im ≤ 3 := ok.2.2.2.2.1
  have pn3 : pn ≤ 30 := ok.2.1.2.2.2.1
  have rn6 : rn ≤ 60 := ok.2.1.2.2.2.2.2.1
  have Rc : fRc σ (S, T, sd, pn, P, rn, R) := Ir.2.2.2.2.1
  have w52 := hW.1
  have hk : k < dT D 2 := hk
  rcases (show w = 0 ∨ w = 1 ∨ w = 2 ∨ w = 3 ∨ w = 4 ∨ w = 5 by omega) with rfl | rfl | rfl | rfl | rfl | rfl
  · show fEv g (d + 2) mX10_order 5 [some (.ref 89), some (.int (nI k)), some (.int (nI 0))] [] σ Q
    refine e_aload_n dX10_order_5 rfl rfl ?_
    refine e_aload_n dX10_order_6 rfl rfl ?_
    refine e_iload_n dX10_order_7 rfl rfl ?_
    refine e_callV (k := 89) [.int (nI k)] dX10_order_8 cc_X10_isOrder lk_RX10_186 im_X10_isOrder se_X10_isOrder (by decide) (Ms.s 89 rfl) (Ms.n (by decide)) rfl (Nat.le_of_ble_eq_true rfl) (Nat.le_of_ble_eq_true rfl) ?_
    refine t_X10_isOrderT Ms Mr hD hk (fK_i ?_)
    show fEv g _ mX10_order 11 [some (.ref 89), some (.int (nI k)), some (.int (nI 0))] [.int (nI 1), .ref 89] σ Q
    refine e_if_ne 18 dX10_order_11 (by decide) (fun _ => ?_) (fun c => absurd c (by decide))
    refine e_iconst (nI 0) dX10_order_18 (by decide) ?_
    refine e_iconst (nI 1) dX10_order_19 (by decide) ?_
    refine e_callV (k := 89) [.int (nI 0), .int (nI 1)] dX10_order_20 cc_X10_bad lk_RX10_148 im_X10_bad se_X10_bad (by decide) (Ms.s 89 rfl) (Ms.n (by decide)) rfl (Nat.le_of_ble_eq_true rfl) (Nat.le_of_ble_eq_true rfl) ?_
    refine t_X10_bad0 Ms hz (by decide) (fK_i ?_)
    show fEv g _ mX10_order 23 [some (.ref 89), some (.int (nI k)), some (.int (nI 0))] [.int (nI 0)] σ Q
    refine e_if_ne 48 dX10_order_23 (by decide) (fun c => absurd c (by decide)) (fun _ => ?_)
    refine e_aload_n dX10_order_26 rfl rfl ?_
    refine e_iload_n dX10_order_27 rfl rfl ?_
    refine e_iconst (nI 0) dX10_order_28 (by decide) ?_
    refine e_iconst (nI 5) dX10_order_29 (by decide) ?_
    refine e_callS [.int (nI 0), .int (nI 0), .int (nI 5)] dX10_order_30 cc_X10_in lk_RX10_110 st_X10_in in_RX10 rfl (Nat.le_of_ble_eq_true rfl) (Nat.le_of_ble_eq_true rfl) ?_
    refine t_X10_inT ⟨(nI_le' (by omega) (by omega)).mpr (by omega), (nI_le' (by omega) (by omega)).mpr (by omega)⟩ (fK_i ?_)
    show fEv g _ mX10_order 33 [some (.ref 89), some (.int (nI k)), some (.int (nI 0))] [.int (nI 1), .ref 89] σ Q
    refine e_if_ne 40 dX10_order_33 (by decide) (fun _ => ?_) (fun c => absurd c (by decide))
    refine e_iconst (nI 0) dX10_order_40 (by decide) ?_
    refine e_iconst (nI 2) dX10_order_41 (by decide) ?_
    refine e_callV (k := 89) [.int (nI 0), .int (nI 2)] dX10_order_42 cc_X10_bad lk_RX10_148 im_X10_bad se_X10_bad (by decide) (Ms.s 89 rfl) (Ms.n (by decide)) rfl (Nat.le_of_ble_eq_true rfl) (Nat.le_of_ble_eq_true rfl) ?_
    refine t_X10_bad0 Ms hz (by decide) (fK_i ?_)
    show fEv g _ mX10_order 45 [some (.ref 89), some (.int (nI k)), some (.int (nI 0))] [.int (nI 0)] σ Q
    refine e_if_eq 50 dX10_order_45 (by decide) (fun _ => ?_) (fun c => absurd c (by decide))
    refine e_iload_n dX10_order_50 rfl rfl ?_
    refine e_iconst (nI 5) dX10_order_51 (by decide) ?_
    refine e_icmp_ge 66 dX10_order_52 (by decide) (fun c => absurd c (by decide)) (fun _ => ?_)
    refine e_aload_n dX10_order_55 rfl rfl ?_
    refine e_getR (q := 140) dX10_order_56 fl_RX10_40 (Ms.s 89 rfl) (Ms.n (by decide)) rfl (Ms.r 89 16 rfl) (by unfold fscr; omega) ?_
    refine e_iload_n dX10_order_59 rfl rfl ?_
    refine e_aaload (q := 141 + k) k dX10_order_60 (Ms.s 140 rfl) (by decide) (Ms.n (by decide)) rfl (by omega) (by decide) (Ms.r 140 _ (frf_order _ (by omega))) (by unfold fscr; omega) ?_
    refine e_iload_n dX10_order_61 rfl rfl ?_
    refine e_iaload 0 dX10_order_62 (Ms.s _ (fsh_order _ (by omega))) (Ms.n (by omega)) rfl (by omega) (by decide) ?_
    refine e_int (nI (dO D k 0)) (Mr.order k (by omega) 0 (by omega)) ?_
    refine e_goto 76 dX10_order_63 (by decide) ?_
    exact e_ireturn .int dX10_order_76 rfl rfl (h σ fSm.rfl' Ir hz)
  · show fEv g (d + 2) mX10_order 5 [some (.ref 89), some (.int (nI k)), some (.int (nI 1))] [] σ Q
    refine e_aload_n dX10_order_5 rfl rfl ?_
    refine e_aload_n dX10_order_6 rfl rfl ?_
    refine e_iload_n dX10_order_7 rfl rfl ?_
    refine e_callV (k := 89) [.int (nI k)] dX10_order_8 cc_X10_isOrder lk_RX10_186 im_X10_isOrder se_X10_isOrder (by decide) (Ms.s 89 rfl) (Ms.n (by decide)) rfl (Nat.le_of_ble_eq_true rfl) (Nat.le_of_ble_eq_true rfl) ?_
    refine t_X10_isOrderT Ms Mr hD hk (fK_i ?_)
    show fEv g _ mX10_order 11 [some (.ref 89), some (.int (nI k)), some (.int (nI 1))] [.int (nI 1), .ref 89] σ Q
    refine e_if_ne 18 dX10_order_11 (by decide) (fun _ => ?_) (fun c => absurd c (by decide))
    refine e_iconst (nI 0) dX10_order_18 (by decide) ?_
    refine e_iconst (nI 1) dX10_order_19 (by decide) ?_
    refine e_callV (k := 89) [.int (nI 0), .int (nI 1)] dX10_order_20 cc_X10_bad lk_RX10_148 im_X10_bad se_X10_bad (by decide) (Ms.s 89 rfl) (Ms.n (by decide)) rfl (Nat.le_of_ble_eq_true rfl) (Nat.le_of_ble_eq_true rfl) ?_
    refine t_X10_bad0 Ms hz (by decide) (fK_i ?_)
    show fEv g _ mX10_order 23 [some (.ref 89), some (.int (nI k)), some (.int (nI 1))] [.int (nI 0)] σ Q
    refine e_if_ne 48 dX10_order_23 (by decide) (fun c => absurd c (by decide)) (fun _ => ?_)
    refine e_aload_n dX10_order_26 rfl rfl ?_
    refine e_iload_n dX10_order_27 rfl rfl ?_
    refine e_iconst (nI 0) dX10_order_28 (by decide) ?_
    refine e_iconst (nI 5) dX10_order_29 (by decide) ?_
    refine e_callS [.int (nI 1), .int (nI 0), .int (nI 5)] dX10_order_30 cc_X10_in lk_RX10_110 st_X10_in in_RX10 rfl (Nat.le_of_ble_eq_true rfl) (Nat.le_of_ble_eq_true rfl) ?_
    refine t_X10_inT ⟨(nI_le' (by omega) (by omega)).mpr (by omega), (nI_le' (by omega) (by omega)).mpr (by omega)⟩ (fK_i ?_)
    show fEv g _ mX10_order 33 [some (.ref 89), some (.int (nI k)), some (.int (nI 1))] [.int (nI 1), .ref 89] σ Q
    refine e_if_ne 40 dX10_order_33 (by decide) (fun _ => ?_) (fun c => absurd c (by decide))
    refine e_iconst (nI 0) dX10_order_40 (by decide) ?_
    refine e_iconst (nI 2) dX10_order_41 (by decide) ?_
    refine e_callV (k := 89) [.int (nI 0), .int (nI 2)] dX10_order_42 cc_X10_bad lk_RX10_148 im_X10_bad se_X10_bad (by decide) (Ms.s 89 rfl) (Ms.n (by decide)) rfl (Nat.le_of_ble_eq_true rfl) (Nat.le_of_ble_eq_true rfl) ?_
    refine t_X10_bad0 Ms hz (by decide) (fK_i ?_)
    show fEv g _ mX10_order 45 [some (.ref 89), some (.int (nI k)), some (.int (nI 1))] [.int (nI 0)] σ Q
    refine e_if_eq 50 dX10_order_45 (by decide) (fun _ => ?_) (fun c => absurd c (by decide))
    refine e_iload_n dX10_order_50 rfl rfl ?_
    refine e_iconst (nI 5) dX10_order_51 (by decide) ?_
    refine e_icmp_ge 66 dX10_order_52 (by decide) (fun c => absurd c (by decide)) (fun _ => ?_)
    refine e_aload_n dX10_order_55 rfl rfl ?_
    refine e_getR (q := 140) dX10_order_56 fl_RX10_40 (Ms.s 89 rfl) (Ms.n (by decide)) rfl (Ms.r 89 16 rfl) (by unfold fscr; omega) ?_
    refine e_iload_n dX10_order_59 rfl rfl ?_
    refine e_aaload (q := 141 + k) k dX10_order_60 (Ms.s 140 rfl) (by decide) (Ms.n (by decide)) rfl (by omega) (by decide) (Ms.r 140 _ (frf_order _ (by omega))) (by unfold fscr; omega) ?_
    refine e_iload_n dX10_order_61 rfl rfl ?_
    refine e_iaload 1 dX10_order_62 (Ms.s _ (fsh_order _ (by omega))) (Ms.n (by omega)) rfl (by omega) (by decide) ?_
    refine e_int (nI (dO D k 1)) (Mr.order k (by omega) 1 (by omega)) ?_
    refine e_goto 76 dX10_order_63 (by decide) ?_
    exact e_ireturn .int dX10_order_76 rfl rfl (h σ fSm.rfl' Ir hz)
  · show fEv g (d + 2) mX10_order 5 [some (.ref 89), some (.int (nI k)), some (.int (nI 2))] [] σ Q
    refine e_aload_n dX10_order_5 rfl rfl ?_
    refine e_aload_n dX10_order_6 rfl rfl ?_
    refine e_iload_n dX10_order_7 rfl rfl ?_
    refine e_callV (k := 89) [.int (nI k)] dX10_order_8 cc_X10_isOrder lk_RX10_186 im_X10_isOrder se_X10_isOrder (by decide) (Ms.s 89 rfl) (Ms.n (by decide)) rfl (Nat.le_of_ble_eq_true rfl) (Nat.le_of_ble_eq_true rfl) ?_
    refine t_X10_isOrderT Ms Mr hD hk (fK_i ?_)
    show fEv g _ mX10_order 11 [some (.ref 89), some (.int (nI k)), some (.int (nI 2))] [.int (nI 1), .ref 89] σ Q
    refine e_if_ne 18 dX10_order_11 (by decide) (fun _ => ?_) (fun c => absurd c (by decide))
    refine e_iconst (nI 0) dX10_order_18 (by decide) ?_
    refine e_iconst (nI 1) dX10_order_19 (by decide) ?_
    refine e_callV (k := 89) [.int (nI 0), .int (nI 1)] dX10_order_20 cc_X10_bad lk_RX10_148 im_X10_bad se_X10_bad (by decide) (Ms.s 89 rfl) (Ms.n (by decide)) rfl (Nat.le_of_ble_eq_true rfl) (Nat.le_of_ble_eq_true rfl) ?_
    refine t_X10_bad0 Ms hz (by decide) (fK_i ?_)
    show fEv g _ mX10_order 23 [some (.ref 89), some (.int (nI k)), some (.int (nI 2))] [.int (nI 0)] σ Q
    refine e_if_ne 48 dX10_order_23 (by decide) (fun c => absurd c (by decide)) (fun _ => ?_)
    refine e_aload_n dX10_order_26 rfl rfl ?_
    refine e_iload_n dX10_order_27 rfl rfl ?_
    refine e_iconst (nI 0) dX10_order_28 (by decide) ?_
    refine e_iconst (nI 5) dX10_order_29 (by decide) ?_
    refine e_callS [.int (nI 2), .int (nI 0), .int (nI 5)] dX10_order_30 cc_X10_in lk_RX10_110 st_X10_in in_RX10 rfl (Nat.le_of_ble_eq_true rfl) (Nat.le_of_ble_eq_true rfl) ?_
    refine t_X10_inT ⟨(nI_le' (by omega) (by omega)).mpr (by omega), (nI_le' (by omega) (by omega)).mpr (by omega)⟩ (fK_i ?_)
    show fEv g _ mX10_order 33 [some (.ref 89), some (.int (nI k)), some (.int (nI 2))] [.int (nI 1), .ref 89] σ Q
    refine e_if_ne 40 dX10_order_33 (by decide) (fun _ => ?_) (fun c => absurd c (by decide))
    refine e_iconst (nI 0) dX10_order_40 (by decide) ?_
    refine e_iconst (nI 2) dX10_order_41 (by decide) ?_
    refine e_callV (k := 89) [.int (nI 0), .int (nI 2)] dX10_order_42 cc_X10_bad lk_RX10_148 im_X10_bad se_X10_bad (by decide) (Ms.s 89 rfl) (Ms.n (by decide)) rfl (Nat.le_of_ble_eq_true rfl) (Nat.le_of_ble_eq_true rfl) ?_
    refine t_X10_bad0 Ms hz (by decide) (fK_i ?_)
    show fEv g _ mX10_order 45 [some (.ref 89), some (.int (nI k)), some (.int (nI 2))] [.int (nI 0)] σ Q
    refine e_if_eq 50 dX10_order_45 (by decide) (fun _ => ?_) (fun c => absurd c (by decide))
    refine e_iload_n dX10_order_50 rfl rfl ?_
    refine e_iconst (nI 5) dX10_order_51 (by decide) ?_
    refine e_icmp_ge 66 dX10_order_52 (by decide) (fun c => absurd c (by decide)) (fun _ => ?_)
    refine e_aload_n dX10_order_55 rfl rfl ?_
    refine e_getR (q := 140) dX10_order_56 fl_RX10_40 (Ms.s 89 rfl) (Ms.n (by decide)) rfl (Ms.r 89 16 rfl) (by unfold fscr; omega) ?_
    refine e_iload_n dX10_order_59 rfl rfl ?_
    refine e_aaload (q := 141 + k) k dX10_order_60 (Ms.s 140 rfl) (by decide) (Ms.n (by decide)) rfl (by omega) (by decide) (Ms.r 140 _ (frf_order _ (by omega))) (by unfold fscr; omega) ?_
    refine e_iload_n dX10_order_61 rfl rfl ?_
    refine e_iaload 2 dX10_order_62 (Ms.s _ (fsh_order _ (by omega))) (Ms.n (by omega)) rfl (by omega) (by decide) ?_
    refine e_int (nI (dO D k 2)) (Mr.order k (by omega) 2 (by omega)) ?_
    refine e_goto 76 dX10_order_63 (by decide) ?_
    exact e_ireturn .int dX10_order_76 rfl rfl (h σ fSm.rfl' Ir hz)
  · show fEv g (d + 2) mX10_order 5 [some (.ref 89), some (.int (nI k)), some (.int (nI 3))] [] σ Q
    refine e_aload_n dX10_order_5 rfl rfl ?_
    refine e_aload_n dX10_order_6 rfl rfl ?_
    refine e_iload_n dX10_order_7 rfl rfl ?_
    refine e_callV (k := 89) [.int (nI k)] dX10_order_8 cc_X10_isOrder lk_RX10_186 im_X10_isOrder se_X10_isOrder (by decide) (Ms.s 89 rfl) (Ms.n (by decide)) rfl (Nat.le_of_ble_eq_true rfl) (Nat.le_of_ble_eq_true rfl) ?_
    refine t_X10_isOrderT Ms Mr hD hk (fK_i ?_)
    show fEv g _ mX10_order 11 [some (.ref 89), some (.int (nI k)), some (.int (nI 3))] [.int (nI 1), .ref 89] σ Q
    refine e_if_ne 18 dX10_order_11 (by decide) (fun _ => ?_) (fun c => absurd c (by decide))
    refine e_iconst (nI 0) dX10_order_18 (by decide) ?_
    refine e_iconst (nI 1) dX10_order_19 (by decide) ?_
    refine e_callV (k := 89) [.int (nI 0), .int (nI 1)] dX10_order_20 cc_X10_bad lk_RX10_148 im_X10_bad se_X10_bad (by decide) (Ms.s 89 rfl) (Ms.n (by decide)) rfl (Nat.le_of_ble_eq_true rfl) (Nat.le_of_ble_eq_true rfl) ?_
    refine t_X10_bad0 Ms hz (by decide) (fK_i ?_)
    show fEv g _ mX10_order 23 [some (.ref 89), some (.int (nI k)), some (.int (nI 3))] [.int (nI 0)] σ Q
    refine e_if_ne 48 dX10_order_23 (by decide) (fun c => absurd c (by decide)) (fun _ => ?_)
    refine e_aload_n dX10_order_26 rfl rfl ?_
    refine e_iload_n dX10_order_27 rfl rfl ?_
    refine e_iconst (nI 0) dX10_order_28 (by decide) ?_
    refine e_iconst (nI 5) dX10_order_29 (by decide) ?_
    refine e_callS [.int (nI 3), .int (nI 0), .int (nI 5)] dX10_order_30 cc_X10_in lk_RX10_110 st_X10_in in_RX10 rfl (Nat.le_of_ble_eq_true rfl) (Nat.le_of_ble_eq_true rfl) ?_
    refine t_X10_inT ⟨(nI_le' (by omega) (by omega)).mpr (by omega), (nI_le' (by omega) (by omega)).mpr (by omega)⟩ (fK_i ?_)
    show fEv g _ mX10_order 33 [some (.ref 89), some (.int (nI k)), some (.int (nI 3))] [.int (nI 1), .ref 89] σ Q
    refine e_if_ne 40 dX10_order_33 (by decide) (fun _ => ?_) (fun c => absurd c (by decide))
    refine e_iconst (nI 0) dX10_order_40 (by decide) ?_
    refine e_iconst (nI 2) dX10_order_41 (by decide) ?_
    refine e_callV (k := 89) [.int (nI 0), .int (nI 2)] dX10_order_42 cc_X10_bad lk_RX10_148 im_X10_bad se_X10_bad (by decide) (Ms.s 89 rfl) (Ms.n (by decide)) rfl (Nat.le_of_ble_eq_true rfl) (Nat.le_of_ble_eq_true rfl) ?_
    refine t_X10_bad0 Ms hz (by decide) (fK_i ?_)
    show fEv g _ mX10_order 45 [some (.ref 89), some (.int (nI k)), some (.int (nI 3))] [.int (nI 0)] σ Q
    refine e_if_eq 50 dX10_order_45 (by decide) (fun _ => ?_) (fun c => absurd c (by decide))
    refine e_iload_n dX10_order_50 rfl rfl ?_
    refine e_iconst (nI 5) dX10_order_51 (by decide) ?_
    refine e_icmp_ge 66 dX10_order_52 (by decide) (fun c => absurd c (by decide)) (fun _ => ?_)
    refine e_aload_n dX10_order_55 rfl rfl ?_
    refine e_getR (q := 140) dX10_order_56 fl_RX10_40 (Ms.s 89 rfl) (Ms.n (by decide)) rfl (Ms.r 89 16 rfl) (by unfold fscr; omega) ?_
    refine e_iload_n dX10_order_59 rfl rfl ?_
    refine e_aaload (q := 141 + k) k dX10_order_60 (Ms.s 140 rfl) (by decide) (Ms.n (by decide)) rfl (by omega) (by decide) (Ms.r 140 _ (frf_order _ (by omega))) (by unfold fscr; omega) ?_
    refine e_iload_n dX10_order_61 rfl rfl ?_
    refine e_iaload 3 dX10_order_62 (Ms.s _ (fsh_order _ (by omega))) (Ms.n (by omega)) rfl (by omega) (by decide) ?_
    refine e_int (nI (dO D k 3)) (Mr.order k (by omega) 3 (by omega)) ?_
    refine e_goto 76 dX10_order_63 (by decide) ?_
    exact e_ireturn .int dX10_order_76 rfl rfl (h σ fSm.rfl' Ir hz)
  · show fEv g (d + 2) mX10_order 5 [some (.ref 89), some (.int (nI k)), some (.int (nI 4))] [] σ Q
    refine e_aload_n dX10_order_5 rfl rfl ?_
    refine e_aload_n dX10_order_6 rfl rfl ?_
    refine e_iload_n dX10_order_7 rfl rfl ?_
    refine e_callV (k := 89) [.int (nI k)] dX10_order_8 cc_X10_isOrder lk_RX10_186 im_X10_isOrder se_X10_isOrder (by decide) (Ms.s 89 rfl) (Ms.n (by decide)) rfl (Nat.le_of_ble_eq_true rfl) (Nat.le_of_ble_eq_true rfl) ?_
    refine t_X10_isOrderT Ms Mr hD hk (fK_i ?_)
    show fEv g _ mX10_order 11 [some (.ref 89), some (.int (nI k)), some (.int (nI 4))] [.int (nI 1), .ref 89] σ Q
    refine e_if_ne 18 dX10_order_11 (by decide) (fun _ => ?_) (fun c => absurd c (by decide))
    refine e_iconst (nI 0) dX10_order_18 (by decide) ?_
    refine e_iconst (nI 1) dX10_order_19 (by decide) ?_
    refine e_callV (k := 89) [.int (nI 0), .int (nI 1)] dX10_order_20 cc_X10_bad lk_RX10_148 im_X10_bad se_X10_bad (by decide) (Ms.s 89 rfl) (Ms.n (by decide)) rfl (Nat.le_of_ble_eq_true rfl) (Nat.le_of_ble_eq_true rfl) ?_
    refine t_X10_bad0 Ms hz (by decide) (fK_i ?_)
    show fEv g _ mX10_order 23 [some (.ref 89), some (.int (nI k)), some (.int (nI 4))] [.int (nI 0)] σ Q
    refine e_if_ne 48 dX10_order_23 (by decide) (fun c => absurd c (by decide)) (fun _ => ?_)
    refine e_aload_n dX10_order_26 rfl rfl ?_
    refine e_iload_n dX10_order_27 rfl rfl ?_
    refine e_iconst (nI 0) dX10_order_28 (by decide) ?_
    refine e_iconst (nI 5) dX10_order_29 (by decide) ?_
    refine e_callS [.int (nI 4), .int (nI 0), .int (nI 5)] dX10_order_30 cc_X10_in lk_RX10_110 st_X10_in in_RX10 rfl (Nat.le_of_ble_eq_true rfl) (Nat.le_of_ble_eq_true rfl) ?_
    refine t_X10_inT ⟨(nI_le' (by omega) (by omega)).mpr (by omega), (nI_le' (by omega) (by omega)).mpr (by omega)⟩ (fK_i ?_)
    show fEv g _ mX10_order 33 [some (.ref 89), some (.int (nI k)), some (.int (nI 4))] [.int (nI 1), .ref 89] σ Q
    refine e_if_ne 40 dX10_order_33 (by decide) (fun _ => ?_) (fun c => absurd c (by decide))
    refine e_iconst (nI 0) dX10_order_40 (by decide) ?_
    refine e_iconst (nI 2) dX10_order_41 (by decide) ?_
    refine e_callV (k := 89) [.int (nI 0), .int (nI 2)] dX10_order_42 cc_X10_bad lk_RX10_148 im_X10_bad se_X10_bad (by decide) (Ms.s 89 rfl) (Ms.n (by decide)) rfl (Nat.le_of_ble_eq_true rfl) (Nat.le_of_ble_eq_true rfl) ?_
    refine t_X10_bad0 Ms hz (by decide) (fK_i ?_)
    show fEv g _ mX10_order 45 [some (.ref 89), some (.int (nI k)), some (.int (nI 4))] [.int (nI 0)] σ Q
    refine e_if_eq 50 dX10_order_45 (by decide) (fun _ => ?_) (fun c => absurd c (by decide))
    refine e_iload_n dX10_order_50 rfl rfl ?_
    refine e_iconst (nI 5) dX10_order_51 (by decide) ?_
    refine e_icmp_ge 66 dX10_order_52 (by decide) (fun c => absurd c (by decide)) (fun _ => ?_)
    refine e_aload_n dX10_order_55 rfl rfl ?_
    refine e_getR (q := 140) dX10_order_56 fl_RX10_40 (Ms.s 89 rfl) (Ms.n (by decide)) rfl (Ms.r 89 16 rfl) (by unfold fscr; omega) ?_
    refine e_iload_n dX10_order_59 rfl rfl ?_
    refine e_aaload (q := 141 + k) k dX10_order_60 (Ms.s 140 rfl) (by decide) (Ms.n (by decide)) rfl (by omega) (by decide) (Ms.r 140 _ (frf_order _ (by omega))) (by unfold fscr; omega) ?_
    refine e_iload_n dX10_order_61 rfl rfl ?_
    refine e_iaload 4 dX10_order_62 (Ms.s _ (fsh_order _ (by omega))) (Ms.n (by omega)) rfl (by omega) (by decide) ?_
    refine e_int (nI (dO D k 4)) (Mr.order k (by omega) 4 (by omega)) ?_
    refine e_goto 76 dX10_order_63 (by decide) ?_
    exact e_ireturn .int dX10_order_76 rfl rfl (h σ fSm.rfl' Ir hz)
  · show fEv g (d + 2) mX10_order 5 [some (.ref 89), some (.int (nI k)), some (.int (nI 5))] [] σ Q
    refine e_aload_n dX10_order_5 rfl rfl ?_
    refine e_aload_n dX10_order_6 rfl rfl ?_
    refine e_iload_n dX10_order_7 rfl rfl ?_
    refine e_callV (k := 89) [.int (nI k)] dX10_order_8 cc_X10_isOrder lk_RX10_186 im_X10_isOrder se_X10_isOrder (by decide) (Ms.s 89 rfl) (Ms.n (by decide)) rfl (Nat.le_of_ble_eq_true rfl) (Nat.le_of_ble_eq_true rfl) ?_
    refine t_X10_isOrderT Ms Mr hD hk (fK_i ?_)
    show fEv g _ mX10_order 11 [some (.ref 89), some (.int (nI k)), some (.int (nI 5))] [.int (nI 1), .ref 89] σ Q
    refine e_if_ne 18 dX10_order_11 (by decide) (fun _ => ?_) (fun c => absurd c (by decide))
    refine e_iconst (nI 0) dX10_order_18 (by decide) ?_
    refine e_iconst (nI 1) dX10_order_19 (by decide) ?_
    refine e_callV (k := 89) [.int (nI 0), .int (nI 1)] dX10_order_20 cc_X10_bad lk_RX10_148 im_X10_bad se_X10_bad (by decide) (Ms.s 89 rfl) (Ms.n (by decide)) rfl (Nat.le_of_ble_eq_true rfl) (Nat.le_of_ble_eq_true rfl) ?_
    refine t_X10_bad0 Ms hz (by decide) (fK_i ?_)
    show fEv g _ mX10_order 23 [some (.ref 89), some (.int (nI k)), some (.int (nI 5))] [.int (nI 0)] σ Q
    refine e_if_ne 48 dX10_order_23 (by decide) (fun c => absurd c (by decide)) (fun _ => ?_)
    refine e_aload_n dX10_order_26 rfl rfl ?_
    refine e_iload_n dX10_order_27 rfl rfl ?_
    refine e_iconst (nI 0) dX10_order_28 (by decide) ?_
    refine e_iconst (nI 5) dX10_order_29 (by decide) ?_
    refine e_callS [.int (nI 5), .int (nI 0), .int (nI 5)] dX10_order_30 cc_X10_in lk_RX10_110 st_X10_in in_RX10 rfl (Nat.le_of_ble_eq_true rfl) (Nat.le_of_ble_eq_true rfl) ?_
    refine t_X10_inT ⟨(nI_le' (by omega) (by omega)).mpr (by omega), (nI_le' (by omega) (by omega)).mpr (by omega)⟩ (fK_i ?_)
    show fEv g _ mX10_order 33 [some (.ref 89), some (.int (nI k)), some (.int (nI 5))] [.int (nI 1), .ref 89] σ Q
    refine e_if_ne 40 dX10_order_33 (by decide) (fun _ => ?_) (fun c => absurd c (by decide))
    refine e_iconst (nI 0) dX10_order_40 (by decide) ?_
    refine e_iconst (nI 2) dX10_order_41 (by decide) ?_
    refine e_callV (k := 89) [.int (nI 0), .int (nI 2)] dX10_order_42 cc_X10_bad lk_RX10_148 im_X10_bad se_X10_bad (by decide) (Ms.s 89 rfl) (Ms.n (by decide)) rfl (Nat.le_of_ble_eq_true rfl) (Nat.le_of_ble_eq_true rfl) ?_
    refine t_X10_bad0 Ms hz (by decide) (fK_i ?_)
    show fEv g _ mX10_order 45 [some (.ref 89), some (.int (nI k)), some (.int (nI 5))] [.int (nI 0)] σ Q
    refine e_if_eq 50 dX10_order_45 (by decide) (fun _ => ?_) (fun c => absurd c (by decide))
    refine e_iload_n dX10_order_50 rfl rfl ?_
    refine e_iconst (nI 5) dX10_order_51 (by decide) ?_
    refine e_icmp_ge 66 dX10_order_52 (by decide) (fun _ => ?_) (fun c => absurd c (by decide))
    refine e_aload_n dX10_order_66 rfl rfl ?_
    refine e_getR (q := 197) dX10_order_67 fl_RX10_49 (Ms.s 89 rfl) (Ms.n (by decide)) rfl (Ms.r 89 19 rfl) (by unfold fscr; omega) ?_
    refine e_sipush (nI 145) dX10_order_70 (by decide) ?_
    refine e_iload_n dX10_order_73 rfl rfl ?_
    refine e_iadd dX10_order_74 ?_
    refine e_int (nI (145 + k)) (nI_add 145 k) ?_
    refine e_iaload (145 + k) dX10_order_75 (Ms.s 197 rfl) (Ms.n (by decide)) rfl (by omega) (by decide) ?_
    refine e_int (nI (S (145 + k))) (Mr.s (145 + k) (by omega)) ?_
    exact e_ireturn .int dX10_order_76 rfl rfl (h σ fSm.rfl' Ir hz)
set_option maxRecDepth 20000 in
theorem t_X10_order {g : fGP} {d : Nat} {σ : fAH} {Q : fRes → fAH → Prop} {x : fXS} {k w : Nat}  (Ms : fMs g σ) (ok : fOK x) (Ir : fIr σ x) (hk : k < dT (xD x) 2) (hw : w < 6) (h : ∀ σ', fSm fRfA σ σ' → fIr σ' x → fI σ' 89 0 = nI 0 → Q (.inl (some (.int (vOrd (xD x) (iS (xI x)) k w)))) σ') : fEv g (d + 2) mX10_order 0 (fent [.ref 89, .int (nI k), .int (nI w)] 3) [] σ Q := by
  have S9 : fSm (fun a => a = 89) σ (fsI σ 89 0 (nI 0)) := fSm_I rfl
  show fEv g (d + 2) mX10_order 0 [some (.ref 89), some (.int (nI k)), some (.int (nI w))] [] σ Q
  refine e_aload_n dX10_order_0 rfl rfl ?_
  refine e_iconst (nI 0) dX10_order_1 (by decide) ?_
  refine e_putI dX10_order_2 fl_RX10_76 (Ms.s 89 rfl) (Ms.n (by decide)) rfl rfl ?_
  exact lp_X10_order (Ms.sm S9) ok (Ir.f0 ok S9 (fun a (q : a = 89) => Or.inl (by omega)) (fun j hj => by simp only [List.mem_cons, List.not_mem_nil, or_false] at hj; rw [fI_I, if_neg (by omega)])) (by rw [fI_I, if_pos ⟨rfl, rfl⟩]) hk hw (fun σ' Sm' => h σ' ((S9.to (fun a (q : a = 89) => by unfold fRfA; omega)).tr Sm'))
set_option maxRecDepth 20000 in
theorem lp_X10_orderE1 {g : fGP} {d : Nat} {σ : fAH} {Q : fRes → fAH → Prop} {x : fXS} {a b : Int32}  (Ms : fMs g σ) (ok : fOK x) (Ir : fIr σ x) (hz : fI σ 89 0 = nI 0) (hv : ¬ (nI 0 ≤ a ∧ a < nI (dT (xD x) 2))) (h : ∀ σ', fSm fRfA σ σ' → fIr σ' x → fI σ' 89 0 = nI 1 → Q (.inl (some (.int (nI 0)))) σ') : fEv g (d + 2) mX10_order 5 [some (.ref 89), some (.int a), some (.int b)] [] σ Q := by
  obtain ⟨D, ⟨S, T, sd, pn, P, rn, R⟩, B, tp, pl, im, Im⟩ := x
  have hD : fWD D := ok.1
  have hW : fWS D S := ok.2.1.1
  have hC : fWC D S := ok.2.1.2.1
  have hN : fWN S 0 0 := ok.2.1.2.2.1
  have Mr : fMr σ D S sd := Ir.1
  have Mt : fMt σ S T := Ir.2.1
  obtain ⟨t0, t1, t2, t3, t4, t5, t6⟩ := id hD.1
  have np := hW.n hD
  have n5 := hW.2.2.2.2
  have tp6 : tp ≤ 600 := ok.2.2.2.1
  have im3 : im ≤ 3 := ok.2.2.2.2.1
  have pn3 : pn ≤ 30 := ok.2.1.2.2.2.1
  have rn6 : rn ≤ 60 := ok.2.1.2.2.2.2.2.1
  have Rc : fRc σ (S, T, sd, pn, P, rn, R) := Ir.2.2.2.2.1
  have w52 := hW.1
  show fEv g (d + 2) mX10_order 5 [some (.ref 89), some (.int a), some (.int b)] [] σ Q
  refine e_aload_n dX10_order_5 rfl rfl ?_
  refine e_aload_n dX10_order_6 rfl rfl ?_
  refine e_iload_n dX10_order_7 rfl rfl ?_
  refine e_callV (k := 89) [.int a] dX10_order_8 cc_X10_isOrder lk_RX10_186 im_X10_isOrder se_X10_isOrder (by decide) (Ms.s 89 rfl) (Ms.n (by decide)) rfl (Nat.le_of_ble_eq_true rfl) (Nat.le_of_ble_eq_true rfl) ?_
  refine t_X10_isOrderF Ms Mr hD hv (fK_i ?_)
  show fEv g _ mX10_order 11 [some (.ref 89), some (.int a), some (.int b)] [.int (nI 0), .ref 89] σ Q
  refine e_if_ne 18 dX10_order_11 (by decide) (fun c => absurd c (by decide)) (fun _ => ?_)
  refine e_iconst (nI 1) dX10_order_14 (by decide) ?_
  refine e_goto 19 dX10_order_15 (by decide) ?_
  refine e_iconst (nI 1) dX10_order_19 (by decide) ?_
  refine e_callV (k := 89) [.int (nI 1), .int (nI 1)] dX10_order_20 cc_X10_bad lk_RX10_148 im_X10_bad se_X10_bad (by decide) (Ms.s 89 rfl) (Ms.n (by decide)) rfl (Nat.le_of_ble_eq_true rfl) (Nat.le_of_ble_eq_true rfl) ?_
  refine t_X10_bad1 Ms hz (by decide) (fK_i ?_)
  show fEv g _ mX10_order 23 [some (.ref 89), some (.int a), some (.int b)] [.int (nI 1)] (fsI σ 89 0 (nI 1)) Q
  refine e_if_ne 48 dX10_order_23 (by decide) (fun _ => ?_) (fun c => absurd c (by decide))
  refine e_iconst (nI 0) dX10_order_48 (by decide) ?_
  exact e_ireturn .int dX10_order_49 rfl rfl (h _ (fSm_I (by unfold fRfA; omega)) (Ir.f0 ok (A := fun a => a = 89) (fSm_I rfl) (fun a (q : a = 89) => Or.inl (by omega)) (fun j hj => by simp only [List.mem_cons, List.not_mem_nil, or_false] at hj; rw [fI_I, if_neg (by omega)])) (by rw [fI_I, if_pos ⟨rfl, rfl⟩]))
set_option maxRecDepth 20000 in
theorem t_X10_orderE1 {g : fGP} {d : Nat} {σ : fAH} {Q : fRes → fAH → Prop} {x : fXS} {a b : Int32}  (Ms : fMs g σ) (ok : fOK x) (Ir : fIr σ x) (hv : ¬ (nI 0 ≤ a ∧ a < nI (dT (xD x) 2))) (h : ∀ σ', fSm fRfA σ σ' → fIr σ' x → fI σ' 89 0 = nI 1 → Q (.inl (some (.int (nI 0)))) σ') : fEv g (d + 2) mX10_order 0 (fent [.ref 89, .int a, .int b] 3) [] σ Q := by
  have S9 : fSm (fun a => a = 89) σ (fsI σ 89 0 (nI 0)) := fSm_I rfl
  show fEv g (d + 2) mX10_order 0 [some (.ref 89), some (.int a), some (.int b)] [] σ Q
  refine e_aload_n dX10_order_0 rfl rfl ?_
  refine e_iconst (nI 0) dX10_order_1 (by decide) ?_
  refine e_putI dX10_order_2 fl_RX10_76 (Ms.s 89 rfl) (Ms.n (by decide)) rfl rfl ?_
  exact lp_X10_orderE1 (Ms.sm S9) ok (Ir.f0 ok S9 (fun a (q : a = 89) => Or.inl (by omega)) (fun j hj => by simp only [List.mem_cons, List.not_mem_nil, or_false] at hj; rw [fI_I, if_neg (by omega)])) (by rw [fI_I, if_pos ⟨rfl, rfl⟩]) hv (fun σ' Sm' => h σ' ((S9.to (fun a (q : a = 89) => by unfold fRfA; omega)).tr Sm'))
set_option maxRecDepth 20000 in
theorem lp_X10_orderE2 {g : fGP} {d : Nat} {σ : fAH} {Q : fRes → fAH → Prop} {x : fXS} {k : Nat} {b : Int32}  (Ms : fMs g σ) (ok : fOK x) (Ir : fIr σ x) (hz : fI σ 89 0 = nI 0) (hk : k < dT (xD x) 2) (hv : ¬ (nI 0 ≤ b ∧ b ≤ nI 5)) (h : ∀ σ', fSm fRfA σ σ' → fIr σ' x → fI σ' 89 0 = nI 2 → Q (.inl (some (.int (nI 0)))) σ') : fEv g (d + 2) mX10_order 5 [some (.ref 89), some (.int (nI k)), some (.int b)] [] σ Q := by
  obtain ⟨D, ⟨S, T, sd, pn, P, rn, R⟩, B, tp, pl, im, Im⟩ := x
  have hD : fWD D := ok.1
  have hW : fWS D S := ok.2.1.1
  have hC : fWC D S := ok.2.1.2.1
  have hN : fWN S 0 0 := ok.2.1.2.2.1
  have Mr : fMr σ D S sd := Ir.1
  have Mt : fMt σ S T := Ir.2.1
  obtain ⟨t0, t1, t2, t3, t4, t5, t6⟩ := id hD.1
  have np := hW.n hD
  have n5 := hW.2.2.2.2
  have tp6 : tp ≤ 600 := ok.2.2.2.1
  have im3 : im ≤ 3 := ok.2.2.2.2.1
  have pn3 : pn ≤ 30 := ok.2.1.2.2.2.1
  have rn6 : rn ≤ 60 := ok.2.1.2.2.2.2.2.1
  have Rc : fRc σ (S, T, sd, pn, P, rn, R) := Ir.2.2.2.2.1
  have w52 := hW.1
  show fEv g (d + 2) mX10_order 5 [some (.ref 89), some (.int (nI k)), some (.int b)] [] σ Q
  refine e_aload_n dX10_order_5 rfl rfl ?_
  refine e_aload_n dX10_order_6 rfl rfl ?_
  refine e_iload_n dX10_order_7 rfl rfl ?_
  refine e_callV (k := 89) [.int (nI k)] dX10_order_8 cc_X10_isOrder lk_RX10_186 im_X10_isOrder se_X10_isOrder (by decide) (Ms.s 89 rfl) (Ms.n (by decide)) rfl (Nat.le_of_ble_eq_true rfl) (Nat.le_of_ble_eq_true rfl) ?_
  refine t_X10_isOrderT Ms Mr hD hk (fK_i ?_)
  show fEv g _ mX10_order 11 [some (.ref 89), some (.int (nI k)), some (.int b)] [.int (nI 1), .ref 89] σ Q
  refine e_if_ne 18 dX10_order_11 (by decide) (fun _ => ?_) (fun c => absurd c (by decide))
  refine e_iconst (nI 0) dX10_order_18 (by decide) ?_
  refine e_iconst (nI 1) dX10_order_19 (by decide) ?_
  refine e_callV (k := 89) [.int (nI 0), .int (nI 1)] dX10_order_20 cc_X10_bad lk_RX10_148 im_X10_bad se_X10_bad (by decide) (Ms.s 89 rfl) (Ms.n (by decide)) rfl (Nat.le_of_ble_eq_true rfl) (Nat.le_of_ble_eq_true rfl) ?_
  refine t_X10_bad0 Ms hz (by decide) (fK_i ?_)
  show fEv g _ mX10_order 23 [some (.ref 89), some (.int (nI k)), some (.int b)] [.int (nI 0)] σ Q
  refine e_if_ne 48 dX10_order_23 (by decide) (fun c => absurd c (by decide)) (fun _ => ?_)
  refine e_aload_n dX10_order_26 rfl rfl ?_
  refine e_iload_n dX10_order_27 rfl rfl ?_
  refine e_iconst (nI 0) dX10_order_28 (by decide) ?_
  refine e_iconst (nI 5) dX10_order_29 (by decide) ?_
  refine e_callS [.int b, .int (nI 0), .int (nI 5)] dX10_order_30 cc_X10_in lk_RX10_110 st_X10_in in_RX10 rfl (Nat.le_of_ble_eq_true rfl) (Nat.le_of_ble_eq_true rfl) ?_
  refine t_X10_inF hv (fK_i ?_)
  show fEv g _ mX10_order 33 [some (.ref 89), some (.int (nI k)), some (.int b)] [.int (nI 0), .ref 89] σ Q
  refine e_if_ne 40 dX10_order_33 (by decide) (fun c => absurd c (by decide)) (fun _ => ?_)
  refine e_iconst (nI 1) dX10_order_36 (by decide) ?_
  refine e_goto 41 dX10_order_37 (by decide) ?_
  refine e_iconst (nI 2) dX10_order_41 (by decide) ?_
  refine e_callV (k := 89) [.int (nI 1), .int (nI 2)] dX10_order_42 cc_X10_bad lk_RX10_148 im_X10_bad se_X10_bad (by decide) (Ms.s 89 rfl) (Ms.n (by decide)) rfl (Nat.le_of_ble_eq_true rfl) (Nat.le_of_ble_eq_true rfl) ?_
  refine t_X10_bad1 Ms hz (by decide) (fK_i ?_)
  show fEv g _ mX10_order 45 [some (.ref 89), some (.int (nI k)), some (.int b)] [.int (nI 1)] (fsI σ 89 0 (nI 2)) Q
  refine e_if_eq 50 dX10_order_45 (by decide) (fun c => absurd c (by decide)) (fun _ => ?_)
  refine e_iconst (nI 0) dX10_order_48 (by decide) ?_
  exact e_ireturn .int dX10_order_49 rfl rfl (h _ (fSm_I (by unfold fRfA; omega)) (Ir.f0 ok (A := fun a => a = 89) (fSm_I rfl) (fun a (q : a = 89) => Or.inl (by omega)) (fun j hj => by simp only [List.mem_cons, List.not_mem_nil, or_false] at hj; rw [fI_I, if_neg (by omega)])) (by rw [fI_I, if_pos ⟨rfl, rfl⟩]))
set_option maxRecDepth 20000 in
theorem t_X10_orderE2 {g : fGP} {d : Nat} {σ : fAH} {Q : fRes → fAH → Prop} {x : fXS} {k : Nat} {b : Int32}  (Ms : fMs g σ) (ok : fOK x) (Ir : fIr σ x) (hk : k < dT (xD x) 2) (hv : ¬ (nI 0 ≤ b ∧ b ≤ nI 5)) (h : ∀ σ', fSm fRfA σ σ' → fIr σ' x → fI σ' 89 0 = nI 2 → Q (.inl (some (.int (nI 0)))) σ') : fEv g (d + 2) mX10_order 0 (fent [.ref 89, .int (nI k), .int b] 3) [] σ Q := by
  have S9 : fSm (fun a => a = 89) σ (fsI σ 89 0 (nI 0)) := fSm_I rfl
  show fEv g (d + 2) mX10_order 0 [some (.ref 89), some (.int (nI k)), some (.int b)] [] σ Q
  refine e_aload_n dX10_order_0 rfl rfl ?_
  refine e_iconst (nI 0) dX10_order_1 (by decide) ?_
  refine e_putI dX10_order_2 fl_RX10_76 (Ms.s 89 rfl) (Ms.n (by decide)) rfl rfl ?_
  exact lp_X10_orderE2 (Ms.sm S9) ok (Ir.f0 ok S9 (fun a (q : a = 89) => Or.inl (by omega)) (fun j hj => by simp only [List.mem_cons, List.not_mem_nil, or_false] at hj; rw [fI_I, if_neg (by omega)])) (by rw [fI_I, if_pos ⟨rfl, rfl⟩]) hk hv (fun σ' Sm' => h σ' ((S9.to (fun a (q : a = 89) => by unfold fRfA; omega)).tr Sm'))
set_option maxRecDepth 20000 in
theorem lp_X10_piece {g : fGP} {d : Nat} {σ : fAH} {Q : fRes → fAH → Prop} {x : fXS} {k w : Nat}  (Ms : fMs g σ) (ok : fOK x) (Ir : fIr σ x) (hz : fI σ 89 0 = nI 0) (hk : k < (iS (xI x)) 120) (hw : w < 6) (h : ∀ σ', fSm fRfA σ σ' → fIr σ' x → fI σ' 89 0 = nI 0 → Q (.inl (some (.int (nI ((iS (xI x)) (k * 6 + w)))))) σ') : fEv g (d + 1) mX10_piece 5 [some (.ref 89), some (.int (nI k)), some (.int (nI w))] [] σ Q := by
  obtain ⟨D, ⟨S, T, sd, pn, P, rn, R⟩, B, tp, pl, im, Im⟩ := x
  have hD : fWD D := ok.1
  have hW : fWS D S := ok.2.1.1
  have hC : fWC D S := ok.2.1.2.1
  have hN : fWN S 0 0 := ok.2.1.2.2.1
  have Mr : fMr σ D S sd := Ir.1
  have Mt : fMt σ S T := Ir.2.1
  obtain ⟨t0, t1, t2, t3, t4, t5, t6⟩ := id hD.1
  have np := hW.n hD
  have n5 := hW.2.2.2.2
  have tp6 : tp ≤ 600 := ok.2.2.2.1
  have im3 : im ≤ 3 := ok.2.2.2.2.1
  have pn3 : pn ≤ 30 := ok.2.1.2.2.2.1
  have rn6 : rn ≤ 60 := ok.2.1.2.2.2.2.2.1
  have Rc : fRc σ (S, T, sd, pn, P, rn, R) := Ir.2.2.2.2.1
  have w52 := hW.1
  have hk : k < S 120 := hk
  show fEv g (d + 1) mX10_piece 5 [some (.ref 89), some (.int (nI k)), some (.int (nI w))] [] σ Q
  refine e_aload_n dX10_piece_5 rfl rfl ?_
  refine e_iload_n dX10_piece_6 rfl rfl ?_
  refine e_iconst (nI 0) dX10_piece_7 (by decide) ?_
  refine e_aload_n dX10_piece_8 rfl rfl ?_
  refine e_getR (q := 197) dX10_piece_9 fl_RX10_49 (Ms.s 89 rfl) (Ms.n (by decide)) rfl (Ms.r 89 19 rfl) (by unfold fscr; omega) ?_
  refine e_bipush (nI 120) dX10_piece_12 (by decide) ?_
  refine e_iaload 120 dX10_piece_14 (Ms.s 197 rfl) (Ms.n (by decide)) rfl (by omega) (by decide) ?_
  refine e_int (nI (S 120)) (Mr.s 120 (by omega)) ?_
  refine e_iconst (nI 1) dX10_piece_15 (by decide) ?_
  refine e_isub dX10_piece_16 ?_
  refine e_callS [.int (nI k), .int (nI 0), .int ((nI (S 120)) - (nI 1))] dX10_piece_17 cc_X10_in lk_RX10_110 st_X10_in in_RX10 rfl (Nat.le_of_ble_eq_true rfl) (Nat.le_of_ble_eq_true rfl) ?_
  refine t_X10_inT ⟨(nI_le' (by omega) (by omega)).mpr (by omega), (le_sub1 (by omega)).mpr ((nI_lt' (by omega) (by omega)).mpr (by omega))⟩ (fK_i ?_)
  show fEv g _ mX10_piece 20 [some (.ref 89), some (.int (nI k)), some (.int (nI w))] [.int (nI 1), .ref 89] σ Q
  refine e_if_ne 27 dX10_piece_20 (by decide) (fun _ => ?_) (fun c => absurd c (by decide))
  refine e_iconst (nI 0) dX10_piece_27 (by decide) ?_
  refine e_iconst (nI 1) dX10_piece_28 (by decide) ?_
  refine e_callV (k := 89) [.int (nI 0), .int (nI 1)] dX10_piece_29 cc_X10_bad lk_RX10_148 im_X10_bad se_X10_bad (by decide) (Ms.s 89 rfl) (Ms.n (by decide)) rfl (Nat.le_of_ble_eq_true rfl) (Nat.le_of_ble_eq_true rfl) ?_
  refine t_X10_bad0 Ms hz (by decide) (fK_i ?_)
  show fEv g _ mX10_piece 32 [some (.ref 89), some (.int (nI k)), some (.int (nI w))] [.int (nI 0)] σ Q
  refine e_if_ne 57 dX10_piece_32 (by decide) (fun c => absurd c (by decide)) (fun _ => ?_)
  refine e_aload_n dX10_piece_35 rfl rfl ?_
  refine e_iload_n dX10_piece_36 rfl rfl ?_
  refine e_iconst (nI 0) dX10_piece_37 (by decide) ?_
  refine e_iconst (nI 5) dX10_piece_38 (by decide) ?_
  refine e_callS [.int (nI w), .int (nI 0), .int (nI 5)] dX10_piece_39 cc_X10_in lk_RX10_110 st_X10_in in_RX10 rfl (Nat.le_of_ble_eq_true rfl) (Nat.le_of_ble_eq_true rfl) ?_
  refine t_X10_inT ⟨(nI_le' (by omega) (by omega)).mpr (by omega), (nI_le' (by omega) (by omega)).mpr (by omega)⟩ (fK_i ?_)
  show fEv g _ mX10_piece 42 [some (.ref 89), some (.int (nI k)), some (.int (nI w))] [.int (nI 1), .ref 89] σ Q
  refine e_if_ne 49 dX10_piece_42 (by decide) (fun _ => ?_) (fun c => absurd c (by decide))
  refine e_iconst (nI 0) dX10_piece_49 (by decide) ?_
  refine e_iconst (nI 2) dX10_piece_50 (by decide) ?_
  refine e_callV (k := 89) [.int (nI 0), .int (nI 2)] dX10_piece_51 cc_X10_bad lk_RX10_148 im_X10_bad se_X10_bad (by decide) (Ms.s 89 rfl) (Ms.n (by decide)) rfl (Nat.le_of_ble_eq_true rfl) (Nat.le_of_ble_eq_true rfl) ?_
  refine t_X10_bad0 Ms hz (by decide) (fK_i ?_)
  show fEv g _ mX10_piece 54 [some (.ref 89), some (.int (nI k)), some (.int (nI w))] [.int (nI 0)] σ Q
  refine e_if_eq 59 dX10_piece_54 (by decide) (fun _ => ?_) (fun c => absurd c (by decide))
  refine e_aload_n dX10_piece_59 rfl rfl ?_
  refine e_getR (q := 197) dX10_piece_60 fl_RX10_49 (Ms.s 89 rfl) (Ms.n (by decide)) rfl (Ms.r 89 19 rfl) (by unfold fscr; omega) ?_
  refine e_bipush (nI 6) dX10_piece_63 (by decide) ?_
  refine e_iload_n dX10_piece_65 rfl rfl ?_
  refine e_imul dX10_piece_66 ?_
  refine e_int (nI (k * 6)) ((pk_mul 6 k).trans (by rw [Nat.mul_comm])) ?_
  refine e_iload_n dX10_piece_67 rfl rfl ?_
  refine e_iadd dX10_piece_68 ?_
  refine e_int (nI (k * 6 + w)) (nI_add (k * 6) w) ?_
  refine e_iaload (k * 6 + w) dX10_piece_69 (Ms.s 197 rfl) (Ms.n (by decide)) rfl (by omega) (by decide) ?_
  refine e_int (nI (S (k * 6 + w))) (Mr.s (k * 6 + w) (by omega)) ?_
  exact e_ireturn .int dX10_piece_70 rfl rfl (h σ fSm.rfl' Ir hz)
set_option maxRecDepth 20000 in
theorem t_X10_piece {g : fGP} {d : Nat} {σ : fAH} {Q : fRes → fAH → Prop} {x : fXS} {k w : Nat}  (Ms : fMs g σ) (ok : fOK x) (Ir : fIr σ x) (hk : k < (iS (xI x)) 120) (hw : w < 6) (h : ∀ σ', fSm fRfA σ σ' → fIr σ' x → fI σ' 89 0 = nI 0 → Q (.inl (some (.int (nI ((iS (xI x)) (k * 6 + w)))))) σ') : fEv g (d + 1) mX10_piece 0 (fent [.ref 89, .int (nI k), .int (nI w)] 3) [] σ Q := by
  have S9 : fSm (fun a => a = 89) σ (fsI σ 89 0 (nI 0)) := fSm_I rfl
  show fEv g (d + 1) mX10_piece 0 [some (.ref 89), some (.int (nI k)), some (.int (nI w))] [] σ Q
  refine e_aload_n dX10_piece_0 rfl rfl ?_
  refine e_iconst (nI 0) dX10_piece_1 (by decide) ?_
  refine e_putI dX10_piece_2 fl_RX10_76 (Ms.s 89 rfl) (Ms.n (by decide)) rfl rfl ?_
  exact lp_X10_piece (Ms.sm S9) ok (Ir.f0 ok S9 (fun a (q : a = 89) => Or.inl (by omega)) (fun j hj => by simp only [List.mem_cons, List.not_mem_nil, or_false] at hj; rw [fI_I, if_neg (by omega)])) (by rw [fI_I, if_pos ⟨rfl, rfl⟩]) hk hw (fun σ' Sm' => h σ' ((S9.to (fun a (q : a = 89) => by unfold fRfA; omega)).tr Sm'))
set_option maxRecDepth 20000 in
theorem lp_X10_pieceE1 {g : fGP} {d : Nat} {σ : fAH} {Q : fRes → fAH → Prop} {x : fXS} {a b : Int32}  (Ms : fMs g σ) (ok : fOK x) (Ir : fIr σ x) (hz : fI σ 89 0 = nI 0) (hv : ¬ (nI 0 ≤ a ∧ a < nI ((iS (xI x)) 120))) (h : ∀ σ', fSm fRfA σ σ' → fIr σ' x → fI σ' 89 0 = nI 1 → Q (.inl (some (.int (nI 0)))) σ') : fEv g (d + 1) mX10_piece 5 [some (.ref 89), some (.int a), some (.int b)] [] σ Q := by
  obtain ⟨D, ⟨S, T, sd, pn, P, rn, R⟩, B, tp, pl, im, Im⟩ := x
  have hD : fWD D := ok.1
  have hW : fWS D S := ok.2.1.1
  have hC : fWC D S := ok.2.1.2.1
  have hN : fWN S 0 0 := ok.2.1.2.2.1
  have Mr : fMr σ D S sd := Ir.1
  have Mt : fMt σ S T := Ir.2.1
  obtain ⟨t0, t1, t2, t3, t4, t5, t6⟩ := id hD.1
  have np := hW.n hD
  have n5 := hW.2.2.2.2
  have tp6 : tp ≤ 600 := ok.2.2.2.1
  have im3 : im ≤ 3 := ok.2.2.2.2.1
  have pn3 : pn ≤ 30 := ok.2.1.2.2.2.1
  have rn6 : rn ≤ 60 := ok.2.1.2.2.2.2.2.1
  have Rc : fRc σ (S, T, sd, pn, P, rn, R) := Ir.2.2.2.2.1
  have w52 := hW.1
  show fEv g (d + 1) mX10_piece 5 [some (.ref 89), some (.int a), some (.int b)] [] σ Q
  refine e_aload_n dX10_piece_5 rfl rfl ?_
  refine e_iload_n dX10_piece_6 rfl rfl ?_
  refine e_iconst (nI 0) dX10_piece_7 (by decide) ?_
  refine e_aload_n dX10_piece_8 rfl rfl ?_
  refine e_getR (q := 197) dX10_piece_9 fl_RX10_49 (Ms.s 89 rfl) (Ms.n (by decide)) rfl (Ms.r 89 19 rfl) (by unfold fscr; omega) ?_
  refine e_bipush (nI 120) dX10_piece_12 (by decide) ?_
  refine e_iaload 120 dX10_piece_14 (Ms.s 197 rfl) (Ms.n (by decide)) rfl (by omega) (by decide) ?_
  refine e_int (nI (S 120)) (Mr.s 120 (by omega)) ?_
  refine e_iconst (nI 1) dX10_piece_15 (by decide) ?_
  refine e_isub dX10_piece_16 ?_
  refine e_callS [.int a, .int (nI 0), .int ((nI (S 120)) - (nI 1))] dX10_piece_17 cc_X10_in lk_RX10_110 st_X10_in in_RX10 rfl (Nat.le_of_ble_eq_true rfl) (Nat.le_of_ble_eq_true rfl) ?_
  refine t_X10_inF (fun q => hv ⟨q.1, (le_sub1 (n := S 120) (by omega)).mp q.2⟩) (fK_i ?_)
  show fEv g _ mX10_piece 20 [some (.ref 89), some (.int a), some (.int b)] [.int (nI 0), .ref 89] σ Q
  refine e_if_ne 27 dX10_piece_20 (by decide) (fun c => absurd c (by decide)) (fun _ => ?_)
  refine e_iconst (nI 1) dX10_piece_23 (by decide) ?_
  refine e_goto 28 dX10_piece_24 (by decide) ?_
  refine e_iconst (nI 1) dX10_piece_28 (by decide) ?_
  refine e_callV (k := 89) [.int (nI 1), .int (nI 1)] dX10_piece_29 cc_X10_bad lk_RX10_148 im_X10_bad se_X10_bad (by decide) (Ms.s 89 rfl) (Ms.n (by decide)) rfl (Nat.le_of_ble_eq_true rfl) (Nat.le_of_ble_eq_true rfl) ?_
  refine t_X10_bad1 Ms hz (by decide) (fK_i ?_)
  show fEv g _ mX10_piece 32 [some (.ref 89), some (.int a), some (.int b)] [.int (nI 1)] (fsI σ 89 0 (nI 1)) Q
  refine e_if_ne 57 dX10_piece_32 (by decide) (fun _ => ?_) (fun c => absurd c (by decide))
  refine e_iconst (nI 0) dX10_piece_57 (by decide) ?_
  exact e_ireturn .int dX10_piece_58 rfl rfl (h _ (fSm_I (by unfold fRfA; omega)) (Ir.f0 ok (A := fun a => a = 89) (fSm_I rfl) (fun a (q : a = 89) => Or.inl (by omega)) (fun j hj => by simp only [List.mem_cons, List.not_mem_nil, or_false] at hj; rw [fI_I, if_neg (by omega)])) (by rw [fI_I, if_pos ⟨rfl, rfl⟩]))
set_option maxRecDepth 20000 in
theorem t_X10_pieceE1 {g : fGP} {d : Nat} {σ : fAH} {Q : fRes → fAH → Prop} {x : fXS} {a b : Int32}  (Ms : fMs g σ) (ok : fOK x) (Ir : fIr σ x) (hv : ¬ (nI 0 ≤ a ∧ a < nI ((iS (xI x)) 120))) (h : ∀ σ', fSm fRfA σ σ' → fIr σ' x → fI σ' 89 0 = nI 1 → Q (.inl (some (.int (nI 0)))) σ') : fEv g (d + 1) mX10_piece 0 (fent [.ref 89, .int a, .int b] 3) [] σ Q := by
  have S9 : fSm (fun a => a = 89) σ (fsI σ 89 0 (nI 0)) := fSm_I rfl
  show fEv g (d + 1) mX10_piece 0 [some (.ref 89), some (.int a), some (.int b)] [] σ Q
  refine e_aload_n dX10_piece_0 rfl rfl ?_
  refine e_iconst (nI 0) dX10_piece_1 (by decide) ?_
  refine e_putI dX10_piece_2 fl_RX10_76 (Ms.s 89 rfl) (Ms.n (by decide)) rfl rfl ?_
  exact lp_X10_pieceE1 (Ms.sm S9) ok (Ir.f0 ok S9 (fun a (q : a = 89) => Or.inl (by omega)) (fun j hj => by simp only [List.mem_cons, List.not_mem_nil, or_false] at hj; rw [fI_I, if_neg (by omega)])) (by rw [fI_I, if_pos ⟨rfl, rfl⟩]) hv (fun σ' Sm' => h σ' ((S9.to (fun a (q : a = 89) => by unfold fRfA; omega)).tr Sm'))
set_option maxRecDepth 20000 in
theorem lp_X10_pieceE2 {g : fGP} {d : Nat} {σ : fAH} {Q : fRes → fAH → Prop} {x : fXS} {k : Nat} {b : Int32}  (Ms : fMs g σ) (ok : fOK x) (Ir : fIr σ x) (hz : fI σ 89 0 = nI 0) (hk : k < (iS (xI x)) 120) (hv : ¬ (nI 0 ≤ b ∧ b ≤ nI 5)) (h : ∀ σ', fSm fRfA σ σ' → fIr σ' x → fI σ' 89 0 = nI 2 → Q (.inl (some (.int (nI 0)))) σ') : fEv g (d + 1) mX10_piece 5 [some (.ref 89), some (.int (nI k)), some (.int b)] [] σ Q := by
  obtain ⟨D, ⟨S, T, sd, pn, P, rn, R⟩, B, tp, pl, im, Im⟩ := x
  have hD : fWD D := ok.1
  have hW : fWS D S := ok.2.1.1
  have hC : fWC D S := ok.2.1.2.1
  have hN : fWN S 0 0 := ok.2.1.2.2.1
  have Mr : fMr σ D S sd := Ir.1
  have Mt : fMt σ S T := Ir.2.1
  obtain ⟨t0, t1, t2, t3, t4, t5, t6⟩ := id hD.1
  have np := hW.n hD
  have n5 := hW.2.2.2.2
  have tp6 : tp ≤ 600 := ok.2.2.2.1
  have im3 : im ≤ 3 := ok.2.2.2.2.1
  have pn3 : pn ≤ 30 := ok.2.1.2.2.2.1
  have rn6 : rn ≤ 60 := ok.2.1.2.2.2.2.2.1
  have Rc : fRc σ (S, T, sd, pn, P, rn, R) := Ir.2.2.2.2.1
  have w52 := hW.1
  have hk : k < S 120 := hk
  show fEv g (d + 1) mX10_piece 5 [some (.ref 89), some (.int (nI k)), some (.int b)] [] σ Q
  refine e_aload_n dX10_piece_5 rfl rfl ?_
  refine e_iload_n dX10_piece_6 rfl rfl ?_
  refine e_iconst (nI 0) dX10_piece_7 (by decide) ?_
  refine e_aload_n dX10_piece_8 rfl rfl ?_
  refine e_getR (q := 197) dX10_piece_9 fl_RX10_49 (Ms.s 89 rfl) (Ms.n (by decide)) rfl (Ms.r 89 19 rfl) (by unfold fscr; omega) ?_
  refine e_bipush (nI 120) dX10_piece_12 (by decide) ?_
  refine e_iaload 120 dX10_piece_14 (Ms.s 197 rfl) (Ms.n (by decide)) rfl (by omega) (by decide) ?_
  refine e_int (nI (S 120)) (Mr.s 120 (by omega)) ?_
  refine e_iconst (nI 1) dX10_piece_15 (by decide) ?_
  refine e_isub dX10_piece_16 ?_
  refine e_callS [.int (nI k), .int (nI 0), .int ((nI (S 120)) - (nI 1))] dX10_piece_17 cc_X10_in lk_RX10_110 st_X10_in in_RX10 rfl (Nat.le_of_ble_eq_true rfl) (Nat.le_of_ble_eq_true rfl) ?_
  refine t_X10_inT ⟨(nI_le' (by omega) (by omega)).mpr (by omega), (le_sub1 (by omega)).mpr ((nI_lt' (by omega) (by omega)).mpr (by omega))⟩ (fK_i ?_)
  show fEv g _ mX10_piece 20 [some (.ref 89), some (.int (nI k)), some (.int b)] [.int (nI 1), .ref 89] σ Q
  refine e_if_ne 27 dX10_piece_20 (by decide) (fun _ => ?_) (fun c => absurd c (by decide))
  refine e_iconst (nI 0) dX10_piece_27 (by decide) ?_
  refine e_iconst (nI 1) dX10_piece_28 (by decide) ?_
  refine e_callV (k := 89) [.int (nI 0), .int (nI 1)] dX10_piece_29 cc_X10_bad lk_RX10_148 im_X10_bad se_X10_bad (by decide) (Ms.s 89 rfl) (Ms.n (by decide)) rfl (Nat.le_of_ble_eq_true rfl) (Nat.le_of_ble_eq_true rfl) ?_
  refine t_X10_bad0 Ms hz (by decide) (fK_i ?_)
  show fEv g _ mX10_piece 32 [some (.ref 89), some (.int (nI k)), some (.int b)] [.int (nI 0)] σ Q
  refine e_if_ne 57 dX10_piece_32 (by decide) (fun c => absurd c (by decide)) (fun _ => ?_)
  refine e_aload_n dX10_piece_35 rfl rfl ?_
  refine e_iload_n dX10_piece_36 rfl rfl ?_
  refine e_iconst (nI 0) dX10_piece_37 (by decide) ?_
  refine e_iconst (nI 5) dX10_piece_38 (by decide) ?_
  refine e_callS [.int b, .int (nI 0), .int (nI 5)] dX10_piece_39 cc_X10_in lk_RX10_110 st_X10_in in_RX10 rfl (Nat.le_of_ble_eq_true rfl) (Nat.le_of_ble_eq_true rfl) ?_
  refine t_X10_inF hv (fK_i ?_)
  show fEv g _ mX10_piece 42 [some (.ref 89), some (.int (nI k)), some (.int b)] [.int (nI 0), .ref 89] σ Q
  refine e_if_ne 49 dX10_piece_42 (by decide) (fun c => absurd c (by decide)) (fun _ => ?_)
  refine e_iconst (nI 1) dX10_piece_45 (by decide) ?_
  refine e_goto 50 dX10_piece_46 (by decide) ?_
  refine e_iconst (nI 2) dX10_piece_50 (by decide) ?_
  refine e_callV (k := 89) [.int (nI 1), .int (nI 2)] dX10_piece_51 cc_X10_bad lk_RX10_148 im_X10_bad se_X10_bad (by decide) (Ms.s 89 rfl) (Ms.n (by decide)) rfl (Nat.le_of_ble_eq_true rfl) (Nat.le_of_ble_eq_true rfl) ?_
  refine t_X10_bad1 Ms hz (by decide) (fK_i ?_)
  show fEv g _ mX10_piece 54 [some (.ref 89), some (.int (nI k)), some (.int b)] [.int (nI 1)] (fsI σ 89 0 (nI 2)) Q
  refine e_if_eq 59 dX10_piece_54 (by decide) (fun c => absurd c (by decide)) (fun _ => ?_)
  refine e_iconst (nI 0) dX10_piece_57 (by decide) ?_
  exact e_ireturn .int dX10_piece_58 rfl rfl (h _ (fSm_I (by unfold fRfA; omega)) (Ir.f0 ok (A := fun a => a = 89) (fSm_I rfl) (fun a (q : a = 89) => Or.inl (by omega)) (fun j hj => by simp only [List.mem_cons, List.not_mem_nil, or_false] at hj; rw [fI_I, if_neg (by omega)])) (by rw [fI_I, if_pos ⟨rfl, rfl⟩]))
set_option maxRecDepth 20000 in
theorem t_X10_pieceE2 {g : fGP} {d : Nat} {σ : fAH} {Q : fRes → fAH → Prop} {x : fXS} {k : Nat} {b : Int32}  (Ms : fMs g σ) (ok : fOK x) (Ir : fIr σ x) (hk : k < (iS (xI x)) 120) (hv : ¬ (nI 0 ≤ b ∧ b ≤ nI 5)) (h : ∀ σ', fSm fRfA σ σ' → fIr σ' x → fI σ' 89 0 = nI 2 → Q (.inl (some (.int (nI 0)))) σ') : fEv g (d + 1) mX10_piece 0 (fent [.ref 89, .int (nI k), .int b] 3) [] σ Q := by
  have S9 : fSm (fun a => a = 89) σ (fsI σ 89 0 (nI 0)) := fSm_I rfl
  show fEv g (d + 1) mX10_piece 0 [some (.ref 89), some (.int (nI k)), some (.int b)] [] σ Q
  refine e_aload_n dX10_piece_0 rfl rfl ?_
  refine e_iconst (nI 0) dX10_piece_1 (by decide) ?_
  refine e_putI dX10_piece_2 fl_RX10_76 (Ms.s 89 rfl) (Ms.n (by decide)) rfl rfl ?_
  exact lp_X10_pieceE2 (Ms.sm S9) ok (Ir.f0 ok S9 (fun a (q : a = 89) => Or.inl (by omega)) (fun j hj => by simp only [List.mem_cons, List.not_mem_nil, or_false] at hj; rw [fI_I, if_neg (by omega)])) (by rw [fI_I, if_pos ⟨rfl, rfl⟩]) hk hv (fun σ' Sm' => h σ' ((S9.to (fun a (q : a = 89) => by unfold fRfA; omega)).tr Sm'))
set_option maxRecDepth 20000 in
theorem lp_X10_trace {g : fGP} {d : Nat} {σ : fAH} {Q : fRes → fAH → Prop} {x : fXS} {k w : Nat}  (Ms : fMs g σ) (ok : fOK x) (Ir : fIr σ x) (hz : fI σ 89 0 = nI 0) (hk : k < (iS (xI x)) 152) (hw : w < 4) (h : ∀ σ', fSm fRfA σ σ' → fIr σ' x → fI σ' 89 0 = nI 0 → Q (.inl (some (.int ((iT (xI x)) (k * 4 + w))))) σ') : fEv g (d + 1) mX10_trace 5 [some (.ref 89), some (.int (nI k)), some (.int (nI w))] [] σ Q := by
  obtain ⟨D, ⟨S, T, sd, pn, P, rn, R⟩, B, tp, pl, im, Im⟩ := x
  have hD : fWD D := ok.1
  have hW : fWS D S := ok.2.1.1
  have hC : fWC D S := ok.2.1.2.1
  have hN : fWN S 0 0 := ok.2.1.2.2.1
  have Mr : fMr σ D S sd := Ir.1
  have Mt : fMt σ S T := Ir.2.1
  obtain ⟨t0, t1, t2, t3, t4, t5, t6⟩ := id hD.1
  have np := hW.n hD
  have n5 := hW.2.2.2.2
  have tp6 : tp ≤ 600 := ok.2.2.2.1
  have im3 : im ≤ 3 := ok.2.2.2.2.1
  have pn3 : pn ≤ 30 := ok.2.1.2.2.2.1
  have rn6 : rn ≤ 60 := ok.2.1.2.2.2.2.2.1
  have Rc : fRc σ (S, T, sd, pn, P, rn, R) := Ir.2.2.2.2.1
  have w52 := hW.1
  have hk : k < S 152 := hk
  show fEv g (d + 1) mX10_trace 5 [some (.ref 89), some (.int (nI k)), some (.int (nI w))] [] σ Q
  refine e_aload_n dX10_trace_5 rfl rfl ?_
  refine e_iload_n dX10_trace_6 rfl rfl ?_
  refine e_iconst (nI 0) dX10_trace_7 (by decide) ?_
  refine e_iconst (nI 3) dX10_trace_8 (by decide) ?_
  refine e_callS [.int (nI w), .int (nI 0), .int (nI 3)] dX10_trace_9 cc_X10_in lk_RX10_110 st_X10_in in_RX10 rfl (Nat.le_of_ble_eq_true rfl) (Nat.le_of_ble_eq_true rfl) ?_
  refine t_X10_inT ⟨(nI_le' (by omega) (by omega)).mpr (by omega), (nI_le' (by omega) (by omega)).mpr (by omega)⟩ (fK_i ?_)
  show fEv g _ mX10_trace 12 [some (.ref 89), some (.int (nI k)), some (.int (nI w))] [.int (nI 1), .ref 89] σ Q
  refine e_if_ne 19 dX10_trace_12 (by decide) (fun _ => ?_) (fun c => absurd c (by decide))
  refine e_iconst (nI 0) dX10_trace_19 (by decide) ?_
  refine e_iconst (nI 1) dX10_trace_20 (by decide) ?_
  refine e_callV (k := 89) [.int (nI 0), .int (nI 1)] dX10_trace_21 cc_X10_bad lk_RX10_148 im_X10_bad se_X10_bad (by decide) (Ms.s 89 rfl) (Ms.n (by decide)) rfl (Nat.le_of_ble_eq_true rfl) (Nat.le_of_ble_eq_true rfl) ?_
  refine t_X10_bad0 Ms hz (by decide) (fK_i ?_)
  show fEv g _ mX10_trace 24 [some (.ref 89), some (.int (nI k)), some (.int (nI w))] [.int (nI 0)] σ Q
  refine e_if_eq 29 dX10_trace_24 (by decide) (fun _ => ?_) (fun c => absurd c (by decide))
  refine e_iload_n dX10_trace_29 rfl rfl ?_
  refine e_iconst (nI 0) dX10_trace_30 (by decide) ?_
  refine e_aload_n dX10_trace_31 rfl rfl ?_
  refine e_getR (q := 197) dX10_trace_32 fl_RX10_49 (Ms.s 89 rfl) (Ms.n (by decide)) rfl (Ms.r 89 19 rfl) (by unfold fscr; omega) ?_
  refine e_sipush (nI 152) dX10_trace_35 (by decide) ?_
  refine e_iaload 152 dX10_trace_38 (Ms.s 197 rfl) (Ms.n (by decide)) rfl (by omega) (by decide) ?_
  refine e_int (nI (S 152)) (Mr.s 152 (by omega)) ?_
  refine e_iconst (nI 1) dX10_trace_39 (by decide) ?_
  refine e_isub dX10_trace_40 ?_
  refine e_callS [.int (nI k), .int (nI 0), .int ((nI (S 152)) - (nI 1))] dX10_trace_41 cc_X10_in lk_RX10_110 st_X10_in in_RX10 rfl (Nat.le_of_ble_eq_true rfl) (Nat.le_of_ble_eq_true rfl) ?_
  refine t_X10_inT ⟨(nI_le' (by omega) (by omega)).mpr (by omega), (le_sub1 (by omega)).mpr ((nI_lt' (by omega) (by omega)).mpr (by omega))⟩ (fK_i ?_)
  show fEv g _ mX10_trace 44 [some (.ref 89), some (.int (nI k)), some (.int (nI w))] [.int (nI 1)] σ Q
  refine e_if_eq 58 dX10_trace_44 (by decide) (fun c => absurd c (by decide)) (fun _ => ?_)
  refine e_aload_n dX10_trace_47 rfl rfl ?_
  refine e_getR (q := 282) dX10_trace_48 fl_RX10_64 (Ms.s 89 rfl) (Ms.n (by decide)) rfl (Ms.r 89 29 rfl) (by unfold fscr; omega) ?_
  refine e_iload_n dX10_trace_51 rfl rfl ?_
  refine e_aaload (q := 283 + k) k dX10_trace_52 (Ms.s 282 rfl) (by decide) (Ms.n (by decide)) rfl (by omega) (by decide) (Ms.r 282 _ (frf_trace _ (by omega))) (by unfold fscr; omega) ?_
  refine e_iload_n dX10_trace_53 rfl rfl ?_
  refine e_iaload w dX10_trace_54 (Ms.s _ (fsh_trace _ (by omega))) (Ms.n (by omega)) rfl (by omega) (by decide) ?_
  refine e_int (T (k * 4 + w)) (Mt.1 k (by omega) w (by omega)) ?_
  refine e_goto 60 dX10_trace_55 (by decide) ?_
  exact e_ireturn .int dX10_trace_60 rfl rfl (h σ fSm.rfl' Ir hz)
set_option maxRecDepth 20000 in
theorem t_X10_trace {g : fGP} {d : Nat} {σ : fAH} {Q : fRes → fAH → Prop} {x : fXS} {k w : Nat}  (Ms : fMs g σ) (ok : fOK x) (Ir : fIr σ x) (hk : k < (iS (xI x)) 152) (hw : w < 4) (h : ∀ σ', fSm fRfA σ σ' → fIr σ' x → fI σ' 89 0 = nI 0 → Q (.inl (some (.int ((iT (xI x)) (k * 4 + w))))) σ') : fEv g (d + 1) mX10_trace 0 (fent [.ref 89, .int (nI k), .int (nI w)] 3) [] σ Q := by
  have S9 : fSm (fun a => a = 89) σ (fsI σ 89 0 (nI 0)) := fSm_I rfl
  show fEv g (d + 1) mX10_trace 0 [some (.ref 89), some (.int (nI k)), some (.int (nI w))] [] σ Q
  refine e_aload_n dX10_trace_0 rfl rfl ?_
  refine e_iconst (nI 0) dX10_trace_1 (by decide) ?_
  refine e_putI dX10_trace_2 fl_RX10_76 (Ms.s 89 rfl) (Ms.n (by decide)) rfl rfl ?_
  exact lp_X10_trace (Ms.sm S9) ok (Ir.f0 ok S9 (fun a (q : a = 89) => Or.inl (by omega)) (fun j hj => by simp only [List.mem_cons, List.not_mem_nil, or_false] at hj; rw [fI_I, if_neg (by omega)])) (by rw [fI_I, if_pos ⟨rfl, rfl⟩]) hk hw (fun σ' Sm' => h σ' ((S9.to (fun a (q : a = 89) => by unfold fRfA; omega)).tr Sm'))
set_option maxRecDepth 20000 in
theorem lp_X10_traceN {g : fGP} {d : Nat} {σ : fAH} {Q : fRes → fAH → Prop} {x : fXS} {a : Int32} {w : Nat}  (Ms : fMs g σ) (ok : fOK x) (Ir : fIr σ x) (hz : fI σ 89 0 = nI 0) (hv : ¬ (nI 0 ≤ a ∧ a < nI ((iS (xI x)) 152))) (hw : w < 4) (h : ∀ σ', fSm fRfA σ σ' → fIr σ' x → fI σ' 89 0 = nI 0 → Q (.inl (some (.int (-2)))) σ') : fEv g (d + 1) mX10_trace 5 [some (.ref 89), some (.int a), some (.int (nI w))] [] σ Q := by
  obtain ⟨D, ⟨S, T, sd, pn, P, rn, R⟩, B, tp, pl, im, Im⟩ := x
  have hD : fWD D := ok.1
  have hW : fWS D S := ok.2.1.1
  have hC : fWC D S := ok.2.1.2.1
  have hN : fWN S 0 0 := ok.2.1.2.2.1
  have Mr : fMr σ D S sd := Ir.1
  have Mt : fMt σ S T := Ir.2.1
  obtain ⟨t0, t1, t2, t3, t4, t5, t6⟩ := id hD.1
  have np := hW.n hD
  have n5 := hW.2.2.2.2
  have tp6 : tp ≤ 600 := ok.2.2.2.1
  have im3 : im ≤ 3 := ok.2.2.2.2.1
  have pn3 : pn ≤ 30 := ok.2.1.2.2.2.1
  have rn6 : rn ≤ 60 := ok.2.1.2.2.2.2.2.1
  have Rc : fRc σ (S, T, sd, pn, P, rn, R) := Ir.2.2.2.2.1
  have w52 := hW.1
  show fEv g (d + 1) mX10_trace 5 [some (.ref 89), some (.int a), some (.int (nI w))] [] σ Q
  refine e_aload_n dX10_trace_5 rfl rfl ?_
  refine e_iload_n dX10_trace_6 rfl rfl ?_
  refine e_iconst (nI 0) dX10_trace_7 (by decide) ?_
  refine e_iconst (nI 3) dX10_trace_8 (by decide) ?_
  refine e_callS [.int (nI w), .int (nI 0), .int (nI 3)] dX10_trace_9 cc_X10_in lk_RX10_110 st_X10_in in_RX10 rfl (Nat.le_of_ble_eq_true rfl) (Nat.le_of_ble_eq_true rfl) ?_
  refine t_X10_inT ⟨(nI_le' (by omega) (by omega)).mpr (by omega), (nI_le' (by omega) (by omega)).mpr (by omega)⟩ (fK_i ?_)
  show fEv g _ mX10_trace 12 [some (.ref 89), some (.int a), some (.int (nI w))] [.int (nI 1), .ref 89] σ Q
  refine e_if_ne 19 dX10_trace_12 (by decide) (fun _ => ?_) (fun c => absurd c (by decide))
  refine e_iconst (nI 0) dX10_trace_19 (by decide) ?_
  refine e_iconst (nI 1) dX10_trace_20 (by decide) ?_
  refine e_callV (k := 89) [.int (nI 0), .int (nI 1)] dX10_trace_21 cc_X10_bad lk_RX10_148 im_X10_bad se_X10_bad (by decide) (Ms.s 89 rfl) (Ms.n (by decide)) rfl (Nat.le_of_ble_eq_true rfl) (Nat.le_of_ble_eq_true rfl) ?_
  refine t_X10_bad0 Ms hz (by decide) (fK_i ?_)
  show fEv g _ mX10_trace 24 [some (.ref 89), some (.int a), some (.int (nI w))] [.int (nI 0)] σ Q
  refine e_if_eq 29 dX10_trace_24 (by decide) (fun _ => ?_) (fun c => absurd c (by decide))
  refine e_iload_n dX10_trace_29 rfl rfl ?_
  refine e_iconst (nI 0) dX10_trace_30 (by decide) ?_
  refine e_aload_n dX10_trace_31 rfl rfl ?_
  refine e_getR (q := 197) dX10_trace_32 fl_RX10_49 (Ms.s 89 rfl) (Ms.n (by decide)) rfl (Ms.r 89 19 rfl) (by unfold fscr; omega) ?_
  refine e_sipush (nI 152) dX10_trace_35 (by decide) ?_
  refine e_iaload 152 dX10_trace_38 (Ms.s 197 rfl) (Ms.n (by decide)) rfl (by omega) (by decide) ?_
  refine e_int (nI (S 152)) (Mr.s 152 (by omega)) ?_
  refine e_iconst (nI 1) dX10_trace_39 (by decide) ?_
  refine e_isub dX10_trace_40 ?_
  refine e_callS [.int a, .int (nI 0), .int ((nI (S 152)) - (nI 1))] dX10_trace_41 cc_X10_in lk_RX10_110 st_X10_in in_RX10 rfl (Nat.le_of_ble_eq_true rfl) (Nat.le_of_ble_eq_true rfl) ?_
  refine t_X10_inF (fun q => hv ⟨q.1, (le_sub1 (n := S 152) (by omega)).mp q.2⟩) (fK_i ?_)
  show fEv g _ mX10_trace 44 [some (.ref 89), some (.int a), some (.int (nI w))] [.int (nI 0)] σ Q
  refine e_if_eq 58 dX10_trace_44 (by decide) (fun _ => ?_) (fun c => absurd c (by decide))
  refine e_bipush (-2) dX10_trace_58 (by decide) ?_
  exact e_ireturn .int dX10_trace_60 rfl rfl (h σ fSm.rfl' Ir hz)
set_option maxRecDepth 20000 in
theorem t_X10_traceN {g : fGP} {d : Nat} {σ : fAH} {Q : fRes → fAH → Prop} {x : fXS} {a : Int32} {w : Nat}  (Ms : fMs g σ) (ok : fOK x) (Ir : fIr σ x) (hv : ¬ (nI 0 ≤ a ∧ a < nI ((iS (xI x)) 152))) (hw : w < 4) (h : ∀ σ', fSm fRfA σ σ' → fIr σ' x → fI σ' 89 0 = nI 0 → Q (.inl (some (.int (-2)))) σ') : fEv g (d + 1) mX10_trace 0 (fent [.ref 89, .int a, .int (nI w)] 3) [] σ Q := by
  have S9 : fSm (fun a => a = 89) σ (fsI σ 89 0 (nI 0)) := fSm_I rfl
  show fEv g (d + 1) mX10_trace 0 [some (.ref 89), some (.int a), some (.int (nI w))] [] σ Q
  refine e_aload_n dX10_trace_0 rfl rfl ?_
  refine e_iconst (nI 0) dX10_trace_1 (by decide) ?_
  refine e_putI dX10_trace_2 fl_RX10_76 (Ms.s 89 rfl) (Ms.n (by decide)) rfl rfl ?_
  exact lp_X10_traceN (Ms.sm S9) ok (Ir.f0 ok S9 (fun a (q : a = 89) => Or.inl (by omega)) (fun j hj => by simp only [List.mem_cons, List.not_mem_nil, or_false] at hj; rw [fI_I, if_neg (by omega)])) (by rw [fI_I, if_pos ⟨rfl, rfl⟩]) hv hw (fun σ' Sm' => h σ' ((S9.to (fun a (q : a = 89) => by unfold fRfA; omega)).tr Sm'))
set_option maxRecDepth 20000 in
theorem lp_X10_traceE {g : fGP} {d : Nat} {σ : fAH} {Q : fRes → fAH → Prop} {x : fXS} {a b : Int32}  (Ms : fMs g σ) (ok : fOK x) (Ir : fIr σ x) (hz : fI σ 89 0 = nI 0) (hv : ¬ (nI 0 ≤ b ∧ b ≤ nI 3)) (h : ∀ σ', fSm fRfA σ σ' → fIr σ' x → fI σ' 89 0 = nI 1 → Q (.inl (some (.int (nI 0)))) σ') : fEv g (d + 1) mX10_trace 5 [some (.ref 89), some (.int a), some (.int b)] [] σ Q := by
  obtain ⟨D, ⟨S, T, sd, pn, P, rn, R⟩, B, tp, pl, im, Im⟩ := x
  have hD : fWD D := ok.1
  have hW : fWS D S := ok.2.1.1
  have hC : fWC D S := ok.2.1.2.1
  have hN : fWN S 0 0 := ok.2.1.2.2.1
  have Mr : fMr σ D S sd := Ir.1
  have Mt : fMt σ S T := Ir.2.1
  obtain ⟨t0, t1, t2, t3, t4, t5, t6⟩ := id hD.1
  have np := hW.n hD
  have n5 := hW.2.2.2.2
  have tp6 : tp ≤ 600 := ok.2.2.2.1
  have im3 : im ≤ 3 := ok.2.2.2.2.1
  have pn3 : pn ≤ 30 := ok.2.1.2.2.2.1
  have rn6 : rn ≤ 60 := ok.2.1.2.2.2.2.2.1
  have Rc : fRc σ (S, T, sd, pn, P, rn, R) := Ir.2.2.2.2.1
  have w52 := hW.1
  show fEv g (d + 1) mX10_trace 5 [some (.ref 89), some (.int a), some (.int b)] [] σ Q
  refine e_aload_n dX10_trace_5 rfl rfl ?_
  refine e_iload_n dX10_trace_6 rfl rfl ?_
  refine e_iconst (nI 0) dX10_trace_7 (by decide) ?_
  refine e_iconst (nI 3) dX10_trace_8 (by decide) ?_
  refine e_callS [.int b, .int (nI 0), .int (nI 3)] dX10_trace_9 cc_X10_in lk_RX10_110 st_X10_in in_RX10 rfl (Nat.le_of_ble_eq_true rfl) (Nat.le_of_ble_eq_true rfl) ?_
  refine t_X10_inF hv (fK_i ?_)
  show fEv g _ mX10_trace 12 [some (.ref 89), some (.int a), some (.int b)] [.int (nI 0), .ref 89] σ Q
  refine e_if_ne 19 dX10_trace_12 (by decide) (fun c => absurd c (by decide)) (fun _ => ?_)
  refine e_iconst (nI 1) dX10_trace_15 (by decide) ?_
  refine e_goto 20 dX10_trace_16 (by decide) ?_
  refine e_iconst (nI 1) dX10_trace_20 (by decide) ?_
  refine e_callV (k := 89) [.int (nI 1), .int (nI 1)] dX10_trace_21 cc_X10_bad lk_RX10_148 im_X10_bad se_X10_bad (by decide) (Ms.s 89 rfl) (Ms.n (by decide)) rfl (Nat.le_of_ble_eq_true rfl) (Nat.le_of_ble_eq_true rfl) ?_
  refine t_X10_bad1 Ms hz (by decide) (fK_i ?_)
  show fEv g _ mX10_trace 24 [some (.ref 89), some (.int a), some (.int b)] [.int (nI 1)] (fsI σ 89 0 (nI 1)) Q
  refine e_if_eq 29 dX10_trace_24 (by decide) (fun c => absurd c (by decide)) (fun _ => ?_)
  refine e_iconst (nI 0) dX10_trace_27 (by decide) ?_
  exact e_ireturn .int dX10_trace_28 rfl rfl (h _ (fSm_I (by unfold fRfA; omega)) (Ir.f0 ok (A := fun a => a = 89) (fSm_I rfl) (fun a (q : a = 89) => Or.inl (by omega)) (fun j hj => by simp only [List.mem_cons, List.not_mem_nil, or_false] at hj; rw [fI_I, if_neg (by omega)])) (by rw [fI_I, if_pos ⟨rfl, rfl⟩]))
set_option maxRecDepth 20000 in
theorem t_X10_traceE {g : fGP} {d : Nat} {σ : fAH} {Q : fRes → fAH → Prop} {x : fXS} {a b : Int32}  (Ms : fMs g σ) (ok : fOK x) (Ir : fIr σ x) (hv : ¬ (nI 0 ≤ b ∧ b ≤ nI 3)) (h : ∀ σ', fSm fRfA σ σ' → fIr σ' x → fI σ' 89 0 = nI 1 → Q (.inl (some (.int (nI 0)))) σ') : fEv g (d + 1) mX10_trace 0 (fent [.ref 89, .int a, .int b] 3) [] σ Q := by
  have S9 : fSm (fun a => a = 89) σ (fsI σ 89 0 (nI 0)) := fSm_I rfl
  show fEv g (d + 1) mX10_trace 0 [some (.ref 89), some (.int a), some (.int b)] [] σ Q
  refine e_aload_n dX10_trace_0 rfl rfl ?_
  refine e_iconst (nI 0) dX10_trace_1 (by decide) ?_
  refine e_putI dX10_trace_2 fl_RX10_76 (Ms.s 89 rfl) (Ms.n (by decide)) rfl rfl ?_
  exact lp_X10_traceE (Ms.sm S9) ok (Ir.f0 ok S9 (fun a (q : a = 89) => Or.inl (by omega)) (fun j hj => by simp only [List.mem_cons, List.not_mem_nil, or_false] at hj; rw [fI_I, if_neg (by omega)])) (by rw [fI_I, if_pos ⟨rfl, rfl⟩]) hv (fun σ' Sm' => h σ' ((S9.to (fun a (q : a = 89) => by unfold fRfA; omega)).tr Sm'))
set_option maxRecDepth 20000 in
theorem lp_X10_cold {g : fGP} {d : Nat} {σ : fAH} {Q : fRes → fAH → Prop} {x : fXS} {k : Nat}  (Ms : fMs g σ) (ok : fOK x) (Ir : fIr σ x) (hz : fI σ 89 0 = nI 0) (hk : k < (iS (xI x)) 155) (h : ∀ σ', fSm fRfA σ σ' → fIr σ' x → fI σ' 89 0 = nI 0 → Q (.inl (some (.int ((iT (xI x)) (100 + k))))) σ') : fEv g (d + 1) mX10_cold 5 [some (.ref 89), some (.int (nI k))] [] σ Q := by
  obtain ⟨D, ⟨S, T, sd, pn, P, rn, R⟩, B, tp, pl, im, Im⟩ := x
  have hD : fWD D := ok.1
  have hW : fWS D S := ok.2.1.1
  have hC : fWC D S := ok.2.1.2.1
  have hN : fWN S 0 0 := ok.2.1.2.2.1
  have Mr : fMr σ D S sd := Ir.1
  have Mt : fMt σ S T := Ir.2.1
  obtain ⟨t0, t1, t2, t3, t4, t5, t6⟩ := id hD.1
  have np := hW.n hD
  have n5 := hW.2.2.2.2
  have tp6 : tp ≤ 600 := ok.2.2.2.1
  have im3 : im ≤ 3 := ok.2.2.2.2.1
  have pn3 : pn ≤ 30 := ok.2.1.2.2.2.1
  have rn6 : rn ≤ 60 := ok.2.1.2.2.2.2.2.1
  have Rc : fRc σ (S, T, sd, pn, P, rn, R) := Ir.2.2.2.2.1
  have w52 := hW.1
  have hk : k < S 155 := hk
  show fEv g (d + 1) mX10_cold 5 [some (.ref 89), some (.int (nI k))] [] σ Q
  refine e_iload_n dX10_cold_5 rfl rfl ?_
  refine e_iconst (nI 0) dX10_cold_6 (by decide) ?_
  refine e_aload_n dX10_cold_7 rfl rfl ?_
  refine e_getR (q := 197) dX10_cold_8 fl_RX10_49 (Ms.s 89 rfl) (Ms.n (by decide)) rfl (Ms.r 89 19 rfl) (by unfold fscr; omega) ?_
  refine e_sipush (nI 155) dX10_cold_11 (by decide) ?_
  refine e_iaload 155 dX10_cold_14 (Ms.s 197 rfl) (Ms.n (by decide)) rfl (by omega) (by decide) ?_
  refine e_int (nI (S 155)) (Mr.s 155 (by omega)) ?_
  refine e_iconst (nI 1) dX10_cold_15 (by decide) ?_
  refine e_isub dX10_cold_16 ?_
  refine e_callS [.int (nI k), .int (nI 0), .int ((nI (S 155)) - (nI 1))] dX10_cold_17 cc_X10_in lk_RX10_110 st_X10_in in_RX10 rfl (Nat.le_of_ble_eq_true rfl) (Nat.le_of_ble_eq_true rfl) ?_
  refine t_X10_inT ⟨(nI_le' (by omega) (by omega)).mpr (by omega), (le_sub1 (by omega)).mpr ((nI_lt' (by omega) (by omega)).mpr (by omega))⟩ (fK_i ?_)
  show fEv g _ mX10_cold 20 [some (.ref 89), some (.int (nI k))] [.int (nI 1)] σ Q
  refine e_if_eq 32 dX10_cold_20 (by decide) (fun c => absurd c (by decide)) (fun _ => ?_)
  refine e_aload_n dX10_cold_23 rfl rfl ?_
  refine e_getR (q := 220) dX10_cold_24 fl_RX10_58 (Ms.s 89 rfl) (Ms.n (by decide)) rfl (Ms.r 89 27 rfl) (by unfold fscr; omega) ?_
  refine e_iload_n dX10_cold_27 rfl rfl ?_
  refine e_iaload k dX10_cold_28 (Ms.s 220 rfl) (Ms.n (by decide)) rfl (by omega) (by decide) ?_
  refine e_int (T (100 + k)) (Mt.2 k (by omega)) ?_
  refine e_goto 33 dX10_cold_29 (by decide) ?_
  exact e_ireturn .int dX10_cold_33 rfl rfl (h σ fSm.rfl' Ir hz)
set_option maxRecDepth 20000 in
theorem t_X10_cold {g : fGP} {d : Nat} {σ : fAH} {Q : fRes → fAH → Prop} {x : fXS} {k : Nat}  (Ms : fMs g σ) (ok : fOK x) (Ir : fIr σ x) (hk : k < (iS (xI x)) 155) (h : ∀ σ', fSm fRfA σ σ' → fIr σ' x → fI σ' 89 0 = nI 0 → Q (.inl (some (.int ((iT (xI x)) (100 + k))))) σ') : fEv g (d + 1) mX10_cold 0 (fent [.ref 89, .int (nI k)] 2) [] σ Q := by
  have S9 : fSm (fun a => a = 89) σ (fsI σ 89 0 (nI 0)) := fSm_I rfl
  show fEv g (d + 1) mX10_cold 0 [some (.ref 89), some (.int (nI k))] [] σ Q
  refine e_aload_n dX10_cold_0 rfl rfl ?_
  refine e_iconst (nI 0) dX10_cold_1 (by decide) ?_
  refine e_putI dX10_cold_2 fl_RX10_76 (Ms.s 89 rfl) (Ms.n (by decide)) rfl rfl ?_
  exact lp_X10_cold (Ms.sm S9) ok (Ir.f0 ok S9 (fun a (q : a = 89) => Or.inl (by omega)) (fun j hj => by simp only [List.mem_cons, List.not_mem_nil, or_false] at hj; rw [fI_I, if_neg (by omega)])) (by rw [fI_I, if_pos ⟨rfl, rfl⟩]) hk (fun σ' Sm' => h σ' ((S9.to (fun a (q : a = 89) => by unfold fRfA; omega)).tr Sm'))
set_option maxRecDepth 20000 in
theorem lp_X10_coldN {g : fGP} {d : Nat} {σ : fAH} {Q : fRes → fAH → Prop} {x : fXS} {a : Int32}  (Ms : fMs g σ) (ok : fOK x) (Ir : fIr σ x) (hz : fI σ 89 0 = nI 0) (hv : ¬ (nI 0 ≤ a ∧ a < nI ((iS (xI x)) 155))) (h : ∀ σ', fSm fRfA σ σ' → fIr σ' x → fI σ' 89 0 = nI 0 → Q (.inl (some (.int (-1)))) σ') : fEv g (d + 1) mX10_cold 5 [some (.ref 89), some (.int a)] [] σ Q := by
  obtain ⟨D, ⟨S, T, sd, pn, P, rn, R⟩, B, tp, pl, im, Im⟩ := x
  have hD : fWD D := ok.1
  have hW : fWS D S := ok.2.1.1
  have hC : fWC D S := ok.2.1.2.1
  have hN : fWN S 0 0 := ok.2.1.2.2.1
  have Mr : fMr σ D S sd := Ir.1
  have Mt : fMt σ S T := Ir.2.1
  obtain ⟨t0, t1, t2, t3, t4, t5, t6⟩ := id hD.1
  have np := hW.n hD
  have n5 := hW.2.2.2.2
  have tp6 : tp ≤ 600 := ok.2.2.2.1
  have im3 : im ≤ 3 := ok.2.2.2.2.1
  have pn3 : pn ≤ 30 := ok.2.1.2.2.2.1
  have rn6 : rn ≤ 60 := ok.2.1.2.2.2.2.2.1
  have Rc : fRc σ (S, T, sd, pn, P, rn, R) := Ir.2.2.2.2.1
  have w52 := hW.1
  show fEv g (d + 1) mX10_cold 5 [some (.ref 89), some (.int a)] [] σ Q
  refine e_iload_n dX10_cold_5 rfl rfl ?_
  refine e_iconst (nI 0) dX10_cold_6 (by decide) ?_
  refine e_aload_n dX10_cold_7 rfl rfl ?_
  refine e_getR (q := 197) dX10_cold_8 fl_RX10_49 (Ms.s 89 rfl) (Ms.n (by decide)) rfl (Ms.r 89 19 rfl) (by unfold fscr; omega) ?_
  refine e_sipush (nI 155) dX10_cold_11 (by decide) ?_
  refine e_iaload 155 dX10_cold_14 (Ms.s 197 rfl) (Ms.n (by decide)) rfl (by omega) (by decide) ?_
  refine e_int (nI (S 155)) (Mr.s 155 (by omega)) ?_
  refine e_iconst (nI 1) dX10_cold_15 (by decide) ?_
  refine e_isub dX10_cold_16 ?_
  refine e_callS [.int a, .int (nI 0), .int ((nI (S 155)) - (nI 1))] dX10_cold_17 cc_X10_in lk_RX10_110 st_X10_in in_RX10 rfl (Nat.le_of_ble_eq_true rfl) (Nat.le_of_ble_eq_true rfl) ?_
  refine t_X10_inF (fun q => hv ⟨q.1, (le_sub1 (n := S 155) (by omega)).mp q.2⟩) (fK_i ?_)
  show fEv g _ mX10_cold 20 [some (.ref 89), some (.int a)] [.int (nI 0)] σ Q
  refine e_if_eq 32 dX10_cold_20 (by decide) (fun _ => ?_) (fun c => absurd c (by decide))
  refine e_iconst (-1) dX10_cold_32 (by decide) ?_
  exact e_ireturn .int dX10_cold_33 rfl rfl (h σ fSm.rfl' Ir hz)
set_option maxRecDepth 20000 in
theorem t_X10_coldN {g : fGP} {d : Nat} {σ : fAH} {Q : fRes → fAH → Prop} {x : fXS} {a : Int32}  (Ms : fMs g σ) (ok : fOK x) (Ir : fIr σ x) (hv : ¬ (nI 0 ≤ a ∧ a < nI ((iS (xI x)) 155))) (h : ∀ σ', fSm fRfA σ σ' → fIr σ' x → fI σ' 89 0 = nI 0 → Q (.inl (some (.int (-1)))) σ') : fEv g (d + 1) mX10_cold 0 (fent [.ref 89, .int a] 2) [] σ Q := by
  have S9 : fSm (fun a => a = 89) σ (fsI σ 89 0 (nI 0)) := fSm_I rfl
  show fEv g (d + 1) mX10_cold 0 [some (.ref 89), some (.int a)] [] σ Q
  refine e_aload_n dX10_cold_0 rfl rfl ?_
  refine e_iconst (nI 0) dX10_cold_1 (by decide) ?_
  refine e_putI dX10_cold_2 fl_RX10_76 (Ms.s 89 rfl) (Ms.n (by decide)) rfl rfl ?_
  exact lp_X10_coldN (Ms.sm S9) ok (Ir.f0 ok S9 (fun a (q : a = 89) => Or.inl (by omega)) (fun j hj => by simp only [List.mem_cons, List.not_mem_nil, or_false] at hj; rw [fI_I, if_neg (by omega)])) (by rw [fI_I, if_pos ⟨rfl, rfl⟩]) hv (fun σ' Sm' => h σ' ((S9.to (fun a (q : a = 89) => by unfold fRfA; omega)).tr Sm'))
set_option maxRecDepth 20000 in
theorem lp_X10_count {g : fGP} {d : Nat} {σ : fAH} {Q : fRes → fAH → Prop} {x : fXS} {w : Nat}  (Ms : fMs g σ) (ok : fOK x) (Ir : fIr σ x) (hz : fI σ 89 0 = nI 0) (hw : w < 4) (h : ∀ σ', fSm fRfA σ σ' → fIr σ' x → fI σ' 89 0 = nI 0 → Q (.inl (some (.int (vCnt x w)))) σ') : fEv g (d) mX10_count 5 [some (.ref 89), some (.int (nI w))] [] σ Q := by
  obtain ⟨D, ⟨S, T, sd, pn, P, rn, R⟩, B, tp, pl, im, Im⟩ := x
  have hD : fWD D := ok.1
  have hW : fWS D S := ok.2.1.1
  have hC : fWC D S := ok.2.1.2.1
  have hN : fWN S 0 0 := ok.2.1.2.2.1
  have Mr : fMr σ D S sd := Ir.1
  have Mt : fMt σ S T := Ir.2.1
  obtain ⟨t0, t1, t2, t3, t4, t5, t6⟩ := id hD.1
  have np := hW.n hD
  have n5 := hW.2.2.2.2
  have tp6 : tp ≤ 600 := ok.2.2.2.1
  have im3 : im ≤ 3 := ok.2.2.2.2.1
  have pn3 : pn ≤ 30 := ok.2.1.2.2.2.1
  have rn6 : rn ≤ 60 := ok.2.1.2.2.2.2.2.1
  have Rc : fRc σ (S, T, sd, pn, P, rn, R) := Ir.2.2.2.2.1
  have w52 := hW.1
  rcases (show w = 0 ∨ w = 1 ∨ w = 2 ∨ w = 3 by omega) with rfl | rfl | rfl | rfl
  · show fEv g (d) mX10_count 5 [some (.ref 89), some (.int (nI 0))] [] σ Q
    refine e_iload_n dX10_count_5 rfl rfl ?_
    refine e_tswIn (off := 30) 36 dX10_count_6 (by decide) (by decide) (by decide) (by decide) ?_
    refine e_aload_n dX10_count_36 rfl rfl ?_
    refine e_getI dX10_count_37 fl_RX10_159 (Ms.s 89 rfl) (Ms.n (by decide)) rfl ?_
    refine e_int (nI pn) Rc.1 ?_
    exact e_ireturn .int dX10_count_40 rfl rfl (h σ fSm.rfl' Ir hz)
  · show fEv g (d) mX10_count 5 [some (.ref 89), some (.int (nI 1))] [] σ Q
    refine e_iload_n dX10_count_5 rfl rfl ?_
    refine e_tswIn (off := 35) 41 dX10_count_6 (by decide) (by decide) (by decide) (by decide) ?_
    refine e_aload_n dX10_count_41 rfl rfl ?_
    refine e_getI dX10_count_42 fl_RX10_162 (Ms.s 89 rfl) (Ms.n (by decide)) rfl ?_
    refine e_int (nI rn) Rc.2.2.1 ?_
    exact e_ireturn .int dX10_count_45 rfl rfl (h σ fSm.rfl' Ir hz)
  · show fEv g (d) mX10_count 5 [some (.ref 89), some (.int (nI 2))] [] σ Q
    refine e_iload_n dX10_count_5 rfl rfl ?_
    refine e_tswIn (off := 40) 46 dX10_count_6 (by decide) (by decide) (by decide) (by decide) ?_
    refine e_aload_n dX10_count_46 rfl rfl ?_
    refine e_getI dX10_count_47 fl_RX10_165 (Ms.s 89 rfl) (Ms.n (by decide)) rfl ?_
    refine e_int (nI im) Ir.2.2.1.2.2.2.2.2 ?_
    exact e_ireturn .int dX10_count_50 rfl rfl (h σ fSm.rfl' Ir hz)
  · show fEv g (d) mX10_count 5 [some (.ref 89), some (.int (nI 3))] [] σ Q
    refine e_iload_n dX10_count_5 rfl rfl ?_
    refine e_tswIn (off := 45) 51 dX10_count_6 (by decide) (by decide) (by decide) (by decide) ?_
    refine e_aload_n dX10_count_51 rfl rfl ?_
    refine e_getI dX10_count_52 fl_RX10_79 (Ms.s 89 rfl) (Ms.n (by decide)) rfl ?_
    refine e_int (nI tp) Ir.2.2.1.2.2.2.1 ?_
    exact e_ireturn .int dX10_count_55 rfl rfl (h σ fSm.rfl' Ir hz)
set_option maxRecDepth 20000 in
theorem t_X10_count {g : fGP} {d : Nat} {σ : fAH} {Q : fRes → fAH → Prop} {x : fXS} {w : Nat}  (Ms : fMs g σ) (ok : fOK x) (Ir : fIr σ x) (hw : w < 4) (h : ∀ σ', fSm fRfA σ σ' → fIr σ' x → fI σ' 89 0 = nI 0 → Q (.inl (some (.int (vCnt x w)))) σ') : fEv g (d) mX10_count 0 (fent [.ref 89, .int (nI w)] 2) [] σ Q := by
  have S9 : fSm (fun a => a = 89) σ (fsI σ 89 0 (nI 0)) := fSm_I rfl
  show fEv g (d) mX10_count 0 [some (.ref 89), some (.int (nI w))] [] σ Q
  refine e_aload_n dX10_count_0 rfl rfl ?_
  refine e_iconst (nI 0) dX10_count_1 (by decide) ?_
  refine e_putI dX10_count_2 fl_RX10_76 (Ms.s 89 rfl) (Ms.n (by decide)) rfl rfl ?_
  exact lp_X10_count (Ms.sm S9) ok (Ir.f0 ok S9 (fun a (q : a = 89) => Or.inl (by omega)) (fun j hj => by simp only [List.mem_cons, List.not_mem_nil, or_false] at hj; rw [fI_I, if_neg (by omega)])) (by rw [fI_I, if_pos ⟨rfl, rfl⟩]) hw (fun σ' Sm' => h σ' ((S9.to (fun a (q : a = 89) => by unfold fRfA; omega)).tr Sm'))
