theorem tsw_out {a : Int32} {k : Nat} (hk : k < 1000) (h : ¬ (nI 0 ≤ a ∧ a ≤ nI k)) : a.toInt < 0 ∨ (k : Int) < a.toInt := by
  by_cases h0 : nI 0 ≤ a
  · refine Or.inr ?_
    have h1 : ¬ a ≤ nI k := fun q => h ⟨h0, q⟩
    rw [Int32.le_iff_toInt_le] at h1
    have e : (nI k).toInt = (k : Int) := nI_toInt (by omega)
    omega
  · refine Or.inl ?_
    rw [Int32.le_iff_toInt_le] at h0
    have e : (nI 0).toInt = 0 := rfl
    omega
theorem nI_ex {a : Int32} (h : nI 0 ≤ a) : ∃ n, n < 2147483648 ∧ a = nI n := by
  obtain ⟨n, h1, h2⟩ := nI_of (Int32.not_lt.mpr h)
  exact ⟨n, h1, h2⟩
theorem nI_rg {a : Int32} {lo hi : Nat} (hl : lo < 1000) (hh : hi < 1000) (h : nI lo ≤ a ∧ a ≤ nI hi) : ∃ n, a = nI n ∧ lo ≤ n ∧ n ≤ hi := by
  have h0 : nI 0 ≤ a := Int32.le_trans ((nI_le' (by omega) (by omega)).mpr (by omega)) h.1
  obtain ⟨n, h1, rfl⟩ := nI_ex h0
  exact ⟨n, rfl, (nI_le' (by omega) h1).mp h.1, (nI_le' h1 (by omega)).mp h.2⟩
theorem nI_rl {a : Int32} {hi : Nat} (hh : hi < 1000) (h : nI 0 ≤ a ∧ a < nI hi) : ∃ n, a = nI n ∧ n < hi := by
  obtain ⟨n, h1, rfl⟩ := nI_ex h.1
  exact ⟨n, rfl, (nI_lt' h1 (by omega)).mp h.2⟩
set_option maxRecDepth 20000 in
theorem t_X9_checkRange {g : fGP} {d : Nat} {σ : fAH} {Q : fRes → fAH → Prop} {v lo hi : Int32} (hv : lo ≤ v ∧ v ≤ hi) (h : Q (.inl none) σ) : fEv g d mX9_checkRange 0 (fent [.int v, .int lo, .int hi] 3) [] σ Q := by
  show fEv g d mX9_checkRange 0 [some (.int v), some (.int lo), some (.int hi)] [] σ Q
  refine e_iload_n dX9_checkRange_0 rfl rfl ?_
  refine e_iload_n dX9_checkRange_1 rfl rfl ?_
  refine e_icmp_lt 10 dX9_checkRange_2 (by decide) (fun c => absurd c (Int32.not_lt.mpr hv.1)) (fun _ => ?_)
  refine e_iload_n dX9_checkRange_5 rfl rfl ?_
  refine e_iload_n dX9_checkRange_6 rfl rfl ?_
  refine e_icmp_le 21 dX9_checkRange_7 (by decide) (fun _ => ?_) (fun c => absurd hv.2 c)
  exact e_return dX9_checkRange_21 rfl h
set_option maxRecDepth 20000 in
theorem t_X9_checkRangeE {g : fGP} {d : Nat} {σ : fAH} {Q : fRes → fAH → Prop} {v lo hi : Int32} (hv : ¬ (lo ≤ v ∧ v ≤ hi)) (rm : fnx σ + fgb σ + 1 ≤ 601024 ∧ fsu σ + 6 ≤ 7293034) (h : Q (.inr "java/lang/IllegalArgumentException") (fthr σ)) : fEv g d mX9_checkRange 0 (fent [.int v, .int lo, .int hi] 3) [] σ Q := by
  show fEv g d mX9_checkRange 0 [some (.int v), some (.int lo), some (.int hi)] [] σ Q
  refine e_iload_n dX9_checkRange_0 rfl rfl ?_
  refine e_iload_n dX9_checkRange_1 rfl rfl ?_
  refine e_icmp_lt 10 dX9_checkRange_2 (by decide) (fun c2 => ?_) (fun c2 => ?_)
  · exact e_throwSW rfl rfl tw_A (fstr_m 3 rfl) dX9_checkRange_10 dX9_checkRange_13 dX9_checkRange_14 dX9_checkRange_17 dX9_checkRange_20 (Nat.le_of_ble_eq_true rfl) rm.1 rm.2 h
  · refine e_iload_n dX9_checkRange_5 rfl rfl ?_
    refine e_iload_n dX9_checkRange_6 rfl rfl ?_
    refine e_icmp_le 21 dX9_checkRange_7 (by decide) (fun c7 => ?_) (fun c7 => ?_)
    · exact absurd ⟨Int32.not_lt.mp c2, c7⟩ hv
    · exact e_throwSW rfl rfl tw_A (fstr_m 3 rfl) dX9_checkRange_10 dX9_checkRange_13 dX9_checkRange_14 dX9_checkRange_17 dX9_checkRange_20 (Nat.le_of_ble_eq_true rfl) rm.1 rm.2 h
set_option maxRecDepth 20000 in
theorem t_X9_checkSlot {g : fGP} {d : Nat} {σ : fAH} {Q : fRes → fAH → Prop} {D : fSD} {k : Nat} (Ms : fMs g σ) (Gr : fGr σ 2 D) (hD : fWD D) (hk : k < dT D 1) (h : Q (.inl none) σ) : fEv g d mX9_checkSlot 0 (fent [.ref 0, .int (nI k)] 2) [] σ Q := by
  obtain ⟨t0, t1, t2, t3, t4, t5, t6⟩ := id hD.1
  show fEv g d mX9_checkSlot 0 [some (.ref 0), some (.int (nI k))] [] σ Q
  refine e_iload_n dX9_checkSlot_0 rfl rfl ?_
  refine e_if_lt 15 dX9_checkSlot_1 (by decide) (fun c => absurd c (fun q => absurd ((nI_zlt (by omega)).mp q) (by omega))) (fun _ => ?_)
  refine e_iload_n dX9_checkSlot_4 rfl rfl ?_
  refine e_aload_n dX9_checkSlot_5 rfl rfl ?_
  refine e_getR (q := 2) dX9_checkSlot_6 fl_RX9_23 (Ms.s 0 rfl) (Ms.n (by decide)) rfl (Ms.r 0 3 rfl) (by unfold fscr; omega) ?_
  refine e_getI dX9_checkSlot_9 fl_RX9_127 (Ms.s 2 rfl) (Ms.n (by decide)) rfl ?_
  refine e_int (nI (dT D 1)) Gr.1.2.1 ?_
  refine e_icmp_lt 26 dX9_checkSlot_12 (by decide) (fun _ => ?_) (fun c => absurd ((nI_lt' (by omega) (by omega)).mpr hk) c)
  exact e_return dX9_checkSlot_26 rfl h
set_option maxRecDepth 20000 in
theorem t_X9_checkSlotE {g : fGP} {d : Nat} {σ : fAH} {Q : fRes → fAH → Prop} {D : fSD} {a : Int32} (Ms : fMs g σ) (Gr : fGr σ 2 D) (hD : fWD D) (hv : ¬ (nI 0 ≤ a ∧ a < nI (dT D 1))) (rm : fnx σ + fgb σ + 1 ≤ 601024 ∧ fsu σ + 6 ≤ 7293034) (h : Q (.inr "java/util/NoSuchElementException") (fthr σ)) : fEv g d mX9_checkSlot 0 (fent [.ref 0, .int a] 2) [] σ Q := by
  obtain ⟨t0, t1, t2, t3, t4, t5, t6⟩ := id hD.1
  show fEv g d mX9_checkSlot 0 [some (.ref 0), some (.int a)] [] σ Q
  refine e_iload_n dX9_checkSlot_0 rfl rfl ?_
  refine e_if_lt 15 dX9_checkSlot_1 (by decide) (fun c1 => ?_) (fun c1 => ?_)
  · exact e_throwSWX rfl rfl tw_N rxN_0 rxN_1 rxN_2 rxN_5 (fstr_m 2 rfl) dX9_checkSlot_15 dX9_checkSlot_18 dX9_checkSlot_19 dX9_checkSlot_22 dX9_checkSlot_25 (Nat.le_of_ble_eq_true rfl) rm.1 rm.2 h
  · refine e_iload_n dX9_checkSlot_4 rfl rfl ?_
    refine e_aload_n dX9_checkSlot_5 rfl rfl ?_
    refine e_getR (q := 2) dX9_checkSlot_6 fl_RX9_23 (Ms.s 0 rfl) (Ms.n (by decide)) rfl (Ms.r 0 3 rfl) (by unfold fscr; omega) ?_
    refine e_getI dX9_checkSlot_9 fl_RX9_127 (Ms.s 2 rfl) (Ms.n (by decide)) rfl ?_
    refine e_int (nI (dT D 1)) Gr.1.2.1 ?_
    refine e_icmp_lt 26 dX9_checkSlot_12 (by decide) (fun c12 => ?_) (fun c12 => ?_)
    · exact absurd ⟨Int32.not_lt.mp c1, c12⟩ hv
    · exact e_throwSWX rfl rfl tw_N rxN_0 rxN_1 rxN_2 rxN_5 (fstr_m 2 rfl) dX9_checkSlot_15 dX9_checkSlot_18 dX9_checkSlot_19 dX9_checkSlot_22 dX9_checkSlot_25 (Nat.le_of_ble_eq_true rfl) rm.1 rm.2 h
set_option maxRecDepth 20000 in
theorem t_X9_checkOrder {g : fGP} {d : Nat} {σ : fAH} {Q : fRes → fAH → Prop} {D : fSD} {k : Nat} (Ms : fMs g σ) (Gr : fGr σ 2 D) (hD : fWD D) (hk : k < dT D 2) (h : Q (.inl none) σ) : fEv g d mX9_checkOrder 0 (fent [.ref 0, .int (nI k)] 2) [] σ Q := by
  obtain ⟨t0, t1, t2, t3, t4, t5, t6⟩ := id hD.1
  show fEv g d mX9_checkOrder 0 [some (.ref 0), some (.int (nI k))] [] σ Q
  refine e_iload_n dX9_checkOrder_0 rfl rfl ?_
  refine e_if_lt 15 dX9_checkOrder_1 (by decide) (fun c => absurd c (fun q => absurd ((nI_zlt (by omega)).mp q) (by omega))) (fun _ => ?_)
  refine e_iload_n dX9_checkOrder_4 rfl rfl ?_
  refine e_aload_n dX9_checkOrder_5 rfl rfl ?_
  refine e_getR (q := 2) dX9_checkOrder_6 fl_RX9_23 (Ms.s 0 rfl) (Ms.n (by decide)) rfl (Ms.r 0 3 rfl) (by unfold fscr; omega) ?_
  refine e_getI dX9_checkOrder_9 fl_RX9_130 (Ms.s 2 rfl) (Ms.n (by decide)) rfl ?_
  refine e_int (nI (dT D 2)) Gr.1.2.2.1 ?_
  refine e_icmp_lt 26 dX9_checkOrder_12 (by decide) (fun _ => ?_) (fun c => absurd ((nI_lt' (by omega) (by omega)).mpr hk) c)
  exact e_return dX9_checkOrder_26 rfl h
set_option maxRecDepth 20000 in
theorem t_X9_checkOrderE {g : fGP} {d : Nat} {σ : fAH} {Q : fRes → fAH → Prop} {D : fSD} {a : Int32} (Ms : fMs g σ) (Gr : fGr σ 2 D) (hD : fWD D) (hv : ¬ (nI 0 ≤ a ∧ a < nI (dT D 2))) (rm : fnx σ + fgb σ + 1 ≤ 601024 ∧ fsu σ + 6 ≤ 7293034) (h : Q (.inr "java/util/NoSuchElementException") (fthr σ)) : fEv g d mX9_checkOrder 0 (fent [.ref 0, .int a] 2) [] σ Q := by
  obtain ⟨t0, t1, t2, t3, t4, t5, t6⟩ := id hD.1
  show fEv g d mX9_checkOrder 0 [some (.ref 0), some (.int a)] [] σ Q
  refine e_iload_n dX9_checkOrder_0 rfl rfl ?_
  refine e_if_lt 15 dX9_checkOrder_1 (by decide) (fun c1 => ?_) (fun c1 => ?_)
  · exact e_throwSWX rfl rfl tw_N rxN_0 rxN_1 rxN_2 rxN_5 (fstr_m 4 rfl) dX9_checkOrder_15 dX9_checkOrder_18 dX9_checkOrder_19 dX9_checkOrder_22 dX9_checkOrder_25 (Nat.le_of_ble_eq_true rfl) rm.1 rm.2 h
  · refine e_iload_n dX9_checkOrder_4 rfl rfl ?_
    refine e_aload_n dX9_checkOrder_5 rfl rfl ?_
    refine e_getR (q := 2) dX9_checkOrder_6 fl_RX9_23 (Ms.s 0 rfl) (Ms.n (by decide)) rfl (Ms.r 0 3 rfl) (by unfold fscr; omega) ?_
    refine e_getI dX9_checkOrder_9 fl_RX9_130 (Ms.s 2 rfl) (Ms.n (by decide)) rfl ?_
    refine e_int (nI (dT D 2)) Gr.1.2.2.1 ?_
    refine e_icmp_lt 26 dX9_checkOrder_12 (by decide) (fun c12 => ?_) (fun c12 => ?_)
    · exact absurd ⟨Int32.not_lt.mp c1, c12⟩ hv
    · exact e_throwSWX rfl rfl tw_N rxN_0 rxN_1 rxN_2 rxN_5 (fstr_m 4 rfl) dX9_checkOrder_15 dX9_checkOrder_18 dX9_checkOrder_19 dX9_checkOrder_22 dX9_checkOrder_25 (Nat.le_of_ble_eq_true rfl) rm.1 rm.2 h
set_option maxRecDepth 20000 in
theorem t_X9_checkNightLeft {g : fGP} {d : Nat} {σ : fAH} {Q : fRes → fAH → Prop} {D : fSD} {S : Nat → Nat} {m : Nat} {sd : Int32} (Ms : fMs g σ) (Yr : fYr σ 15 D S m sd) (n5 : S 155 ≤ 30) (hn : S 155 < 30) (h : Q (.inl none) σ) : fEv g d mX9_checkNightLeft 0 (fent [.ref 0] 1) [] σ Q := by
  show fEv g d mX9_checkNightLeft 0 [some (.ref 0)] [] σ Q
  refine e_aload_n dX9_checkNightLeft_0 rfl rfl ?_
  refine e_getR (q := 15) dX9_checkNightLeft_1 fl_RX9_41 (Ms.s 0 rfl) (Ms.n (by decide)) rfl (Ms.r 0 5 rfl) (by unfold fscr; omega) ?_
  refine e_getI dX9_checkNightLeft_4 fl_RX9_142 (Ms.s 15 rfl) (Ms.n (by decide)) rfl ?_
  refine e_int (nI (S 155)) Yr.1.2.2.1 ?_
  refine e_bipush (nI 30) dX9_checkNightLeft_7 (by decide) ?_
  refine e_icmp_lt 23 dX9_checkNightLeft_9 (by decide) (fun _ => ?_) (fun c => absurd ((nI_lt' (by omega) (by omega)).mpr hn) c)
  exact e_return dX9_checkNightLeft_23 rfl h
set_option maxRecDepth 20000 in
theorem t_X9_checkNightLeftE {g : fGP} {d : Nat} {σ : fAH} {Q : fRes → fAH → Prop} {D : fSD} {S : Nat → Nat} {m : Nat} {sd : Int32} (Ms : fMs g σ) (Yr : fYr σ 15 D S m sd) (n5 : S 155 ≤ 30) (hn : ¬ S 155 < 30) (rm : fnx σ + fgb σ + 1 ≤ 601024 ∧ fsu σ + 6 ≤ 7293034) (h : Q (.inr "java/lang/IllegalStateException") (fthr σ)) : fEv g d mX9_checkNightLeft 0 (fent [.ref 0] 1) [] σ Q := by
  show fEv g d mX9_checkNightLeft 0 [some (.ref 0)] [] σ Q
  refine e_aload_n dX9_checkNightLeft_0 rfl rfl ?_
  refine e_getR (q := 15) dX9_checkNightLeft_1 fl_RX9_41 (Ms.s 0 rfl) (Ms.n (by decide)) rfl (Ms.r 0 5 rfl) (by unfold fscr; omega) ?_
  refine e_getI dX9_checkNightLeft_4 fl_RX9_142 (Ms.s 15 rfl) (Ms.n (by decide)) rfl ?_
  refine e_int (nI (S 155)) Yr.1.2.2.1 ?_
  refine e_bipush (nI 30) dX9_checkNightLeft_7 (by decide) ?_
  refine e_icmp_lt 23 dX9_checkNightLeft_9 (by decide) (fun c => absurd c (fun q => hn ((nI_lt' (by omega) (by omega)).mp q))) (fun _ => ?_)
  exact e_throwSW rfl rfl tw_S (fstr_m 8 rfl) dX9_checkNightLeft_12 dX9_checkNightLeft_15 dX9_checkNightLeft_16 dX9_checkNightLeft_19 dX9_checkNightLeft_22 (Nat.le_of_ble_eq_true rfl) rm.1 rm.2 h
