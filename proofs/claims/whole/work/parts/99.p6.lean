theorem nI_all (v : Int32) : v = nI v.toBitVec.toNat := by
  apply Int32.toBitVec_inj.mp
  show v.toBitVec = BitVec.ofNat 32 v.toBitVec.toNat
  rw [BitVec.ofNat_toNat, BitVec.setWidth_eq]
theorem nI_bv (n : Nat) : (nI n).toBitVec = BitVec.ofNat 32 n := rfl
theorem sw_and (v : Int32) : ∃ c, c < 32 ∧ v &&& nI 31 = nI c := by
  refine ⟨v.toBitVec.toNat % 32, Nat.mod_lt _ (by decide), ?_⟩
  exact (congrArg (fun z => z &&& nI 31) (nI_all v)).trans (pk_andN v.toBitVec.isLt (m := nI 31) 5 (by decide))
theorem nI_rl2 {a : Int32} {hi : Nat} (hh : hi < 100000) (h : nI 0 ≤ a ∧ a < nI hi) : ∃ n, a = nI n ∧ n < hi := by
  obtain ⟨n, h1, rfl⟩ := nI_ex h.1
  exact ⟨n, rfl, (nI_lt' h1 (by omega)).mp h.2⟩
theorem nI_mn1 {b : Int32} (h : -1 ≤ b ∧ b ≤ nI 9) : b = -1 ∨ ∃ c, b = nI c ∧ c ≤ 9 := by
  by_cases h0 : nI 0 ≤ b
  · obtain ⟨c, e, _, hc⟩ := nI_rg (lo := 0) (hi := 9) (by decide) (by decide) ⟨h0, h.2⟩
    exact Or.inr ⟨c, e, hc⟩
  · left
    have h1 : (-1 : Int32).toInt ≤ b.toInt := Int32.le_iff_toInt_le.mp h.1
    have h2 : ¬ (nI 0).toInt ≤ b.toInt := fun q => h0 (Int32.le_iff_toInt_le.mpr q)
    have e1 : (-1 : Int32).toInt = -1 := by decide
    have e2 : (nI 0).toInt = 0 := by decide
    apply Int32.toInt_inj.mp
    omega
theorem msk0 {a : Int32} {m : Nat} (hm : m < 4294967296) (h : a &&& (nI m ^^^ (-1)) = 0) : a.toBitVec.toNat &&& m = a.toBitVec.toNat := by
  have hb : a.toBitVec &&& BitVec.ofNat 32 m = a.toBitVec := by
    apply BitVec.eq_of_getLsbD_eq
    intro i hi
    have h2 : (a.toBitVec &&& (BitVec.ofNat 32 m ^^^ BitVec.allOnes 32)).getLsbD i = false := by
      have e : a.toBitVec &&& (BitVec.ofNat 32 m ^^^ BitVec.allOnes 32) = 0#32 := congrArg Int32.toBitVec h
      rw [e]
      exact BitVec.getLsbD_zero
    rw [BitVec.getLsbD_and, BitVec.getLsbD_xor, BitVec.getLsbD_allOnes, decide_eq_true hi] at h2
    rw [BitVec.getLsbD_and]
    cases h3 : a.toBitVec.getLsbD i
    · rfl
    · cases h4 : (BitVec.ofNat 32 m).getLsbD i
      · rw [h3, h4] at h2; exact absurd h2 (by decide)
      · rfl
  have := congrArg BitVec.toNat hb
  rw [BitVec.toNat_and, BitVec.toNat_ofNat, Nat.mod_eq_of_lt hm] at this
  exact this
theorem msk {a : Int32} {x : fXS} (ok : fOK x) (h : a &&& (nI (mfa (mal (xD x) (iS (xI x))) 12 (dT (xD x) 1) 0 0) ^^^ (-1)) = 0) : ∃ f, a = nI f ∧ f < 4096 ∧ ∀ j, dT (xD x) 1 ≤ j → f / 2 ^ j % 2 = 0 := by
  have hl : mfa (mal (xD x) (iS (xI x))) 12 (dT (xD x) 1) 0 0 < 4096 := mfa_lt ok.1.1.2.1
  have e := msk0 (by omega) h
  refine ⟨a.toBitVec.toNat, nI_all a, ?_, fun j hj => ?_⟩
  · rw [← e]
    exact Nat.lt_of_le_of_lt Nat.and_le_right hl
  · have hz := mbits_0 (D := xD x) (S := iS (xI x)) hj
    rw [← mfa_12 _ ok.1] at hz
    have t1 : (mfa (mal (xD x) (iS (xI x))) 12 (dT (xD x) 1) 0 0).testBit j = false := by
      rw [← tb1, decide_eq_false]
      omega
    have t2 : a.toBitVec.toNat.testBit j = false := by
      rw [← e, Nat.testBit_and, t1, Bool.and_false]
    rw [← tb1] at t2
    have := of_decide_eq_false t2
    have := d2 (b := a.toBitVec.toNat) (i := j)
    omega
set_option maxRecDepth 20000 in
theorem k_quarry {g : fGP} {d : Nat} {σ : fAH} {Q : fRes → fAH → Prop} {x : fXS} {nn ii : Nat} {o5 o6 : Option Value} (hg : gLL g < 2147483648) (hi6 : ii + 6 ≤ gLL g) (hI : fLI g σ x (nn + 1)) (h : ∀ σ' x' o5 o6, fLI g σ' x' nn → fEv g (d + 45) mL_law 1782 [some (.ref fscr), some (.ref 0), some (.ref 89), some (.ref 300), some (.int (nI ii)), o5, o6, none] [] σ' Q) : fEv g (d + 45) mL_law 257 [some (.ref fscr), some (.ref 0), some (.ref 89), some (.ref 300), some (.int (nI ii)), o5, o6, none] [] σ Q := by
  have t := hI.2.1.2.2.2.1
  by_cases hv1 : nI 0 ≤ gxs g (ii + 1) ∧ gxs g (ii + 1) ≤ nI (xt x)
  · obtain ⟨n, e1, l1, u1⟩ := nI_rg (lo := 0) (hi := xt x) (by decide) (by omega) hv1
    exact c_quarry hg hi6 hI u1 e1 h
  · exact c_quarryE hg hi6 hI hv1 rfl h
set_option maxRecDepth 20000 in
theorem k_told {g : fGP} {d : Nat} {σ : fAH} {Q : fRes → fAH → Prop} {x : fXS} {nn ii : Nat} {o5 o6 : Option Value} (hg : gLL g < 2147483648) (hi6 : ii + 6 ≤ gLL g) (hI : fLI g σ x (nn + 1)) (h : ∀ σ' x' o5 o6, fLI g σ' x' nn → fEv g (d + 45) mL_law 1782 [some (.ref fscr), some (.ref 0), some (.ref 89), some (.ref 300), some (.int (nI ii)), o5, o6, none] [] σ' Q) : fEv g (d + 45) mL_law 326 [some (.ref fscr), some (.ref 0), some (.ref 89), some (.ref 300), some (.int (nI ii)), o5, o6, none] [] σ Q := by
  by_cases hv1 : nI 0 ≤ gxs g (ii + 1) ∧ gxs g (ii + 1) ≤ nI 7
  · obtain ⟨w, e1, l1, u1⟩ := nI_rg (lo := 0) (hi := 7) (by decide) (by omega) hv1
    exact c_told hg hi6 hI (by omega) e1 h
  · exact c_toldE hg hi6 hI hv1 rfl h
set_option maxRecDepth 20000 in
theorem k_sums {g : fGP} {d : Nat} {σ : fAH} {Q : fRes → fAH → Prop} {x : fXS} {nn ii : Nat} {o5 o6 : Option Value} (hg : gLL g < 2147483648) (hi6 : ii + 6 ≤ gLL g) (hI : fLI g σ x (nn + 1)) (h : ∀ σ' x' o5 o6, fLI g σ' x' nn → fEv g (d + 45) mL_law 1782 [some (.ref fscr), some (.ref 0), some (.ref 89), some (.ref 300), some (.int (nI ii)), o5, o6, none] [] σ' Q) : fEv g (d + 45) mL_law 747 [some (.ref fscr), some (.ref 0), some (.ref 89), some (.ref 300), some (.int (nI ii)), o5, o6, none] [] σ Q := by
  by_cases hv1 : nI 0 ≤ gxs g (ii + 1) ∧ gxs g (ii + 1) ≤ nI 7
  · obtain ⟨w, e1, l1, u1⟩ := nI_rg (lo := 0) (hi := 7) (by decide) (by omega) hv1
    exact c_sums hg hi6 hI (by omega) e1 h
  · exact c_sumsE hg hi6 hI hv1 rfl h
set_option maxRecDepth 20000 in
theorem k_slot {g : fGP} {d : Nat} {σ : fAH} {Q : fRes → fAH → Prop} {x : fXS} {nn ii : Nat} {o5 o6 : Option Value} (hg : gLL g < 2147483648) (hi6 : ii + 6 ≤ gLL g) (hI : fLI g σ x (nn + 1)) (h : ∀ σ' x' o5 o6, fLI g σ' x' nn → fEv g (d + 45) mL_law 1782 [some (.ref fscr), some (.ref 0), some (.ref 89), some (.ref 300), some (.int (nI ii)), o5, o6, none] [] σ' Q) : fEv g (d + 45) mL_law 382 [some (.ref fscr), some (.ref 0), some (.ref 89), some (.ref 300), some (.int (nI ii)), o5, o6, none] [] σ Q := by
  have t := hI.2.1.1.1
  by_cases hv1 : nI 0 ≤ gxs g (ii + 1) ∧ gxs g (ii + 1) < nI (dT (xD x) 1)
  · obtain ⟨k, e1, u1⟩ := nI_rl (hi := dT (xD x) 1) (by omega) hv1
    by_cases hv2 : nI 0 ≤ gxs g (ii + 2) ∧ gxs g (ii + 2) ≤ nI 7
    · obtain ⟨w, e2, l2, u2⟩ := nI_rg (lo := 0) (hi := 7) (by decide) (by omega) hv2
      exact c_slot hg hi6 hI u1 (by omega) e1 e2 h
    · exact c_slotE2 hg hi6 hI u1 hv2 e1 rfl h
  · exact c_slotE1 hg hi6 hI hv1 rfl rfl h
set_option maxRecDepth 20000 in
theorem k_order {g : fGP} {d : Nat} {σ : fAH} {Q : fRes → fAH → Prop} {x : fXS} {nn ii : Nat} {o5 o6 : Option Value} (hg : gLL g < 2147483648) (hi6 : ii + 6 ≤ gLL g) (hI : fLI g σ x (nn + 1)) (h : ∀ σ' x' o5 o6, fLI g σ' x' nn → fEv g (d + 45) mL_law 1782 [some (.ref fscr), some (.ref 0), some (.ref 89), some (.ref 300), some (.int (nI ii)), o5, o6, none] [] σ' Q) : fEv g (d + 45) mL_law 450 [some (.ref fscr), some (.ref 0), some (.ref 89), some (.ref 300), some (.int (nI ii)), o5, o6, none] [] σ Q := by
  have t := hI.2.1.1.1
  by_cases hv1 : nI 0 ≤ gxs g (ii + 1) ∧ gxs g (ii + 1) < nI (dT (xD x) 2)
  · obtain ⟨k, e1, u1⟩ := nI_rl (hi := dT (xD x) 2) (by omega) hv1
    by_cases hv2 : nI 0 ≤ gxs g (ii + 2) ∧ gxs g (ii + 2) ≤ nI 5
    · obtain ⟨w, e2, l2, u2⟩ := nI_rg (lo := 0) (hi := 5) (by decide) (by omega) hv2
      exact c_order hg hi6 hI u1 (by omega) e1 e2 h
    · exact c_orderE2 hg hi6 hI u1 hv2 e1 rfl h
  · exact c_orderE1 hg hi6 hI hv1 rfl rfl h
set_option maxRecDepth 20000 in
theorem k_piece {g : fGP} {d : Nat} {σ : fAH} {Q : fRes → fAH → Prop} {x : fXS} {nn ii : Nat} {o5 o6 : Option Value} (hg : gLL g < 2147483648) (hi6 : ii + 6 ≤ gLL g) (hI : fLI g σ x (nn + 1)) (h : ∀ σ' x' o5 o6, fLI g σ' x' nn → fEv g (d + 45) mL_law 1782 [some (.ref fscr), some (.ref 0), some (.ref 89), some (.ref 300), some (.int (nI ii)), o5, o6, none] [] σ' Q) : fEv g (d + 45) mL_law 518 [some (.ref fscr), some (.ref 0), some (.ref 89), some (.ref 300), some (.int (nI ii)), o5, o6, none] [] σ Q := by
  have t := hI.2.1.1.1
  have t9 := hI.2.1.2.1.1.1
  by_cases hv1 : nI 0 ≤ gxs g (ii + 1) ∧ gxs g (ii + 1) < nI (iS (xI x) 120)
  · obtain ⟨k, e1, u1⟩ := nI_rl (hi := iS (xI x) 120) (by omega) hv1
    by_cases hv2 : nI 0 ≤ gxs g (ii + 2) ∧ gxs g (ii + 2) ≤ nI 5
    · obtain ⟨w, e2, l2, u2⟩ := nI_rg (lo := 0) (hi := 5) (by decide) (by omega) hv2
      exact c_piece hg hi6 hI u1 (by omega) e1 e2 h
    · exact c_pieceE2 hg hi6 hI u1 hv2 e1 rfl h
  · exact c_pieceE1 hg hi6 hI hv1 rfl rfl h
set_option maxRecDepth 20000 in
theorem k_odds {g : fGP} {d : Nat} {σ : fAH} {Q : fRes → fAH → Prop} {x : fXS} {nn ii : Nat} {o5 o6 : Option Value} (hg : gLL g < 2147483648) (hi6 : ii + 6 ≤ gLL g) (hI : fLI g σ x (nn + 1)) (h : ∀ σ' x' o5 o6, fLI g σ' x' nn → fEv g (d + 45) mL_law 1782 [some (.ref fscr), some (.ref 0), some (.ref 89), some (.ref 300), some (.int (nI ii)), o5, o6, none] [] σ' Q) : fEv g (d + 45) mL_law 586 [some (.ref fscr), some (.ref 0), some (.ref 89), some (.ref 300), some (.int (nI ii)), o5, o6, none] [] σ Q := by
  by_cases hv1 : nI 0 ≤ gxs g (ii + 1) ∧ gxs g (ii + 1) ≤ nI 29
  · obtain ⟨k, e1, l1, u1⟩ := nI_rg (lo := 0) (hi := 29) (by decide) (by omega) hv1
    by_cases hv2 : nI 1 ≤ gxs g (ii + 2) ∧ gxs g (ii + 2) ≤ nI 9
    · obtain ⟨w, e2, l2, u2⟩ := nI_rg (lo := 1) (hi := 9) (by decide) (by omega) hv2
      exact c_odds hg hi6 hI (by omega) ⟨l2, u2⟩ e1 e2 h
    · exact c_oddsE2 hg hi6 hI (by omega) hv2 e1 rfl h
  · exact c_oddsE1 hg hi6 hI hv1 rfl rfl h
set_option maxRecDepth 20000 in
theorem k_night {g : fGP} {d : Nat} {σ : fAH} {Q : fRes → fAH → Prop} {x : fXS} {nn ii : Nat} {o5 o6 : Option Value} (hg : gLL g < 2147483648) (hi6 : ii + 6 ≤ gLL g) (hI : fLI g σ x (nn + 1)) (h : ∀ σ' x' o5 o6, fLI g σ' x' nn → fEv g (d + 45) mL_law 1782 [some (.ref fscr), some (.ref 0), some (.ref 89), some (.ref 300), some (.int (nI ii)), o5, o6, none] [] σ' Q) : fEv g (d + 45) mL_law 679 [some (.ref fscr), some (.ref 0), some (.ref 89), some (.ref 300), some (.int (nI ii)), o5, o6, none] [] σ Q := by
  by_cases hv1 : gxs g (ii + 1) &&& (nI (mfa (mal (xD x) (iS (xI x))) 12 (dT (xD x) 1) 0 0) ^^^ (-1)) = 0
  · obtain ⟨f, e, hf, hfz⟩ := msk hI.2.1 hv1
    rw [e] at hv1
    by_cases hv2 : mon f 12 0 ≤ dT (xD x) 3
    · by_cases hb : -1 ≤ gxs g (ii + 2) ∧ gxs g (ii + 2) ≤ nI 9
      · by_cases hn : iS (xI x) 155 < 30
        · rcases nI_mn1 hb with e2 | ⟨c, e2, hc⟩
          · exact c_nightD hg hi6 hI hf hv1 hv2 hn e e2 h
          · exact c_night hg hi6 hI hf hv1 hv2 hn hc e e2 h
        · exact c_nightE4 hg hi6 hI hf hv1 hv2 hb hn e rfl h
      · exact c_nightE3 hg hi6 hI hf hv1 hv2 hb e rfl h
    · exact c_nightE2 hg hi6 hI hf hv1 hv2 e rfl h
  · exact c_nightE1 hg hi6 hI hv1 rfl rfl h
set_option maxRecDepth 20000 in
theorem k_now {g : fGP} {d : Nat} {σ : fAH} {Q : fRes → fAH → Prop} {x : fXS} {nn ii : Nat} {o5 o6 : Option Value} (hg : gLL g < 2147483648) (hi6 : ii + 6 ≤ gLL g) (hI : fLI g σ x (nn + 1)) (h : ∀ σ' x' o5 o6, fLI g σ' x' nn → fEv g (d + 45) mL_law 1782 [some (.ref fscr), some (.ref 0), some (.ref 89), some (.ref 300), some (.int (nI ii)), o5, o6, none] [] σ' Q) : fEv g (d + 45) mL_law 1385 [some (.ref fscr), some (.ref 0), some (.ref 89), some (.ref 300), some (.int (nI ii)), o5, o6, none] [] σ Q := by
  by_cases hv1 : gxs g (ii + 1) &&& (nI (mfa (mal (xD x) (iS (xI x))) 12 (dT (xD x) 1) 0 0) ^^^ (-1)) = 0
  · obtain ⟨f, e, hf, hfz⟩ := msk hI.2.1 hv1
    rw [e] at hv1
    by_cases hv2 : mon f 12 0 ≤ dT (xD x) 3
    · by_cases h6 : mon f 12 0 ≤ 6
      · by_cases hv3 : nI 0 ≤ gxs g (ii + 2) ∧ gxs g (ii + 2) ≤ nI 1
        · obtain ⟨w, e3, l3, u3⟩ := nI_rg (lo := 0) (hi := 1) (by decide) (by omega) hv3
          by_cases hn : iS (xI x) 155 < 30
          · exact c_now hg hi6 hI hf hv1 hv2 hfz h6 u3 hn e e3 h
          · exact c_nowE5 hg hi6 hI hf hv1 hv2 h6 u3 hn e e3 h
        · exact c_nowE4 hg hi6 hI hf hv1 hv2 h6 hv3 e rfl h
      · exact c_nowE3 hg hi6 hI hf hv1 hv2 h6 e rfl h
    · exact c_nowE2 hg hi6 hI hf hv1 hv2 e rfl h
  · exact c_nowE1 hg hi6 hI hv1 rfl rfl h
set_option maxRecDepth 20000 in
theorem k_trace {g : fGP} {d : Nat} {σ : fAH} {Q : fRes → fAH → Prop} {x : fXS} {nn ii : Nat} {o5 o6 : Option Value} (hg : gLL g < 2147483648) (hi6 : ii + 6 ≤ gLL g) (hI : fLI g σ x (nn + 1)) (h : ∀ σ' x' o5 o6, fLI g σ' x' nn → fEv g (d + 45) mL_law 1782 [some (.ref fscr), some (.ref 0), some (.ref 89), some (.ref 300), some (.int (nI ii)), o5, o6, none] [] σ' Q) : fEv g (d + 45) mL_law 803 [some (.ref fscr), some (.ref 0), some (.ref 89), some (.ref 300), some (.int (nI ii)), o5, o6, none] [] σ Q := by
  have t := hI.2.1.1.1
  have t9 := hI.2.1.2.1.1.1
  by_cases hv2 : nI 0 ≤ gxs g (ii + 2) ∧ gxs g (ii + 2) ≤ nI 3
  · obtain ⟨w, e2, l2, u2⟩ := nI_rg (lo := 0) (hi := 3) (by decide) (by omega) hv2
    by_cases hv1 : nI 0 ≤ gxs g (ii + 1) ∧ gxs g (ii + 1) < nI (iS (xI x) 152)
    · obtain ⟨k, e1, u1⟩ := nI_rl (hi := iS (xI x) 152) (by omega) hv1
      exact c_trace hg hi6 hI u1 (by omega) e1 e2 h
    · exact c_traceN hg hi6 hI hv1 (by omega) rfl e2 h
  · exact c_traceE hg hi6 hI hv2 rfl rfl h
set_option maxRecDepth 20000 in
theorem k_left {g : fGP} {d : Nat} {σ : fAH} {Q : fRes → fAH → Prop} {x : fXS} {nn ii : Nat} {o5 o6 : Option Value} (hg : gLL g < 2147483648) (hi6 : ii + 6 ≤ gLL g) (hI : fLI g σ x (nn + 1)) (h : ∀ σ' x' o5 o6, fLI g σ' x' nn → fEv g (d + 45) mL_law 1782 [some (.ref fscr), some (.ref 0), some (.ref 89), some (.ref 300), some (.int (nI ii)), o5, o6, none] [] σ' Q) : fEv g (d + 45) mL_law 909 [some (.ref fscr), some (.ref 0), some (.ref 89), some (.ref 300), some (.int (nI ii)), o5, o6, none] [] σ Q := by
  have t := hI.2.1.1.1
  by_cases hv1 : nI 0 ≤ gxs g (ii + 1) ∧ gxs g (ii + 1) < nI (dT (xD x) 1)
  · obtain ⟨k, e1, u1⟩ := nI_rl (hi := dT (xD x) 1) (by omega) hv1
    by_cases hv2 : nI 0 ≤ gxs g (ii + 2) ∧ gxs g (ii + 2) ≤ nI 2
    · obtain ⟨w, e2, l2, u2⟩ := nI_rg (lo := 0) (hi := 2) (by decide) (by omega) hv2
      by_cases hv3 : nI 0 ≤ gxs g (ii + 3) ∧ gxs g (ii + 3) ≤ nI 1
      · obtain ⟨pt, e3, l3, u3⟩ := nI_rg (lo := 0) (hi := 1) (by decide) (by omega) hv3
        exact c_left hg hi6 hI u1 u2 u3 e1 e2 e3 h
      · exact c_leftE3 hg hi6 hI u1 u2 hv3 e1 e2 rfl h
    · exact c_leftE2 hg hi6 hI u1 hv2 e1 rfl rfl h
  · exact c_leftE1 hg hi6 hI hv1 rfl rfl rfl h
set_option maxRecDepth 20000 in
theorem k_fits {g : fGP} {d : Nat} {σ : fAH} {Q : fRes → fAH → Prop} {x : fXS} {nn ii : Nat} {o5 o6 : Option Value} (hg : gLL g < 2147483648) (hi6 : ii + 6 ≤ gLL g) (hI : fLI g σ x (nn + 1)) (h : ∀ σ' x' o5 o6, fLI g σ' x' nn → fEv g (d + 45) mL_law 1782 [some (.ref fscr), some (.ref 0), some (.ref 89), some (.ref 300), some (.int (nI ii)), o5, o6, none] [] σ' Q) : fEv g (d + 45) mL_law 989 [some (.ref fscr), some (.ref 0), some (.ref 89), some (.ref 300), some (.int (nI ii)), o5, o6, none] [] σ Q := by
  have t := hI.2.1.1.1
  by_cases hv1 : nI 0 ≤ gxs g (ii + 1) ∧ gxs g (ii + 1) < nI (dT (xD x) 1)
  · obtain ⟨k, e1, u1⟩ := nI_rl (hi := dT (xD x) 1) (by omega) hv1
    by_cases hv2 : nI 0 ≤ gxs g (ii + 2) ∧ gxs g (ii + 2) ≤ nI 2
    · obtain ⟨w, e2, l2, u2⟩ := nI_rg (lo := 0) (hi := 2) (by decide) (by omega) hv2
      by_cases hv3 : nI 0 ≤ gxs g (ii + 3) ∧ gxs g (ii + 3) ≤ nI 1
      · obtain ⟨pt, e3, l3, u3⟩ := nI_rg (lo := 0) (hi := 1) (by decide) (by omega) hv3
        exact c_fits hg hi6 hI u1 u2 u3 e1 e2 e3 h
      · exact c_fitsE3 hg hi6 hI u1 u2 hv3 e1 e2 rfl h
    · exact c_fitsE2 hg hi6 hI u1 hv2 e1 rfl rfl h
  · exact c_fitsE1 hg hi6 hI hv1 rfl rfl rfl h
set_option maxRecDepth 20000 in
theorem k_plan {g : fGP} {d : Nat} {σ : fAH} {Q : fRes → fAH → Prop} {x : fXS} {nn ii : Nat} {o5 o6 : Option Value} (hg : gLL g < 2147483648) (hi6 : ii + 6 ≤ gLL g) (hI : fLI g σ x (nn + 1)) (h : ∀ σ' x' o5 o6, fLI g σ' x' nn → fEv g (d + 45) mL_law 1782 [some (.ref fscr), some (.ref 0), some (.ref 89), some (.ref 300), some (.int (nI ii)), o5, o6, none] [] σ' Q) : fEv g (d + 45) mL_law 1069 [some (.ref fscr), some (.ref 0), some (.ref 89), some (.ref 300), some (.int (nI ii)), o5, o6, none] [] σ Q := by
  have t := pw12 hI.2.1
  have t9 := hI.2.1.2.1.2.2.2.1
  by_cases hv1 : nI 0 ≤ gxs g (ii + 1) ∧ gxs g (ii + 1) < nI (2 ^ dT (xD x) 1)
  · obtain ⟨f, e1, u1⟩ := nI_rl2 (hi := 2 ^ dT (xD x) 1) (by omega) hv1
    by_cases hp : ipn (xI x) < 30
    · exact c_plan hg hi6 hI u1 hp e1 h
    · exact c_planN hg hi6 hI u1 (by omega) e1 h
  · exact c_planE hg hi6 hI hv1 rfl h
set_option maxRecDepth 20000 in
theorem k_would {g : fGP} {d : Nat} {σ : fAH} {Q : fRes → fAH → Prop} {x : fXS} {nn ii : Nat} {o5 o6 : Option Value} (hg : gLL g < 2147483648) (hi6 : ii + 6 ≤ gLL g) (hI : fLI g σ x (nn + 1)) (h : ∀ σ' x' o5 o6, fLI g σ' x' nn → fEv g (d + 45) mL_law 1782 [some (.ref fscr), some (.ref 0), some (.ref 89), some (.ref 300), some (.int (nI ii)), o5, o6, none] [] σ' Q) : fEv g (d + 45) mL_law 1138 [some (.ref fscr), some (.ref 0), some (.ref 89), some (.ref 300), some (.int (nI ii)), o5, o6, none] [] σ Q := by
  by_cases hv2 : nI 0 ≤ gxs g (ii + 2) ∧ gxs g (ii + 2) ≤ nI 5
  · obtain ⟨w, e2, l2, u2⟩ := nI_rg (lo := 0) (hi := 5) (by decide) (by omega) hv2
    exact c_would hg hi6 hI (by omega) rfl e2 h
  · exact c_wouldE hg hi6 hI hv2 rfl rfl h
set_option maxRecDepth 20000 in
theorem k_promise {g : fGP} {d : Nat} {σ : fAH} {Q : fRes → fAH → Prop} {x : fXS} {nn ii : Nat} {o5 o6 : Option Value} (hg : gLL g < 2147483648) (hi6 : ii + 6 ≤ gLL g) (hI : fLI g σ x (nn + 1)) (h : ∀ σ' x' o5 o6, fLI g σ' x' nn → fEv g (d + 45) mL_law 1782 [some (.ref fscr), some (.ref 0), some (.ref 89), some (.ref 300), some (.int (nI ii)), o5, o6, none] [] σ' Q) : fEv g (d + 45) mL_law 1206 [some (.ref fscr), some (.ref 0), some (.ref 89), some (.ref 300), some (.int (nI ii)), o5, o6, none] [] σ Q := by
  have t := hI.2.1.1.1
  by_cases hv1 : nI 0 ≤ gxs g (ii + 1) ∧ gxs g (ii + 1) < nI (dT (xD x) 2)
  · obtain ⟨o, e1, u1⟩ := nI_rl (hi := dT (xD x) 2) (by omega) hv1
    by_cases hv3 : nI 1 ≤ gxs g (ii + 3) ∧ gxs g (ii + 3) ≤ nI 99
    · obtain ⟨many, e3, l3, u3⟩ := nI_rg (lo := 1) (hi := 99) (by decide) (by omega) hv3
      exact c_promise hg hi6 hI u1 ⟨l3, u3⟩ e1 rfl e3 h
    · exact c_promiseE2 hg hi6 hI u1 hv3 e1 rfl rfl h
  · exact c_promiseE1 hg hi6 hI hv1 rfl rfl rfl h
set_option maxRecDepth 20000 in
theorem k_tonight {g : fGP} {d : Nat} {σ : fAH} {Q : fRes → fAH → Prop} {x : fXS} {nn ii : Nat} {o5 o6 : Option Value} (hg : gLL g < 2147483648) (hi6 : ii + 6 ≤ gLL g) (hI : fLI g σ x (nn + 1)) (h : ∀ σ' x' o5 o6, fLI g σ' x' nn → fEv g (d + 45) mL_law 1782 [some (.ref fscr), some (.ref 0), some (.ref 89), some (.ref 300), some (.int (nI ii)), o5, o6, none] [] σ' Q) : fEv g (d + 45) mL_law 1286 [some (.ref fscr), some (.ref 0), some (.ref 89), some (.ref 300), some (.int (nI ii)), o5, o6, none] [] σ Q := by
  by_cases hn : iS (xI x) 155 < 30
  · exact c_tonight hg hi6 hI hn h
  · exact c_tonightE hg hi6 hI hn h
set_option maxRecDepth 20000 in
theorem k_deeper {g : fGP} {d : Nat} {σ : fAH} {Q : fRes → fAH → Prop} {x : fXS} {nn ii : Nat} {o5 o6 : Option Value} (hg : gLL g < 2147483648) (hi6 : ii + 6 ≤ gLL g) (hI : fLI g σ x (nn + 1)) (h : ∀ σ' x' o5 o6, fLI g σ' x' nn → fEv g (d + 45) mL_law 1782 [some (.ref fscr), some (.ref 0), some (.ref 89), some (.ref 300), some (.int (nI ii)), o5, o6, none] [] σ' Q) : fEv g (d + 45) mL_law 1452 [some (.ref fscr), some (.ref 0), some (.ref 89), some (.ref 300), some (.int (nI ii)), o5, o6, none] [] σ Q := by
  by_cases hn : iS (xI x) 155 < 30
  · exact c_deeper hg hi6 hI hn h
  · exact c_deeperE hg hi6 hI hn h
set_option maxRecDepth 20000 in
theorem k_worth {g : fGP} {d : Nat} {σ : fAH} {Q : fRes → fAH → Prop} {x : fXS} {nn ii : Nat} {o5 o6 : Option Value} (hg : gLL g < 2147483648) (hi6 : ii + 6 ≤ gLL g) (hI : fLI g σ x (nn + 1)) (h : ∀ σ' x' o5 o6, fLI g σ' x' nn → fEv g (d + 45) mL_law 1782 [some (.ref fscr), some (.ref 0), some (.ref 89), some (.ref 300), some (.int (nI ii)), o5, o6, none] [] σ' Q) : fEv g (d + 45) mL_law 1330 [some (.ref fscr), some (.ref 0), some (.ref 89), some (.ref 300), some (.int (nI ii)), o5, o6, none] [] σ Q := by
  by_cases hv1 : nI 0 ≤ gxs g (ii + 1) ∧ gxs g (ii + 1) ≤ nI 1
  · obtain ⟨w, e1, l1, u1⟩ := nI_rg (lo := 0) (hi := 1) (by decide) (by omega) hv1
    by_cases hn : iS (xI x) 155 < 30
    · exact c_worth hg hi6 hI u1 hn e1 h
    · exact c_worthE2 hg hi6 hI u1 hn e1 h
  · exact c_worthE1 hg hi6 hI hv1 rfl h
set_option maxRecDepth 20000 in
theorem k_trust {g : fGP} {d : Nat} {σ : fAH} {Q : fRes → fAH → Prop} {x : fXS} {nn ii : Nat} {o5 o6 : Option Value} (hg : gLL g < 2147483648) (hi6 : ii + 6 ≤ gLL g) (hI : fLI g σ x (nn + 1)) (h : ∀ σ' x' o5 o6, fLI g σ' x' nn → fEv g (d + 45) mL_law 1782 [some (.ref fscr), some (.ref 0), some (.ref 89), some (.ref 300), some (.int (nI ii)), o5, o6, none] [] σ' Q) : fEv g (d + 45) mL_law 1565 [some (.ref fscr), some (.ref 0), some (.ref 89), some (.ref 300), some (.int (nI ii)), o5, o6, none] [] σ Q := by
  by_cases hz : gxs g (ii + 1) = 0
  · by_cases hv2 : nI 0 ≤ gxs g (ii + 2) ∧ gxs g (ii + 2) ≤ nI 1
    · obtain ⟨w, e2, l2, u2⟩ := nI_rg (lo := 0) (hi := 1) (by decide) (by omega) hv2
      exact c_trust0 hg hi6 hI (by decide) u2 hz e2 h
    · exact c_trustE0 hg hi6 hI hv2 hz rfl h
  · by_cases hv2 : nI 0 ≤ gxs g (ii + 2) ∧ gxs g (ii + 2) ≤ nI 1
    · obtain ⟨w, e2, l2, u2⟩ := nI_rg (lo := 0) (hi := 1) (by decide) (by omega) hv2
      exact c_trust1 hg hi6 hI (by decide) u2 hz e2 h
    · exact c_trustE1 hg hi6 hI hv2 hz rfl h
set_option maxRecDepth 20000 in
theorem k_thumb {g : fGP} {d : Nat} {σ : fAH} {Q : fRes → fAH → Prop} {x : fXS} {nn ii : Nat} {o5 o6 : Option Value} (hg : gLL g < 2147483648) (hi6 : ii + 6 ≤ gLL g) (hI : fLI g σ x (nn + 1)) (h : ∀ σ' x' o5 o6, fLI g σ' x' nn → fEv g (d + 45) mL_law 1782 [some (.ref fscr), some (.ref 0), some (.ref 89), some (.ref 300), some (.int (nI ii)), o5, o6, none] [] σ' Q) : fEv g (d + 45) mL_law 1496 [some (.ref fscr), some (.ref 0), some (.ref 89), some (.ref 300), some (.int (nI ii)), o5, o6, none] [] σ Q := by
  have t9 := hI.2.1.2.1.2.2.2.2.2.1
  by_cases hz : gxs g (ii + 1) = 0
  · by_cases hy : gxs g (ii + 2) = 0
    · by_cases hr : irn (xI x) < 60
      · exact c_thumb00 hg hi6 hI (by decide) (by decide) hr hz hy h
      · exact c_thumbN00 hg hi6 hI (by omega) hz hy h
    · by_cases hr : irn (xI x) < 60
      · exact c_thumb01 hg hi6 hI (by decide) (by decide) hr hz hy h
      · exact c_thumbN01 hg hi6 hI (by omega) hz hy h
  · by_cases hy : gxs g (ii + 2) = 0
    · by_cases hr : irn (xI x) < 60
      · exact c_thumb10 hg hi6 hI (by decide) (by decide) hr hz hy h
      · exact c_thumbN10 hg hi6 hI (by omega) hz hy h
    · by_cases hr : irn (xI x) < 60
      · exact c_thumb11 hg hi6 hI (by decide) (by decide) hr hz hy h
      · exact c_thumbN11 hg hi6 hI (by omega) hz hy h
set_option maxRecDepth 20000 in
theorem k_face {g : fGP} {d : Nat} {σ : fAH} {Q : fRes → fAH → Prop} {x : fXS} {nn ii : Nat} {o5 o6 : Option Value} (hg : gLL g < 2147483648) (hi6 : ii + 6 ≤ gLL g) (hI : fLI g σ x (nn + 1)) (h : ∀ σ' x' o5 o6, fLI g σ' x' nn → fEv g (d + 45) mL_law 1782 [some (.ref fscr), some (.ref 0), some (.ref 89), some (.ref 300), some (.int (nI ii)), o5, o6, none] [] σ' Q) : fEv g (d + 45) mL_law 1675 [some (.ref fscr), some (.ref 0), some (.ref 89), some (.ref 300), some (.int (nI ii)), o5, o6, none] [] σ Q := by
  have t := hI.2.1.1.1
  by_cases hv1 : nI 0 ≤ gxs g (ii + 1) ∧ gxs g (ii + 1) < nI (dT (xD x) 1)
  · obtain ⟨k, e1, u1⟩ := nI_rl (hi := dT (xD x) 1) (by omega) hv1
    exact c_face hg hi6 hI u1 e1 h
  · exact c_faceE hg hi6 hI hv1 rfl h
set_option maxRecDepth 20000 in
theorem k_count {g : fGP} {d : Nat} {σ : fAH} {Q : fRes → fAH → Prop} {x : fXS} {nn ii : Nat} {o5 o6 : Option Value} (hg : gLL g < 2147483648) (hi6 : ii + 6 ≤ gLL g) (hI : fLI g σ x (nn + 1)) (h : ∀ σ' x' o5 o6, fLI g σ' x' nn → fEv g (d + 45) mL_law 1782 [some (.ref fscr), some (.ref 0), some (.ref 89), some (.ref 300), some (.int (nI ii)), o5, o6, none] [] σ' Q) : fEv g (d + 45) mL_law 1757 [some (.ref fscr), some (.ref 0), some (.ref 89), some (.ref 300), some (.int (nI ii)), o5, o6, none] [] σ Q := by
  by_cases hv1 : nI 0 ≤ gxs g (ii + 1) ∧ gxs g (ii + 1) ≤ nI 3
  · obtain ⟨w, e1, l1, u1⟩ := nI_rg (lo := 0) (hi := 3) (by decide) (by omega) hv1
    exact c_count hg hi6 hI (by omega) e1 h
  · exact c_countN hg hi6 hI hv1 rfl h
set_option maxRecDepth 20000 in
theorem k_cold {g : fGP} {d : Nat} {σ : fAH} {Q : fRes → fAH → Prop} {x : fXS} {nn ii : Nat} {o5 o6 : Option Value} (hg : gLL g < 2147483648) (hi6 : ii + 6 ≤ gLL g) (hI : fLI g σ x (nn + 1)) (h : ∀ σ' x' o5 o6, fLI g σ' x' nn → fEv g (d + 45) mL_law 1782 [some (.ref fscr), some (.ref 0), some (.ref 89), some (.ref 300), some (.int (nI ii)), o5, o6, none] [] σ' Q) : fEv g (d + 45) mL_law 871 [some (.ref fscr), some (.ref 0), some (.ref 89), some (.ref 300), some (.int (nI ii)), o5, o6, none] [] σ Q := by
  have t9 := hI.2.1.2.1.1.2.2.2.2
  by_cases hv1 : nI 0 ≤ gxs g (ii + 1) ∧ gxs g (ii + 1) < nI (iS (xI x) 155)
  · obtain ⟨k, e1, u1⟩ := nI_rl (hi := iS (xI x) 155) (by omega) hv1
    exact c_cold hg hi6 hI u1 e1 h
  · exact c_coldN hg hi6 hI hv1 rfl h
set_option maxRecDepth 20000 in
theorem k_fault {g : fGP} {d : Nat} {σ : fAH} {Q : fRes → fAH → Prop} {x : fXS} {nn ii : Nat} {o5 o6 : Option Value} (hg : gLL g < 2147483648) (hi6 : ii + 6 ≤ gLL g) (hI : fLI g σ x (nn + 1)) (h : ∀ σ' x' o5 o6, fLI g σ' x' nn → fEv g (d + 45) mL_law 1782 [some (.ref fscr), some (.ref 0), some (.ref 89), some (.ref 300), some (.int (nI ii)), o5, o6, none] [] σ' Q) : fEv g (d + 45) mL_law 313 [some (.ref fscr), some (.ref 0), some (.ref 89), some (.ref 300), some (.int (nI ii)), o5, o6, none] [] σ Q := by
  exact c_fault hg hi6 hI h
set_option maxRecDepth 20000 in
theorem k_undone {g : fGP} {d : Nat} {σ : fAH} {Q : fRes → fAH → Prop} {x : fXS} {nn ii : Nat} {o5 o6 : Option Value} (hg : gLL g < 2147483648) (hi6 : ii + 6 ≤ gLL g) (hI : fLI g σ x (nn + 1)) (h : ∀ σ' x' o5 o6, fLI g σ' x' nn → fEv g (d + 45) mL_law 1782 [some (.ref fscr), some (.ref 0), some (.ref 89), some (.ref 300), some (.int (nI ii)), o5, o6, none] [] σ' Q) : fEv g (d + 45) mL_law 896 [some (.ref fscr), some (.ref 0), some (.ref 89), some (.ref 300), some (.int (nI ii)), o5, o6, none] [] σ Q := by
  exact c_undone hg hi6 hI h
set_option maxRecDepth 20000 in
theorem k_clear {g : fGP} {d : Nat} {σ : fAH} {Q : fRes → fAH → Prop} {x : fXS} {nn ii : Nat} {o5 o6 : Option Value} (hg : gLL g < 2147483648) (hi6 : ii + 6 ≤ gLL g) (hI : fLI g σ x (nn + 1)) (h : ∀ σ' x' o5 o6, fLI g σ' x' nn → fEv g (d + 45) mL_law 1782 [some (.ref fscr), some (.ref 0), some (.ref 89), some (.ref 300), some (.int (nI ii)), o5, o6, none] [] σ' Q) : fEv g (d + 45) mL_law 1125 [some (.ref fscr), some (.ref 0), some (.ref 89), some (.ref 300), some (.int (nI ii)), o5, o6, none] [] σ Q := by
  exact c_clear hg hi6 hI h
set_option maxRecDepth 20000 in
theorem k_listening {g : fGP} {d : Nat} {σ : fAH} {Q : fRes → fAH → Prop} {x : fXS} {nn ii : Nat} {o5 o6 : Option Value} (hg : gLL g < 2147483648) (hi6 : ii + 6 ≤ gLL g) (hI : fLI g σ x (nn + 1)) (h : ∀ σ' x' o5 o6, fLI g σ' x' nn → fEv g (d + 45) mL_law 1782 [some (.ref fscr), some (.ref 0), some (.ref 89), some (.ref 300), some (.int (nI ii)), o5, o6, none] [] σ' Q) : fEv g (d + 45) mL_law 1649 [some (.ref fscr), some (.ref 0), some (.ref 89), some (.ref 300), some (.int (nI ii)), o5, o6, none] [] σ Q := by
  exact c_listening hg hi6 hI h
set_option maxRecDepth 20000 in
theorem k_tower {g : fGP} {d : Nat} {σ : fAH} {Q : fRes → fAH → Prop} {x : fXS} {nn ii : Nat} {o5 o6 : Option Value} (hg : gLL g < 2147483648) (hi6 : ii + 6 ≤ gLL g) (hI : fLI g σ x (nn + 1)) (h : ∀ σ' x' o5 o6, fLI g σ' x' nn → fEv g (d + 45) mL_law 1782 [some (.ref fscr), some (.ref 0), some (.ref 89), some (.ref 300), some (.int (nI ii)), o5, o6, none] [] σ' Q) : fEv g (d + 45) mL_law 1662 [some (.ref fscr), some (.ref 0), some (.ref 89), some (.ref 300), some (.int (nI ii)), o5, o6, none] [] σ Q := by
  exact c_tower hg hi6 hI h
set_option maxRecDepth 20000 in
theorem k_seed {g : fGP} {d : Nat} {σ : fAH} {Q : fRes → fAH → Prop} {x : fXS} {nn ii : Nat} {o5 o6 : Option Value} (hg : gLL g < 2147483648) (hi6 : ii + 6 ≤ gLL g) (hI : fLI g σ x (nn + 1)) (h : ∀ σ' x' o5 o6, fLI g σ' x' nn → fEv g (d + 45) mL_law 1782 [some (.ref fscr), some (.ref 0), some (.ref 89), some (.ref 300), some (.int (nI ii)), o5, o6, none] [] σ' Q) : fEv g (d + 45) mL_law 654 [some (.ref fscr), some (.ref 0), some (.ref 89), some (.ref 300), some (.int (nI ii)), o5, o6, none] [] σ Q := by
  exact c_seed hg hi6 hI rfl h
set_option maxRecDepth 20000 in
theorem k_feed {g : fGP} {d : Nat} {σ : fAH} {Q : fRes → fAH → Prop} {x : fXS} {nn ii : Nat} {o5 o6 : Option Value} (hg : gLL g < 2147483648) (hi6 : ii + 6 ≤ gLL g) (hI : fLI g σ x (nn + 1)) (h : ∀ σ' x' o5 o6, fLI g σ' x' nn → fEv g (d + 45) mL_law 1782 [some (.ref fscr), some (.ref 0), some (.ref 89), some (.ref 300), some (.int (nI ii)), o5, o6, none] [] σ' Q) : fEv g (d + 45) mL_law 184 [some (.ref fscr), some (.ref 0), some (.ref 89), some (.ref 300), some (.int (nI ii)), o5, o6, none] [] σ Q := by
  by_cases ht : xt x + 20 ≤ 600
  · exact c_feed hg hi6 hI ht rfl rfl rfl rfl rfl h
  · exact c_feedN hg hi6 hI ht rfl rfl rfl rfl rfl h
set_option maxRecDepth 20000 in
theorem k_image {g : fGP} {d : Nat} {σ : fAH} {Q : fRes → fAH → Prop} {x : fXS} {nn ii : Nat} {o5 o6 : Option Value} (hg : gLL g < 2147483648) (hi6 : ii + 6 ≤ gLL g) (hI : fLI g σ x (nn + 1)) (h : ∀ σ' x' o5 o6, fLI g σ' x' nn → fEv g (d + 45) mL_law 1782 [some (.ref fscr), some (.ref 0), some (.ref 89), some (.ref 300), some (.int (nI ii)), o5, o6, none] [] σ' Q) : fEv g (d + 45) mL_law 1731 [some (.ref fscr), some (.ref 0), some (.ref 89), some (.ref 300), some (.int (nI ii)), o5, o6, none] [] σ Q := by
  have t9 := hI.2.1.2.2.2.2.1
  by_cases hm : xm x < 3
  · exact c_image hg hi6 hI hm h
  · exact c_imageN hg hi6 hI (by omega) h
set_option maxRecDepth 20000 in
theorem k_restore {g : fGP} {d : Nat} {σ : fAH} {Q : fRes → fAH → Prop} {x : fXS} {nn ii : Nat} {o5 o6 : Option Value} (hg : gLL g < 2147483648) (hi6 : ii + 6 ≤ gLL g) (hI : fLI g σ x (nn + 1)) (h : ∀ σ' x' o5 o6, fLI g σ' x' nn → fEv g (d + 45) mL_law 1782 [some (.ref fscr), some (.ref 0), some (.ref 89), some (.ref 300), some (.int (nI ii)), o5, o6, none] [] σ' Q) : fEv g (d + 45) mL_law 1744 [some (.ref fscr), some (.ref 0), some (.ref 89), some (.ref 300), some (.int (nI ii)), o5, o6, none] [] σ Q := by
  by_cases hm : 0 < xm x
  · exact c_restore hg hi6 hI hm h
  · exact c_restoreN hg hi6 hI (by omega) h
set_option maxRecDepth 20000 in
theorem k_switch {g : fGP} {d : Nat} {σ : fAH} {Q : fRes → fAH → Prop} {x : fXS} {nn ii : Nat} {o5 o6 : Option Value} (hg : gLL g < 2147483648) (hi6 : ii + 6 ≤ gLL g) (hI : fLI g σ x (nn + 1)) (h : ∀ σ' x' o5 o6, fLI g σ' x' nn → fEv g (d + 45) mL_law 1782 [some (.ref fscr), some (.ref 0), some (.ref 89), some (.ref 300), some (.int (nI ii)), o5, o6, none] [] σ' Q) : fEv g (d + 45) mL_law 33 [some (.ref fscr), some (.ref 0), some (.ref 89), some (.ref 300), some (.int (nI ii)), o5, o6, none] [] σ Q := by
  obtain ⟨c, hc, ec⟩ := sw_and (gxs g ii)
  refine e_aload_n dL_law_33 rfl rfl ?_
  refine e_iload dL_law_34 rfl ?_
  refine e_sld ii dL_law_36 rfl (by omega) hg ?_
  refine e_bipush (nI 31) dL_law_37 (by decide) ?_
  refine e_iand dL_law_39 ?_
  refine e_int (nI c) ec ?_
  have hall : c = 0 ∨ c = 1 ∨ c = 2 ∨ c = 3 ∨ c = 4 ∨ c = 5 ∨ c = 6 ∨ c = 7 ∨ c = 8 ∨ c = 9 ∨ c = 10 ∨ c = 11 ∨ c = 12 ∨ c = 13 ∨ c = 14 ∨ c = 15 ∨ c = 16 ∨ c = 17 ∨ c = 18 ∨ c = 19 ∨ c = 20 ∨ c = 21 ∨ c = 22 ∨ c = 23 ∨ c = 24 ∨ c = 25 ∨ c = 26 ∨ c = 27 ∨ c = 28 ∨ c = 29 ∨ c = 30 ∨ c = 31 := by omega
  rcases hall with rfl | rfl | rfl | rfl | rfl | rfl | rfl | rfl | rfl | rfl | rfl | rfl | rfl | rfl | rfl | rfl | rfl | rfl | rfl | rfl | rfl | rfl | rfl | rfl | rfl | rfl | rfl | rfl | rfl | rfl | rfl | rfl
  · exact e_tswIn (off := 144) 184 dL_law_40 (by decide) (by decide) (by decide) (by decide) (k_feed hg hi6 hI h)
  · exact e_tswIn (off := 217) 257 dL_law_40 (by decide) (by decide) (by decide) (by decide) (k_quarry hg hi6 hI h)
  · exact e_tswIn (off := 273) 313 dL_law_40 (by decide) (by decide) (by decide) (by decide) (k_fault hg hi6 hI h)
  · exact e_tswIn (off := 286) 326 dL_law_40 (by decide) (by decide) (by decide) (by decide) (k_told hg hi6 hI h)
  · exact e_tswIn (off := 342) 382 dL_law_40 (by decide) (by decide) (by decide) (by decide) (k_slot hg hi6 hI h)
  · exact e_tswIn (off := 410) 450 dL_law_40 (by decide) (by decide) (by decide) (by decide) (k_order hg hi6 hI h)
  · exact e_tswIn (off := 478) 518 dL_law_40 (by decide) (by decide) (by decide) (by decide) (k_piece hg hi6 hI h)
  · exact e_tswIn (off := 546) 586 dL_law_40 (by decide) (by decide) (by decide) (by decide) (k_odds hg hi6 hI h)
  · exact e_tswIn (off := 614) 654 dL_law_40 (by decide) (by decide) (by decide) (by decide) (k_seed hg hi6 hI h)
  · exact e_tswIn (off := 639) 679 dL_law_40 (by decide) (by decide) (by decide) (by decide) (k_night hg hi6 hI h)
  · exact e_tswIn (off := 707) 747 dL_law_40 (by decide) (by decide) (by decide) (by decide) (k_sums hg hi6 hI h)
  · exact e_tswIn (off := 763) 803 dL_law_40 (by decide) (by decide) (by decide) (by decide) (k_trace hg hi6 hI h)
  · exact e_tswIn (off := 831) 871 dL_law_40 (by decide) (by decide) (by decide) (by decide) (k_cold hg hi6 hI h)
  · exact e_tswIn (off := 856) 896 dL_law_40 (by decide) (by decide) (by decide) (by decide) (k_undone hg hi6 hI h)
  · exact e_tswIn (off := 869) 909 dL_law_40 (by decide) (by decide) (by decide) (by decide) (k_left hg hi6 hI h)
  · exact e_tswIn (off := 949) 989 dL_law_40 (by decide) (by decide) (by decide) (by decide) (k_fits hg hi6 hI h)
  · exact e_tswIn (off := 1029) 1069 dL_law_40 (by decide) (by decide) (by decide) (by decide) (k_plan hg hi6 hI h)
  · exact e_tswIn (off := 1085) 1125 dL_law_40 (by decide) (by decide) (by decide) (by decide) (k_clear hg hi6 hI h)
  · exact e_tswIn (off := 1098) 1138 dL_law_40 (by decide) (by decide) (by decide) (by decide) (k_would hg hi6 hI h)
  · exact e_tswIn (off := 1166) 1206 dL_law_40 (by decide) (by decide) (by decide) (by decide) (k_promise hg hi6 hI h)
  · exact e_tswIn (off := 1246) 1286 dL_law_40 (by decide) (by decide) (by decide) (by decide) (k_tonight hg hi6 hI h)
  · exact e_tswIn (off := 1290) 1330 dL_law_40 (by decide) (by decide) (by decide) (by decide) (k_worth hg hi6 hI h)
  · exact e_tswIn (off := 1345) 1385 dL_law_40 (by decide) (by decide) (by decide) (by decide) (k_now hg hi6 hI h)
  · exact e_tswIn (off := 1412) 1452 dL_law_40 (by decide) (by decide) (by decide) (by decide) (k_deeper hg hi6 hI h)
  · exact e_tswIn (off := 1456) 1496 dL_law_40 (by decide) (by decide) (by decide) (by decide) (k_thumb hg hi6 hI h)
  · exact e_tswIn (off := 1525) 1565 dL_law_40 (by decide) (by decide) (by decide) (by decide) (k_trust hg hi6 hI h)
  · exact e_tswIn (off := 1609) 1649 dL_law_40 (by decide) (by decide) (by decide) (by decide) (k_listening hg hi6 hI h)
  · exact e_tswIn (off := 1622) 1662 dL_law_40 (by decide) (by decide) (by decide) (by decide) (k_tower hg hi6 hI h)
  · exact e_tswIn (off := 1635) 1675 dL_law_40 (by decide) (by decide) (by decide) (by decide) (k_face hg hi6 hI h)
  · exact e_tswIn (off := 1691) 1731 dL_law_40 (by decide) (by decide) (by decide) (by decide) (k_image hg hi6 hI h)
  · exact e_tswIn (off := 1704) 1744 dL_law_40 (by decide) (by decide) (by decide) (by decide) (k_restore hg hi6 hI h)
  · exact e_tswIn (off := 1717) 1757 dL_law_40 (by decide) (by decide) (by decide) (by decide) (k_count hg hi6 hI h)
