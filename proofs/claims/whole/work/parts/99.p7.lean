theorem lw_gt {i L : Nat} (hL : L < 100000) (hi : i < 200000) : (nI L - nI 6 < nI i) ↔ L < i + 6 := by
  have e1 : (nI L).toInt = L := nI_toInt (by omega)
  have e2 : (nI i).toInt = i := nI_toInt (by omega)
  have e3 : (nI 6).toInt = 6 := by decide
  have e4 : (nI L - nI 6).toInt = (L : Int) - 6 := by
    rw [Int32.toInt_sub, e1, e3]
    exact Int.bmod_eq_of_le (by omega) (by omega)
  rw [Int32.lt_iff_toInt_lt, e4, e2]
  omega
set_option maxRecDepth 20000 in
theorem l_law {g : fGP} {d : Nat} {Q : fRes → fAH → Prop} (hg : gLL g < 100000) (h : ∀ σ, Q (.inl (some (.int (nI 1)))) σ) : ∀ (n i : Nat) (σ : fAH) (x : fXS) (o5 o6 : Option Value), gLL g < i + 6 * (n + 1) ∧ i < 150000 → fLI g σ x n → fEv g (d + 45) mL_law 23 [some (.ref fscr), some (.ref 0), some (.ref 89), some (.ref 300), some (.int (nI i)), o5, o6, none] [] σ Q := by
  intro n
  induction n with
  | zero =>
    intro i σ x o5 o6 hn hI
    refine e_iload dL_law_23 rfl ?_
    refine e_aload_n dL_law_25 rfl rfl ?_
    refine e_slen dL_law_26 ?_
    refine e_bipush (nI 6) dL_law_27 (by decide) ?_
    refine e_isub dL_law_29 ?_
    refine e_icmp_gt 1788 dL_law_30 (by decide) (fun _ => ?_) (fun c => absurd ((lw_gt hg (by omega)).mpr (by omega)) c)
    refine e_iconst (nI 1) dL_law_1788 (by decide) ?_
    exact e_ireturn .boolean dL_law_1789 rfl (by decide) (h σ)
  | succ n ih =>
    intro i σ x o5 o6 hn hI
    refine e_iload dL_law_23 rfl ?_
    refine e_aload_n dL_law_25 rfl rfl ?_
    refine e_slen dL_law_26 ?_
    refine e_bipush (nI 6) dL_law_27 (by decide) ?_
    refine e_isub dL_law_29 ?_
    refine e_icmp_gt 1788 dL_law_30 (by decide) (fun c => ?_) (fun c => ?_)
    · refine e_iconst (nI 1) dL_law_1788 (by decide) ?_
      exact e_ireturn .boolean dL_law_1789 rfl (by decide) (h σ)
    · have hi6 : i + 6 ≤ gLL g := Nat.le_of_not_lt (fun q => c ((lw_gt hg (by omega)).mpr q))
      refine k_switch (by omega) hi6 hI (fun σ' x' o5 o6 hI' => ?_)
      refine e_iinc (v := nI (i + 6)) (L1 := [some (.ref fscr), some (.ref 0), some (.ref 89), some (.ref 300), some (.int (nI (i + 6))), o5, o6, none]) dL_law_1782 rfl (show nI i + Int32.ofInt 6 = nI (i + 6) from nI_add i 6) (by decide) rfl ?_
      refine e_goto 23 dL_law_1785 (by decide) ?_
      exact ih (i + 6) σ' x' o5 o6 (by omega) hI'
