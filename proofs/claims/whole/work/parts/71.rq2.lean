theorem fQp.e0 {σ : fAH} {D : fSD} {b0 b1 b2 b6 : Nat} {SS : Nat → Nat} (h : fQp σ D b0 b1 b2 b6 SS) (hr : ∀ j, j < 3 → fI σ (101 + b0) j = nI (dB D b0 j)) : fQp σ D (b0 + 1) b1 b2 b6 SS := by
  obtain ⟨h1, h2, h3, h4, h5, h6, h7⟩ := h
  exact ⟨h1, fun b hb c hc => (Nat.lt_or_eq_of_le (Nat.le_of_lt_succ hb)).elim (fun q => h2 b q c hc) (fun q => by rw [q]; exact hr c hc), h3, h4, h5, h6, h7⟩
theorem fQp.e1 {σ : fAH} {D : fSD} {b0 b1 b2 b6 : Nat} {SS : Nat → Nat} (h : fQp σ D b0 b1 b2 b6 SS) (hr : ∀ j, j < 5 → fI σ (121 + b1) j = nI (dS D b1 j)) : fQp σ D b0 (b1 + 1) b2 b6 SS := by
  obtain ⟨h1, h2, h3, h4, h5, h6, h7⟩ := h
  exact ⟨h1, h2, fun b hb c hc => (Nat.lt_or_eq_of_le (Nat.le_of_lt_succ hb)).elim (fun q => h3 b q c hc) (fun q => by rw [q]; exact hr c hc), h4, h5, h6, h7⟩
theorem fQp.e2 {σ : fAH} {D : fSD} {b0 b1 b2 b6 : Nat} {SS : Nat → Nat} (h : fQp σ D b0 b1 b2 b6 SS) (hr : ∀ j, j < 5 → fI σ (141 + b2) j = nI (dO D b2 j)) : fQp σ D b0 b1 (b2 + 1) b6 SS := by
  obtain ⟨h1, h2, h3, h4, h5, h6, h7⟩ := h
  exact ⟨h1, h2, h3, fun b hb c hc => (Nat.lt_or_eq_of_le (Nat.le_of_lt_succ hb)).elim (fun q => h4 b q c hc) (fun q => by rw [q]; exact hr c hc), h5, h6, h7⟩
theorem fQp.e6 {σ : fAH} {D : fSD} {b0 b1 b2 b6 : Nat} {SS : Nat → Nat} (h : fQp σ D b0 b1 b2 b6 SS) (hr : ∀ j, j < 3 → fI σ (173 + b6) j = nI (dZ D b6 j)) : fQp σ D b0 b1 b2 (b6 + 1) SS := by
  obtain ⟨h1, h2, h3, h4, h5, h6, h7⟩ := h
  exact ⟨h1, h2, h3, h4, fun b hb c hc => (Nat.lt_or_eq_of_le (Nat.le_of_lt_succ hb)).elim (fun q => h5 b q c hc) (fun q => by rw [q]; exact hr c hc), h6, h7⟩
def fQ9 : Nat → Prop := fun a => a = 89 ∨ fQA a
def xq (n : Nat) (x : fXS) : fP × fSD := mrd (xB x) n 61 (.inr (mbl (xB x) n 0)) 0 D0
def xQ (n : Nat) (x : fXS) : fXS := match (xq n x).1 with
  | .inl c => (xD x, xI x, xB x, 0, nI c.2, xm x, xM x)
  | .inr _ => ((xq n x).2, (mS0 (xq n x).2, iT (xI x), nI 0, 0, iP (xI x), 0, iR (xI x)), xB x, 0, -1, 0, xM x)
def xQv (n : Nat) (x : fXS) : Int32 := match (xq n x).1 with
  | .inl c => nI c.1 - nI 10
  | .inr _ => nI (dT (xq n x).2 0)
set_option maxRecDepth 20000 in
theorem l_X10_qe {g : fGP} {d : Nat} {Q : fRes → fAH → Prop} {D : fSD} {na : Int32} (hD : fWD D) {σ : fAH} {o2 o3 : Option Value} (Ms : fMs g σ) (Qp : fQp σ D (dT D 0) (dT D 1) (dT D 2) (dT D 6) (mS0 D)) (h : ∀ σ', fSm fQ9 σ σ' → fMr σ' D (mS0 D) (nI 0) → fI σ' 89 22 = nI 0 → fI σ' 89 23 = nI 0 → fI σ' 89 24 = nI 0 → (∀ j, j ≠ 22 → j ≠ 23 → j ≠ 24 → fI σ' 89 j = fI σ 89 j) → Q (.inl (some (.int (nI (dT D 0))))) σ') : fEv g d mX10_quarry 413 [some (.ref 89), some (.int na), o2, o3] [] σ Q := by
  obtain ⟨t0, t1, t2, t3, t4, t5, t6⟩ := id hD.1
  refine e_aload_n dX10_quarry_413 rfl rfl ?_
  refine e_iconst (nI 0) dX10_quarry_414 (by decide) ?_
  refine e_putI dX10_quarry_415 fl_RX10_159 (Ms.s 89 rfl) (Ms.n (by decide)) rfl rfl ?_
  refine e_aload_n dX10_quarry_418 rfl rfl ?_
  refine e_iconst (nI 0) dX10_quarry_419 (by decide) ?_
  refine e_putI dX10_quarry_420 fl_RX10_162 (Ms.s 89 rfl) (Ms.n (by decide)) rfl rfl ?_
  refine e_aload_n dX10_quarry_423 rfl rfl ?_
  refine e_iconst (nI 0) dX10_quarry_424 (by decide) ?_
  refine e_putI dX10_quarry_425 fl_RX10_165 (Ms.s 89 rfl) (Ms.n (by decide)) rfl rfl ?_
  refine e_aload_n dX10_quarry_428 rfl rfl ?_
  refine e_getR (q := 92) dX10_quarry_429 fl_RX10_20 (Ms.s 89 rfl) (Ms.n (by decide)) rfl (Ms.r 89 10 rfl) (by unfold fscr; omega) ?_
  refine e_iconst (nI 0) dX10_quarry_432 (by decide) ?_
  refine e_iaload 0 dX10_quarry_433 (Ms.s 92 rfl) (Ms.n (by decide)) rfl (by omega) (by decide) ?_
  refine e_int (nI (dT D 0)) (by rw [fI_I, if_neg (by omega), fI_I, if_neg (by omega), fI_I, if_neg (by omega)]; exact (Qp.1 0 (by omega))) ?_
  exact e_ireturn .int dX10_quarry_434 rfl rfl (h _ (((fSm_I (A := fQ9) (Or.inl rfl)).tr (fSm_I (Or.inl rfl))).tr (fSm_I (Or.inl rfl))) ((Qp.fin hD).smm (A := fun a => a = 89) (((fSm_I (A := fun a => a = 89) rfl).tr (fSm_I rfl)).tr (fSm_I rfl)) hD (fun i h1 h2 (q : i = 89) => by omega)) (by rw [fI_I, if_neg (by omega), fI_I, if_neg (by omega), fI_I, if_pos ⟨rfl, rfl⟩]) (by rw [fI_I, if_neg (by omega), fI_I, if_pos ⟨rfl, rfl⟩]) (by rw [fI_I, if_pos ⟨rfl, rfl⟩]) (fun j h1 h2 h3 => by rw [fI_I, if_neg (by omega), fI_I, if_neg (by omega), fI_I, if_neg (by omega)]))
set_option maxRecDepth 20000 in
theorem l_X10_q6 {g : fGP} {d : Nat} {Q : fRes → fAH → Prop} {D : fSD} {na : Int32} (hD : fWD D) : ∀ (n i : Nat) (σ : fAH) (o3 : Option Value), i + n = dT D 6 → fMs g σ → fRr σ D → fQp σ D (dT D 0) (dT D 1) (dT D 2) i (mS0 D) → (∀ σ', fSm fQ9 σ σ' → fMr σ' D (mS0 D) (nI 0) → fI σ' 89 22 = nI 0 → fI σ' 89 23 = nI 0 → fI σ' 89 24 = nI 0 → (∀ j, j ≠ 22 → j ≠ 23 → j ≠ 24 → fI σ' 89 j = fI σ 89 j) → Q (.inl (some (.int (nI (dT D 0))))) σ') → fEv g (d + 1) mX10_quarry 367 [some (.ref 89), some (.int na), some (.int (nI i)), o3] [] σ Q := by
  intro n
  induction n with
  | zero =>
    intro i σ o3 hin Ms Rr Qp h
    obtain ⟨t0, t1, t2, t3, t4, t5, t6⟩ := id hD.1
    refine e_iload_n dX10_quarry_367 rfl rfl ?_
    refine e_aload_n dX10_quarry_368 rfl rfl ?_
    refine e_getR (q := 92) dX10_quarry_369 fl_RX10_20 (Ms.s 89 rfl) (Ms.n (by decide)) rfl (Ms.r 89 10 rfl) (by unfold fscr; omega) ?_
    refine e_bipush (nI 6) dX10_quarry_372 (by decide) ?_
    refine e_iaload 6 dX10_quarry_374 (Ms.s 92 rfl) (Ms.n (by decide)) rfl (by omega) (by decide) ?_
    refine e_int (nI (dT D 6)) (Qp.1 6 (by omega)) ?_
    refine e_icmp_ge 413 dX10_quarry_375 (by decide) (fun cz => ?_) (fun cz => absurd ((nI_le' (by omega) (by omega)).mpr (by omega)) cz)
    rw [show i = dT D 6 by omega] at Qp
    exact l_X10_qe hD Ms Qp h
  | succ n ih =>
    intro i σ o3 hin Ms Rr Qp h
    obtain ⟨t0, t1, t2, t3, t4, t5, t6⟩ := id hD.1
    have hi : i < dT D 6 := by omega
    refine e_iload_n dX10_quarry_367 rfl rfl ?_
    refine e_aload_n dX10_quarry_368 rfl rfl ?_
    refine e_getR (q := 92) dX10_quarry_369 fl_RX10_20 (Ms.s 89 rfl) (Ms.n (by decide)) rfl (Ms.r 89 10 rfl) (by unfold fscr; omega) ?_
    refine e_bipush (nI 6) dX10_quarry_372 (by decide) ?_
    refine e_iaload 6 dX10_quarry_374 (Ms.s 92 rfl) (Ms.n (by decide)) rfl (by omega) (by decide) ?_
    refine e_int (nI (dT D 6)) (Qp.1 6 (by omega)) ?_
    refine e_icmp_ge 413 dX10_quarry_375 (by decide) (fun cz => absurd ((nI_le' (by omega) (by omega)).mp cz) (by omega)) (fun cz => ?_)
    refine e_iconst (nI 0) dX10_quarry_378 (by decide) ?_
    refine e_istore_n (L1 := [some (.ref 89), some (.int na), some (.int (nI i)), some (.int (nI 0))]) dX10_quarry_379 rfl (by decide) rfl ?_
    refine l_X10_cp6 hD hi 3 0 σ (by omega) Ms Rr (fun j hj => absurd hj (by omega)) (fun σ1 Sm1 hr1 => ?_)
    have S1 : fSm fQA σ σ1 := Sm1.to (fun a (q : a = 173 + i) => (by omega : a = 92 ∨ (101 ≤ a ∧ a < 107) ∨ (121 ≤ a ∧ a < 133) ∨ (141 ≤ a ∧ a < 147) ∨ (173 ≤ a ∧ a < 198)))
    have Ms1 := Ms.sm S1
    have Rr1 := Rr.smq S1 hD
    have Qp1 := (Qp.row ⟨by omega, by omega, by omega, by omega⟩ Sm1 (by omega)).e6 hr1
    refine e_iinc (v := nI (i + 1)) (L1 := [some (.ref 89), some (.int na), some (.int (nI (i + 1))), some (.int (nI 3))]) dX10_quarry_407 rfl (show nI i + Int32.ofInt 1 = nI (i + 1) from nI_add i 1) (by decide) rfl ?_
    refine e_goto 367 dX10_quarry_410 (by decide) ?_
    exact ih (i + 1) σ1 _ (by omega) Ms1 Rr1 Qp1 (fun σ' Sm' a1 a2 a3 a4 a5 => h σ' ((S1.to (fun _ q => Or.inr q)).tr Sm') a1 a2 a3 a4 (fun j h1 h2 h3 => (a5 j h1 h2 h3).trans (S1.i (by unfold fQA; omega) j)))
set_option maxRecDepth 20000 in
theorem l_X10_q2 {g : fGP} {d : Nat} {Q : fRes → fAH → Prop} {D : fSD} {na : Int32} (hD : fWD D) : ∀ (n i : Nat) (σ : fAH) (o3 : Option Value), i + n = dT D 2 → fMs g σ → fRr σ D → fQp σ D (dT D 0) (dT D 1) i 0 (mS0 D) → (∀ σ', fSm fQ9 σ σ' → fMr σ' D (mS0 D) (nI 0) → fI σ' 89 22 = nI 0 → fI σ' 89 23 = nI 0 → fI σ' 89 24 = nI 0 → (∀ j, j ≠ 22 → j ≠ 23 → j ≠ 24 → fI σ' 89 j = fI σ 89 j) → Q (.inl (some (.int (nI (dT D 0))))) σ') → fEv g (d + 1) mX10_quarry 320 [some (.ref 89), some (.int na), some (.int (nI i)), o3] [] σ Q := by
  intro n
  induction n with
  | zero =>
    intro i σ o3 hin Ms Rr Qp h
    obtain ⟨t0, t1, t2, t3, t4, t5, t6⟩ := id hD.1
    refine e_iload_n dX10_quarry_320 rfl rfl ?_
    refine e_aload_n dX10_quarry_321 rfl rfl ?_
    refine e_getR (q := 92) dX10_quarry_322 fl_RX10_20 (Ms.s 89 rfl) (Ms.n (by decide)) rfl (Ms.r 89 10 rfl) (by unfold fscr; omega) ?_
    refine e_iconst (nI 2) dX10_quarry_325 (by decide) ?_
    refine e_iaload 2 dX10_quarry_326 (Ms.s 92 rfl) (Ms.n (by decide)) rfl (by omega) (by decide) ?_
    refine e_int (nI (dT D 2)) (Qp.1 2 (by omega)) ?_
    refine e_icmp_ge 365 dX10_quarry_327 (by decide) (fun cz => ?_) (fun cz => absurd ((nI_le' (by omega) (by omega)).mpr (by omega)) cz)
    refine e_iconst (nI 0) dX10_quarry_365 (by decide) ?_
    refine e_istore_n (L1 := [some (.ref 89), some (.int na), some (.int (nI 0)), o3]) dX10_quarry_366 rfl (by decide) rfl ?_
    rw [show i = dT D 2 by omega] at Qp
    exact l_X10_q6 hD (dT D 6) 0 σ _ (by omega) Ms Rr Qp h
  | succ n ih =>
    intro i σ o3 hin Ms Rr Qp h
    obtain ⟨t0, t1, t2, t3, t4, t5, t6⟩ := id hD.1
    have hi : i < dT D 2 := by omega
    refine e_iload_n dX10_quarry_320 rfl rfl ?_
    refine e_aload_n dX10_quarry_321 rfl rfl ?_
    refine e_getR (q := 92) dX10_quarry_322 fl_RX10_20 (Ms.s 89 rfl) (Ms.n (by decide)) rfl (Ms.r 89 10 rfl) (by unfold fscr; omega) ?_
    refine e_iconst (nI 2) dX10_quarry_325 (by decide) ?_
    refine e_iaload 2 dX10_quarry_326 (Ms.s 92 rfl) (Ms.n (by decide)) rfl (by omega) (by decide) ?_
    refine e_int (nI (dT D 2)) (Qp.1 2 (by omega)) ?_
    refine e_icmp_ge 365 dX10_quarry_327 (by decide) (fun cz => absurd ((nI_le' (by omega) (by omega)).mp cz) (by omega)) (fun cz => ?_)
    refine e_iconst (nI 0) dX10_quarry_330 (by decide) ?_
    refine e_istore_n (L1 := [some (.ref 89), some (.int na), some (.int (nI i)), some (.int (nI 0))]) dX10_quarry_331 rfl (by decide) rfl ?_
    refine l_X10_cp2 hD hi 5 0 σ (by omega) Ms Rr (fun j hj => absurd hj (by omega)) (fun σ1 Sm1 hr1 => ?_)
    have S1 : fSm fQA σ σ1 := Sm1.to (fun a (q : a = 141 + i) => (by omega : a = 92 ∨ (101 ≤ a ∧ a < 107) ∨ (121 ≤ a ∧ a < 133) ∨ (141 ≤ a ∧ a < 147) ∨ (173 ≤ a ∧ a < 198)))
    have Ms1 := Ms.sm S1
    have Rr1 := Rr.smq S1 hD
    have Qp1 := (Qp.row ⟨by omega, by omega, by omega, by omega⟩ Sm1 (by omega)).e2 hr1
    refine e_iinc (v := nI (i + 1)) (L1 := [some (.ref 89), some (.int na), some (.int (nI (i + 1))), some (.int (nI 5))]) dX10_quarry_359 rfl (show nI i + Int32.ofInt 1 = nI (i + 1) from nI_add i 1) (by decide) rfl ?_
    refine e_goto 320 dX10_quarry_362 (by decide) ?_
    exact ih (i + 1) σ1 _ (by omega) Ms1 Rr1 Qp1 (fun σ' Sm' a1 a2 a3 a4 a5 => h σ' ((S1.to (fun _ q => Or.inr q)).tr Sm') a1 a2 a3 a4 (fun j h1 h2 h3 => (a5 j h1 h2 h3).trans (S1.i (by unfold fQA; omega) j)))
set_option maxRecDepth 20000 in
theorem l_X10_q1 {g : fGP} {d : Nat} {Q : fRes → fAH → Prop} {D : fSD} {na : Int32} (hD : fWD D) : ∀ (n i : Nat) (σ : fAH) (o3 : Option Value), i + n = dT D 1 → fMs g σ → fRr σ D → fQp σ D (dT D 0) i 0 0 (mld D i (mup (mlb D (dT D 0)) 120 (dT D 0))) → (∀ σ', fSm fQ9 σ σ' → fMr σ' D (mS0 D) (nI 0) → fI σ' 89 22 = nI 0 → fI σ' 89 23 = nI 0 → fI σ' 89 24 = nI 0 → (∀ j, j ≠ 22 → j ≠ 23 → j ≠ 24 → fI σ' 89 j = fI σ 89 j) → Q (.inl (some (.int (nI (dT D 0))))) σ') → fEv g (d + 1) mX10_quarry 256 [some (.ref 89), some (.int na), some (.int (nI i)), o3] [] σ Q := by
  intro n
  induction n with
  | zero =>
    intro i σ o3 hin Ms Rr Qp h
    obtain ⟨t0, t1, t2, t3, t4, t5, t6⟩ := id hD.1
    refine e_iload_n dX10_quarry_256 rfl rfl ?_
    refine e_aload_n dX10_quarry_257 rfl rfl ?_
    refine e_getR (q := 92) dX10_quarry_258 fl_RX10_20 (Ms.s 89 rfl) (Ms.n (by decide)) rfl (Ms.r 89 10 rfl) (by unfold fscr; omega) ?_
    refine e_iconst (nI 1) dX10_quarry_261 (by decide) ?_
    refine e_iaload 1 dX10_quarry_262 (Ms.s 92 rfl) (Ms.n (by decide)) rfl (by omega) (by decide) ?_
    refine e_int (nI (dT D 1)) (Qp.1 1 (by omega)) ?_
    refine e_icmp_ge 318 dX10_quarry_263 (by decide) (fun cz => ?_) (fun cz => absurd ((nI_le' (by omega) (by omega)).mpr (by omega)) cz)
    refine e_iconst (nI 0) dX10_quarry_318 (by decide) ?_
    refine e_istore_n (L1 := [some (.ref 89), some (.int na), some (.int (nI 0)), o3]) dX10_quarry_319 rfl (by decide) rfl ?_
    rw [show i = dT D 1 by omega] at Qp
    exact l_X10_q2 hD (dT D 2) 0 σ _ (by omega) Ms Rr Qp h
  | succ n ih =>
    intro i σ o3 hin Ms Rr Qp h
    obtain ⟨t0, t1, t2, t3, t4, t5, t6⟩ := id hD.1
    have hi : i < dT D 1 := by omega
    refine e_iload_n dX10_quarry_256 rfl rfl ?_
    refine e_aload_n dX10_quarry_257 rfl rfl ?_
    refine e_getR (q := 92) dX10_quarry_258 fl_RX10_20 (Ms.s 89 rfl) (Ms.n (by decide)) rfl (Ms.r 89 10 rfl) (by unfold fscr; omega) ?_
    refine e_iconst (nI 1) dX10_quarry_261 (by decide) ?_
    refine e_iaload 1 dX10_quarry_262 (Ms.s 92 rfl) (Ms.n (by decide)) rfl (by omega) (by decide) ?_
    refine e_int (nI (dT D 1)) (Qp.1 1 (by omega)) ?_
    refine e_icmp_ge 318 dX10_quarry_263 (by decide) (fun cz => absurd ((nI_le' (by omega) (by omega)).mp cz) (by omega)) (fun cz => ?_)
    refine e_iconst (nI 0) dX10_quarry_266 (by decide) ?_
    refine e_istore_n (L1 := [some (.ref 89), some (.int na), some (.int (nI i)), some (.int (nI 0))]) dX10_quarry_267 rfl (by decide) rfl ?_
    refine l_X10_cp1 hD hi 5 0 σ (by omega) Ms Rr (fun j hj => absurd hj (by omega)) (fun σ1 Sm1 hr1 => ?_)
    have S1 : fSm fQA σ σ1 := Sm1.to (fun a (q : a = 121 + i) => (by omega : a = 92 ∨ (101 ≤ a ∧ a < 107) ∨ (121 ≤ a ∧ a < 133) ∨ (141 ≤ a ∧ a < 147) ∨ (173 ≤ a ∧ a < 198)))
    have Ms1 := Ms.sm S1
    have Rr1 := Rr.smq S1 hD
    have Qp1 := (Qp.row ⟨by omega, by omega, by omega, by omega⟩ Sm1 (by omega)).e1 hr1
    refine e_aload_n dX10_quarry_295 rfl rfl ?_
    refine e_getR (q := 197) dX10_quarry_296 fl_RX10_49 (Ms1.s 89 rfl) (Ms1.n (by decide)) rfl (Ms1.r 89 19 rfl) (by unfold fscr; omega) ?_
    refine e_bipush (nI 121) dX10_quarry_299 (by decide) ?_
    refine e_iload_n dX10_quarry_301 rfl rfl ?_
    refine e_iadd dX10_quarry_302 ?_
    refine e_int (nI (121 + i)) (nI_add 121 i) ?_
    refine e_aload_n dX10_quarry_303 rfl rfl ?_
    refine e_getR (q := 120) dX10_quarry_304 fl_RX10_34 (Ms1.s 89 rfl) (Ms1.n (by decide)) rfl (Ms1.r 89 14 rfl) (by unfold fscr; omega) ?_
    refine e_iload_n dX10_quarry_307 rfl rfl ?_
    refine e_aaload (q := 121 + i) i dX10_quarry_308 (Ms1.s 120 rfl) (by decide) (Ms1.n (by decide)) rfl (by omega) (by decide) (Ms1.r 120 _ (frf_slot _ (by omega))) (by unfold fscr; omega) ?_
    refine e_iconst (nI 4) dX10_quarry_309 (by decide) ?_
    refine e_iaload 4 dX10_quarry_310 (Ms1.s _ (fsh_slot _ (by omega))) (Ms1.n (by omega)) rfl (by omega) (by decide) ?_
    refine e_int (nI (dS D i 4)) (hr1 4 (by decide)) ?_
    refine e_iastore (121 + i) dX10_quarry_311 (Ms1.s 197 rfl) (Ms1.n (by decide)) rfl (by omega) (by decide) ?_
    refine e_iinc (v := nI (i + 1)) (L1 := [some (.ref 89), some (.int na), some (.int (nI (i + 1))), some (.int (nI 5))]) dX10_quarry_312 rfl (show nI i + Int32.ofInt 1 = nI (i + 1) from nI_add i 1) (by decide) rfl ?_
    refine e_goto 256 dX10_quarry_315 (by decide) ?_
    have S2 : fSm fQA σ (fsI σ1 197 (121 + i) (nI (dS D i 4))) := S1.tr (fSm_I (A := fQA) (by unfold fQA; omega))
    exact ih (i + 1) (fsI σ1 197 (121 + i) (nI (dS D i 4))) _ (by omega) (Ms.sm S2) (Rr.smq S2 hD) (Qp1.up ⟨by omega, by omega, by omega, by omega⟩ (by omega)) (fun σ' Sm' a1 a2 a3 a4 a5 => h σ' ((S2.to (fun _ q => Or.inr q)).tr Sm') a1 a2 a3 a4 (fun j h1 h2 h3 => (a5 j h1 h2 h3).trans (S2.i (by unfold fQA; omega) j)))
set_option maxRecDepth 20000 in
theorem l_X10_q0 {g : fGP} {d : Nat} {Q : fRes → fAH → Prop} {D : fSD} {na : Int32} (hD : fWD D) : ∀ (n i : Nat) (σ : fAH) (o3 : Option Value), i + n = dT D 0 → fMs g σ → fRr σ D → fQp σ D i 0 0 0 (mlb D i) → (∀ σ', fSm fQ9 σ σ' → fMr σ' D (mS0 D) (nI 0) → fI σ' 89 22 = nI 0 → fI σ' 89 23 = nI 0 → fI σ' 89 24 = nI 0 → (∀ j, j ≠ 22 → j ≠ 23 → j ≠ 24 → fI σ' 89 j = fI σ 89 j) → Q (.inl (some (.int (nI (dT D 0))))) σ') → fEv g (d + 1) mX10_quarry 172 [some (.ref 89), some (.int na), some (.int (nI i)), o3] [] σ Q := by
  intro n
  induction n with
  | zero =>
    intro i σ o3 hin Ms Rr Qp h
    obtain ⟨t0, t1, t2, t3, t4, t5, t6⟩ := id hD.1
    refine e_iload_n dX10_quarry_172 rfl rfl ?_
    refine e_aload_n dX10_quarry_173 rfl rfl ?_
    refine e_getR (q := 92) dX10_quarry_174 fl_RX10_20 (Ms.s 89 rfl) (Ms.n (by decide)) rfl (Ms.r 89 10 rfl) (by unfold fscr; omega) ?_
    refine e_iconst (nI 0) dX10_quarry_177 (by decide) ?_
    refine e_iaload 0 dX10_quarry_178 (Ms.s 92 rfl) (Ms.n (by decide)) rfl (by omega) (by decide) ?_
    refine e_int (nI (dT D 0)) (Qp.1 0 (by omega)) ?_
    refine e_icmp_ge 241 dX10_quarry_179 (by decide) (fun cz => ?_) (fun cz => absurd ((nI_le' (by omega) (by omega)).mpr (by omega)) cz)
    refine e_aload_n dX10_quarry_241 rfl rfl ?_
    refine e_getR (q := 197) dX10_quarry_242 fl_RX10_49 (Ms.s 89 rfl) (Ms.n (by decide)) rfl (Ms.r 89 19 rfl) (by unfold fscr; omega) ?_
    refine e_bipush (nI 120) dX10_quarry_245 (by decide) ?_
    refine e_aload_n dX10_quarry_247 rfl rfl ?_
    refine e_getR (q := 92) dX10_quarry_248 fl_RX10_20 (Ms.s 89 rfl) (Ms.n (by decide)) rfl (Ms.r 89 10 rfl) (by unfold fscr; omega) ?_
    refine e_iconst (nI 0) dX10_quarry_251 (by decide) ?_
    refine e_iaload 0 dX10_quarry_252 (Ms.s 92 rfl) (Ms.n (by decide)) rfl (by omega) (by decide) ?_
    refine e_int (nI (dT D 0)) (Qp.1 0 (by omega)) ?_
    refine e_iastore 120 dX10_quarry_253 (Ms.s 197 rfl) (Ms.n (by decide)) rfl (by omega) (by decide) ?_
    refine e_iconst (nI 0) dX10_quarry_254 (by decide) ?_
    refine e_istore_n (L1 := [some (.ref 89), some (.int na), some (.int (nI 0)), o3]) dX10_quarry_255 rfl (by decide) rfl ?_
    rw [show i = dT D 0 by omega] at Qp
    have S2 : fSm fQA σ (fsI σ 197 120 (nI (dT D 0))) := fSm_I (by unfold fQA; omega)
    exact l_X10_q1 hD (dT D 1) 0 _ _ (by omega) (Ms.sm S2) (Rr.smq S2 hD) (Qp.up ⟨by omega, by omega, by omega, by omega⟩ (by omega)) (fun σ' Sm' a1 a2 a3 a4 a5 => h σ' ((S2.to (fun _ q => Or.inr q)).tr Sm') a1 a2 a3 a4 (fun j h1 h2 h3 => (a5 j h1 h2 h3).trans (S2.i (by unfold fQA; omega) j)))
  | succ n ih =>
    intro i σ o3 hin Ms Rr Qp h
    obtain ⟨t0, t1, t2, t3, t4, t5, t6⟩ := id hD.1
    have hi : i < dT D 0 := by omega
    refine e_iload_n dX10_quarry_172 rfl rfl ?_
    refine e_aload_n dX10_quarry_173 rfl rfl ?_
    refine e_getR (q := 92) dX10_quarry_174 fl_RX10_20 (Ms.s 89 rfl) (Ms.n (by decide)) rfl (Ms.r 89 10 rfl) (by unfold fscr; omega) ?_
    refine e_iconst (nI 0) dX10_quarry_177 (by decide) ?_
    refine e_iaload 0 dX10_quarry_178 (Ms.s 92 rfl) (Ms.n (by decide)) rfl (by omega) (by decide) ?_
    refine e_int (nI (dT D 0)) (Qp.1 0 (by omega)) ?_
    refine e_icmp_ge 241 dX10_quarry_179 (by decide) (fun cz => absurd ((nI_le' (by omega) (by omega)).mp cz) (by omega)) (fun cz => ?_)
    refine e_iconst (nI 0) dX10_quarry_182 (by decide) ?_
    refine e_istore_n (L1 := [some (.ref 89), some (.int na), some (.int (nI i)), some (.int (nI 0))]) dX10_quarry_183 rfl (by decide) rfl ?_
    refine l_X10_cp0 hD hi 3 0 σ (by omega) Ms Rr (fun j hj => absurd hj (by omega)) (fun σ1 Sm1 hr1 => ?_)
    have S1 : fSm fQA σ σ1 := Sm1.to (fun a (q : a = 101 + i) => (by omega : a = 92 ∨ (101 ≤ a ∧ a < 107) ∨ (121 ≤ a ∧ a < 133) ∨ (141 ≤ a ∧ a < 147) ∨ (173 ≤ a ∧ a < 198)))
    have Ms1 := Ms.sm S1
    have Rr1 := Rr.smq S1 hD
    have Qp1 := (Qp.row ⟨by omega, by omega, by omega, by omega⟩ Sm1 (by omega)).e0 hr1
    refine e_aload_n dX10_quarry_211 rfl rfl ?_
    refine e_iload_n dX10_quarry_212 rfl rfl ?_
    refine e_iload_n dX10_quarry_213 rfl rfl ?_
    refine e_iconst (nI 0) dX10_quarry_214 (by decide) ?_
    refine e_aload_n dX10_quarry_215 rfl rfl ?_
    refine e_getR (q := 100) dX10_quarry_216 fl_RX10_28 (Ms1.s 89 rfl) (Ms1.n (by decide)) rfl (Ms1.r 89 12 rfl) (by unfold fscr; omega) ?_
    refine e_iload_n dX10_quarry_219 rfl rfl ?_
    refine e_aaload (q := 101 + i) i dX10_quarry_220 (Ms1.s 100 rfl) (by decide) (Ms1.n (by decide)) rfl (by omega) (by decide) (Ms1.r 100 _ (frf_block _ (by omega))) (by unfold fscr; omega) ?_
    refine e_iconst (nI 0) dX10_quarry_221 (by decide) ?_
    refine e_iaload 0 dX10_quarry_222 (Ms1.s _ (fsh_block _ (by omega))) (Ms1.n (by omega)) rfl (by omega) (by decide) ?_
    refine e_int (nI (dB D i 0)) (hr1 0 (by decide)) ?_
    refine e_iconst (nI 0) dX10_quarry_223 (by decide) ?_
    refine e_aload_n dX10_quarry_224 rfl rfl ?_
    refine e_getR (q := 100) dX10_quarry_225 fl_RX10_28 (Ms1.s 89 rfl) (Ms1.n (by decide)) rfl (Ms1.r 89 12 rfl) (by unfold fscr; omega) ?_
    refine e_iload_n dX10_quarry_228 rfl rfl ?_
    refine e_aaload (q := 101 + i) i dX10_quarry_229 (Ms1.s 100 rfl) (by decide) (Ms1.n (by decide)) rfl (by omega) (by decide) (Ms1.r 100 _ (frf_block _ (by omega))) (by unfold fscr; omega) ?_
    refine e_iconst (nI 1) dX10_quarry_230 (by decide) ?_
    refine e_iaload 1 dX10_quarry_231 (Ms1.s _ (fsh_block _ (by omega))) (Ms1.n (by omega)) rfl (by omega) (by decide) ?_
    refine e_int (nI (dB D i 1)) (hr1 1 (by decide)) ?_
    refine e_callV (k := 89) [.int (nI i), .int (nI i), .int (nI 0), .int (nI (dB D i 0)), .int (nI 0), .int (nI (dB D i 1))] dX10_quarry_232 cc_X10_lays lk_RX10_155 im_X10_lays se_X10_lays (by decide) (Ms1.s 89 rfl) (Ms1.n (by decide)) rfl (Nat.le_of_ble_eq_true rfl) (Nat.le_of_ble_eq_true rfl) ?_
    refine t_X10_lays Ms1 (by omega) (fK_v ?_)
    show fEv g _ mX10_quarry 235 [some (.ref 89), some (.int na), some (.int (nI i)), some (.int (nI 3))] [] (fsI (fsI (fsI (fsI (fsI (fsI σ1 197 (i * 6) (nI i)) 197 (i * 6 + 1) (nI 0)) 197 (i * 6 + 2) (nI (dB D i 0))) 197 (i * 6 + 3) (nI 0)) 197 (i * 6 + 4) (nI (dB D i 1))) 197 (i * 6 + 5) (nI 1)) Q
    refine e_iinc (v := nI (i + 1)) (L1 := [some (.ref 89), some (.int na), some (.int (nI (i + 1))), some (.int (nI 3))]) dX10_quarry_235 rfl (show nI i + Int32.ofInt 1 = nI (i + 1) from nI_add i 1) (by decide) rfl ?_
    refine e_goto 172 dX10_quarry_238 (by decide) ?_
    have S2 : fSm fQA σ (fsI (fsI (fsI (fsI (fsI (fsI σ1 197 (i * 6) (nI i)) 197 (i * 6 + 1) (nI 0)) 197 (i * 6 + 2) (nI (dB D i 0))) 197 (i * 6 + 3) (nI 0)) 197 (i * 6 + 4) (nI (dB D i 1))) 197 (i * 6 + 5) (nI 1)) := S1.tr ((((((fSm_I (A := fQA) (by unfold fQA; omega)).tr (fSm_I (A := fQA) (by unfold fQA; omega))).tr (fSm_I (A := fQA) (by unfold fQA; omega))).tr (fSm_I (A := fQA) (by unfold fQA; omega))).tr (fSm_I (A := fQA) (by unfold fQA; omega))).tr (fSm_I (A := fQA) (by unfold fQA; omega)))
    exact ih (i + 1) (fsI (fsI (fsI (fsI (fsI (fsI σ1 197 (i * 6) (nI i)) 197 (i * 6 + 1) (nI 0)) 197 (i * 6 + 2) (nI (dB D i 0))) 197 (i * 6 + 3) (nI 0)) 197 (i * 6 + 4) (nI (dB D i 1))) 197 (i * 6 + 5) (nI 1)) _ (by omega) (Ms.sm S2) (Rr.smq S2 hD) ((((((Qp1.up ⟨by omega, by omega, by omega, by omega⟩ (by omega)).up ⟨by omega, by omega, by omega, by omega⟩ (by omega)).up ⟨by omega, by omega, by omega, by omega⟩ (by omega)).up ⟨by omega, by omega, by omega, by omega⟩ (by omega)).up ⟨by omega, by omega, by omega, by omega⟩ (by omega)).up ⟨by omega, by omega, by omega, by omega⟩ (by omega)) (fun σ' Sm' a1 a2 a3 a4 a5 => h σ' ((S2.to (fun _ q => Or.inr q)).tr Sm') a1 a2 a3 a4 (fun j h1 h2 h3 => (a5 j h1 h2 h3).trans (S2.i (by unfold fQA; omega) j)))
set_option maxRecDepth 20000 in
theorem l_X10_qz {g : fGP} {d : Nat} {Q : fRes → fAH → Prop} {D : fSD} {na : Int32} (hD : fWD D) : ∀ (n i : Nat) (σ : fAH), i + n = 157 → fMs g σ → fRr σ D → (∀ j, j < 7 → fI σ 92 j = nI (dT D j)) → (∀ j, j < i → fI σ 197 j = nI 0) → (∀ σ', fSm fQ9 σ σ' → fMr σ' D (mS0 D) (nI 0) → fI σ' 89 22 = nI 0 → fI σ' 89 23 = nI 0 → fI σ' 89 24 = nI 0 → (∀ j, j ≠ 22 → j ≠ 23 → j ≠ 24 → fI σ' 89 j = fI σ 89 j) → Q (.inl (some (.int (nI (dT D 0))))) σ') → fEv g (d + 1) mX10_quarry 150 [some (.ref 89), some (.int na), some (.int (nI i)), none] [] σ Q := by
  intro n
  induction n with
  | zero =>
    intro i σ hin Ms Rr ht hz h
    obtain ⟨t0, t1, t2, t3, t4, t5, t6⟩ := id hD.1
    refine e_iload_n dX10_quarry_150 rfl rfl ?_
    refine e_sipush (nI 157) dX10_quarry_151 (by decide) ?_
    refine e_icmp_ge 170 dX10_quarry_154 (by decide) (fun cz => ?_) (fun cz => absurd ((nI_le' (by omega) (by omega)).mpr (by omega)) cz)
    refine e_iconst (nI 0) dX10_quarry_170 (by decide) ?_
    refine e_istore_n (L1 := [some (.ref 89), some (.int na), some (.int (nI 0)), none]) dX10_quarry_171 rfl (by decide) rfl ?_
    exact l_X10_q0 hD (dT D 0) 0 σ _ (by omega) Ms Rr ⟨ht, fun b hb => absurd hb (by omega), fun b hb => absurd hb (by omega), fun b hb => absurd hb (by omega), fun b hb => absurd hb (by omega), fun j hj => hz j (by omega), hz 156 (by omega)⟩ h
  | succ n ih =>
    intro i σ hin Ms Rr ht hz h
    obtain ⟨t0, t1, t2, t3, t4, t5, t6⟩ := id hD.1
    have hi : i < 157 := by omega
    refine e_iload_n dX10_quarry_150 rfl rfl ?_
    refine e_sipush (nI 157) dX10_quarry_151 (by decide) ?_
    refine e_icmp_ge 170 dX10_quarry_154 (by decide) (fun cz => absurd ((nI_le' (by omega) (by omega)).mp cz) (by omega)) (fun cz => ?_)
    refine e_aload_n dX10_quarry_157 rfl rfl ?_
    refine e_getR (q := 197) dX10_quarry_158 fl_RX10_49 (Ms.s 89 rfl) (Ms.n (by decide)) rfl (Ms.r 89 19 rfl) (by unfold fscr; omega) ?_
    refine e_iload_n dX10_quarry_161 rfl rfl ?_
    refine e_iconst (nI 0) dX10_quarry_162 (by decide) ?_
    refine e_iastore i dX10_quarry_163 (Ms.s 197 rfl) (Ms.n (by decide)) rfl (by omega) (by decide) ?_
    refine e_iinc (v := nI (i + 1)) (L1 := [some (.ref 89), some (.int na), some (.int (nI (i + 1))), none]) dX10_quarry_164 rfl (show nI i + Int32.ofInt 1 = nI (i + 1) from nI_add i 1) (by decide) rfl ?_
    refine e_goto 150 dX10_quarry_167 (by decide) ?_
    have S2 : fSm fQA σ (fsI σ 197 i (nI 0)) := fSm_I (by unfold fQA; omega)
    refine ih (i + 1) (fsI σ 197 i (nI 0)) (by omega) (Ms.sm S2) (Rr.smq S2 hD) (fun j hj => by rw [fI_I, if_neg (by omega)]; exact ht j hj) (fun j hj => ?_) (fun σ' Sm' a1 a2 a3 a4 a5 => h σ' ((S2.to (fun _ q => Or.inr q)).tr Sm') a1 a2 a3 a4 (fun j h1 h2 h3 => (a5 j h1 h2 h3).trans (S2.i (by unfold fQA; omega) j)))
    by_cases e : j = i
    · rw [fI_I, if_pos ⟨rfl, e⟩]
    · rw [fI_I, if_neg (by omega)]; exact hz j (by omega)
set_option maxRecDepth 20000 in
theorem l_X10_qt {g : fGP} {d : Nat} {Q : fRes → fAH → Prop} {D : fSD} {na : Int32} (hD : fWD D) : ∀ (n i : Nat) (σ : fAH), i + n = 7 → fMs g σ → fRr σ D → (∀ j, j < i → fI σ 92 j = nI (dT D j)) → (∀ σ', fSm fQ9 σ σ' → fMr σ' D (mS0 D) (nI 0) → fI σ' 89 22 = nI 0 → fI σ' 89 23 = nI 0 → fI σ' 89 24 = nI 0 → (∀ j, j ≠ 22 → j ≠ 23 → j ≠ 24 → fI σ' 89 j = fI σ 89 j) → Q (.inl (some (.int (nI (dT D 0))))) σ') → fEv g (d + 1) mX10_quarry 124 [some (.ref 89), some (.int na), some (.int (nI i)), none] [] σ Q := by
  intro n
  induction n with
  | zero =>
    intro i σ hin Ms Rr ht h
    obtain ⟨t0, t1, t2, t3, t4, t5, t6⟩ := id hD.1
    refine e_iload_n dX10_quarry_124 rfl rfl ?_
    refine e_bipush (nI 7) dX10_quarry_125 (by decide) ?_
    refine e_icmp_ge 148 dX10_quarry_127 (by decide) (fun cz => ?_) (fun cz => absurd ((nI_le' (by omega) (by omega)).mpr (by omega)) cz)
    refine e_iconst (nI 0) dX10_quarry_148 (by decide) ?_
    refine e_istore_n (L1 := [some (.ref 89), some (.int na), some (.int (nI 0)), none]) dX10_quarry_149 rfl (by decide) rfl ?_
    exact l_X10_qz hD 157 0 σ (by omega) Ms Rr (fun j hj => ht j (by omega)) (fun j hj => absurd hj (by omega)) h
  | succ n ih =>
    intro i σ hin Ms Rr ht h
    obtain ⟨t0, t1, t2, t3, t4, t5, t6⟩ := id hD.1
    have hi : i < 7 := by omega
    refine e_iload_n dX10_quarry_124 rfl rfl ?_
    refine e_bipush (nI 7) dX10_quarry_125 (by decide) ?_
    refine e_icmp_ge 148 dX10_quarry_127 (by decide) (fun cz => absurd ((nI_le' (by omega) (by omega)).mp cz) (by omega)) (fun cz => ?_)
    refine e_aload_n dX10_quarry_130 rfl rfl ?_
    refine e_getR (q := 92) dX10_quarry_131 fl_RX10_20 (Ms.s 89 rfl) (Ms.n (by decide)) rfl (Ms.r 89 10 rfl) (by unfold fscr; omega) ?_
    refine e_iload_n dX10_quarry_134 rfl rfl ?_
    refine e_aload_n dX10_quarry_135 rfl rfl ?_
    refine e_getR (q := 91) dX10_quarry_136 fl_RX10_17 (Ms.s 89 rfl) (Ms.n (by decide)) rfl (Ms.r 89 9 rfl) (by unfold fscr; omega) ?_
    refine e_iload_n dX10_quarry_139 rfl rfl ?_
    refine e_iaload i dX10_quarry_140 (Ms.s 91 rfl) (Ms.n (by decide)) rfl (by omega) (by decide) ?_
    refine e_int (nI (dT D i)) (Rr.1 i (by omega)) ?_
    refine e_iastore i dX10_quarry_141 (Ms.s 92 rfl) (Ms.n (by decide)) rfl (by omega) (by decide) ?_
    refine e_iinc (v := nI (i + 1)) (L1 := [some (.ref 89), some (.int na), some (.int (nI (i + 1))), none]) dX10_quarry_142 rfl (show nI i + Int32.ofInt 1 = nI (i + 1) from nI_add i 1) (by decide) rfl ?_
    refine e_goto 124 dX10_quarry_145 (by decide) ?_
    have S2 : fSm fQA σ (fsI σ 92 i (nI (dT D i))) := fSm_I (by unfold fQA; omega)
    refine ih (i + 1) (fsI σ 92 i (nI (dT D i))) (by omega) (Ms.sm S2) (Rr.smq S2 hD) (fun j hj => ?_) (fun σ' Sm' a1 a2 a3 a4 a5 => h σ' ((S2.to (fun _ q => Or.inr q)).tr Sm') a1 a2 a3 a4 (fun j h1 h2 h3 => (a5 j h1 h2 h3).trans (S2.i (by unfold fQA; omega) j)))
    by_cases e : j = i
    · rw [fI_I, if_pos ⟨rfl, e⟩, e]
    · rw [fI_I, if_neg (by omega)]; exact ht j (by omega)
