/-! ===== the law: what stands between two calls; n calls may still throw ===== -/
def fLI (g : fGP) (σ : fAH) (x : fXS) (n : Nat) : Prop := fMs g σ ∧ fOK x ∧ fIc σ x ∧ fIr σ x ∧ fnx σ + fgb σ + n ≤ 601024 ∧ fsu σ + 6 * n ≤ 7293034
theorem fLI.rm {g : fGP} {σ : fAH} {x : fXS} {n : Nat} (h : fLI g σ x (n + 1)) : fnx σ + fgb σ + 1 ≤ 601024 ∧ fsu σ + 6 ≤ 7293034 := by
  obtain ⟨_, _, _, _, h5, h6⟩ := h
  omega
theorem fLI.thr {g : fGP} {σ : fAH} {x : fXS} {n : Nat} (h : fLI g σ x (n + 1)) : fLI g (fthr σ) x n := by
  obtain ⟨h1, h2, h3, h4, h5, h6⟩ := h
  refine ⟨⟨h1.1, h1.2.1, h1.2.2.1, Nat.succ_pos _⟩, h2, h3, h4, ?_, ?_⟩
  · show fnx σ + (fgb σ + 1) + n ≤ 601024
    omega
  · show fsu σ + 6 + 6 * n ≤ 7293034
    omega
theorem fLI.le {g : fGP} {σ : fAH} {x : fXS} {n m : Nat} (h : fLI g σ x n) (hm : m ≤ n) : fLI g σ x m := by
  obtain ⟨h1, h2, h3, h4, h5, h6⟩ := h
  exact ⟨h1, h2, h3, h4, by omega, by omega⟩
theorem fLI.sm {A : Nat → Prop} {g : fGP} {σ σ1 : fAH} {x x1 : fXS} {n : Nat} (h : fLI g σ x n) (s : fSm A σ σ1) (ok : fOK x1) (hc : fIc σ1 x1) (hr : fIr σ1 x1) : fLI g σ1 x1 n := by
  obtain ⟨h1, h2, h3, h4, h5, h6⟩ := h
  have e : σ1.1 = σ.1 := s.1
  refine ⟨h1.sm s, ok, hc, hr, ?_, ?_⟩
  · show σ1.1.1 + σ1.1.2.1 + n ≤ 601024
    rw [e]; exact h5
  · show σ1.1.2.2 + 6 * n ≤ 7293034
    rw [e]; exact h6
/-- the class moved on, then the reference -/
theorem fLI.both {g : fGP} {σ σ1 σ2 : fAH} {x x1 : fXS} {n : Nat} (h : fLI g σ x n) (ok1 : fOK x1) (s1 : fSm fClB σ σ1) (c1 : fIc σ1 x1) (s2 : fSm fRfA σ1 σ2) (r2 : fIr σ2 x1) : fLI g σ2 x1 n :=
  h.sm (s1.to (fun _ q => Or.inl q) |>.tr (s2.to (fun _ q => Or.inr q)) : fSm (fun a => fClB a ∨ fRfA a) σ σ2) ok1 (c1.rf ok1 s2) r2
set_option maxRecDepth 20000 in
theorem t_X10_thrown {g : fGP} {d : Nat} {σ : fAH} {Q : fRes → fAH → Prop} {c : Int32} (Ms : fMs g σ) (hc : fI σ 89 0 = c) (h : Q (.inl (some (.int c))) σ) : fEv g d mX10_thrown 0 (fent [.ref 89] 1) [] σ Q := by
  show fEv g d mX10_thrown 0 [some (.ref 89)] [] σ Q
  refine e_aload_n dX10_thrown_0 rfl rfl ?_
  refine e_getI dX10_thrown_1 fl_RX10_76 (Ms.s 89 rfl) (Ms.n (by decide)) rfl ?_
  refine e_int (c) hc ?_
  exact e_ireturn .int dX10_thrown_4 rfl rfl h
