/-! ===== the reference's images: which cell stands at which place ===== -/
def mcA (k : Nat) : Nat := if k < 157 then 197 else if k < 159 then 89 else if k < 219 then 219 + (k - 159) % 2 else if k < 339 then 222 + (k - 219) / 2 else 283 + (k - 339) / 4
def mcI (k : Nat) : Nat := if k < 157 then k else if k < 159 then k - 135 else if k < 219 then (k - 159) / 2 else if k < 339 then (k - 219) % 2 else (k - 339) % 4
def mcV (a q : Nat) : Nat := if a = 197 then q else if a = 89 then q + 135 else if a = 219 then 159 + 2 * q else if a = 220 then 160 + 2 * q else if a < 283 then 219 + 2 * (a - 222) + q else 339 + 4 * (a - 283) + q
theorem mc_v {k : Nat} (hk : k < 387) : mcV (mcA k) (mcI k) = k := by
  unfold mcA mcI
  by_cases h1 : k < 157
  · rw [if_pos h1, if_pos h1]; exact if_pos rfl
  · rw [if_neg h1, if_neg h1]
    by_cases h2 : k < 159
    · rw [if_pos h2, if_pos h2]
      unfold mcV
      rw [if_neg (by omega), if_pos rfl]; omega
    · rw [if_neg h2, if_neg h2]
      by_cases h3 : k < 219
      · rw [if_pos h3, if_pos h3]
        unfold mcV
        rw [if_neg (by omega), if_neg (by omega)]
        by_cases e : (k - 159) % 2 = 0
        · rw [if_pos (by omega)]; omega
        · rw [if_neg (by omega), if_pos (by omega)]; omega
      · rw [if_neg h3, if_neg h3]
        by_cases h4 : k < 339
        · rw [if_pos h4, if_pos h4]
          unfold mcV
          rw [if_neg (by omega), if_neg (by omega), if_neg (by omega), if_neg (by omega), if_pos (by omega)]; omega
        · rw [if_neg h4, if_neg h4]
          unfold mcV
          rw [if_neg (by omega), if_neg (by omega), if_neg (by omega), if_neg (by omega), if_neg (by omega)]; omega
def fMvA (j : Nat) : Nat → Prop := fun a => a = 89 ∨ a = 197 ∨ a = 219 ∨ a = 220 ∨ (222 ≤ a ∧ a < 282) ∨ (283 ≤ a ∧ a < 295) ∨ a = 296 + j
theorem mc_r {k : Nat} (hk : k < 387) : (mcA k = 89 ∧ (mcI k = 22 ∨ mcI k = 23)) ∨ mcA k = 197 ∨ mcA k = 219 ∨ mcA k = 220 ∨ (222 ≤ mcA k ∧ mcA k < 282) ∨ (283 ≤ mcA k ∧ mcA k < 295) := by
  unfold mcA mcI
  by_cases h1 : k < 157
  · rw [if_pos h1, if_pos h1]; omega
  · rw [if_neg h1, if_neg h1]
    by_cases h2 : k < 159
    · rw [if_pos h2, if_pos h2]; omega
    · rw [if_neg h2, if_neg h2]
      by_cases h3 : k < 219
      · rw [if_pos h3, if_pos h3]; omega
      · rw [if_neg h3, if_neg h3]
        by_cases h4 : k < 339
        · rw [if_pos h4, if_pos h4]; omega
        · rw [if_neg h4, if_neg h4]; omega
def fJ0 (g : fGP) (j : Nat) (σ0 σ : fAH) (k : Nat) : Prop := fMs g σ ∧ fSm (fMvA j) σ0 σ ∧ fI σ 89 25 = nI k ∧ (∀ q, q < k → fI σ (296 + j) q = fI σ0 (mcA q) (mcI q)) ∧ ∀ a q, a ≠ 296 + j → ¬ (a = 89 ∧ q = 25) → fI σ a q = fI σ0 a q
def fJ1 (g : fGP) (j : Nat) (σ0 σ : fAH) (k : Nat) : Prop := fMs g σ ∧ fSm (fMvA j) σ0 σ ∧ fI σ 89 25 = nI k ∧ (∀ q, q < k → fI σ (mcA q) (mcI q) = fI σ0 (296 + j) q) ∧ ∀ a q, (∀ p, p < k → ¬ (a = mcA p ∧ q = mcI p)) → ¬ (a = 89 ∧ q = 25) → fI σ a q = fI σ0 a q
theorem mv0 {g : fGP} {j k a q : Nat} {σ0 σ : fAH} (J : fJ0 g j σ0 σ k) (hk : k < 387) (ha : a = mcA k) (hq : q = mcI k) : fJ0 g j σ0 (fsI (fsI (fsI σ (296 + j) k (fI σ a q)) 89 25 (nI (k + 1))) a q (fI σ a q)) (k + 1) := by
  have r := mc_r hk
  rw [← ha, ← hq] at r
  have s1 : fSm (fMvA j) σ (fsI (fsI (fsI σ (296 + j) k (fI σ a q)) 89 25 (nI (k + 1))) a q (fI σ a q)) := ((fSm_I (by unfold fMvA; omega)).tr (fSm_I (by unfold fMvA; omega))).tr (fSm_I (by unfold fMvA; omega))
  obtain ⟨j1, j2, j3, j4, j5⟩ := J
  refine ⟨j1.sm s1, j2.tr s1, ?_, fun p hp => ?_, fun b p hb hp => ?_⟩
  · rw [fI_I, if_neg (by omega), fI_I, if_pos ⟨rfl, rfl⟩]
  · rw [fI_I, if_neg (by omega), fI_I, if_neg (by omega)]
    by_cases e : p = k
    · rw [fI_I, if_pos ⟨rfl, e⟩, e, ← ha, ← hq]; exact j5 a q (by omega) (by omega)
    · rw [fI_I, if_neg (by omega)]; exact j4 p (by omega)
  · by_cases e : b = a ∧ p = q
    · rw [fI_I, if_pos e, e.1, e.2]; exact j5 a q (by omega) (by omega)
    · rw [fI_I, if_neg e, fI_I, if_neg hp, fI_I, if_neg (by omega)]; exact j5 b p hb hp
theorem mv1 {g : fGP} {j k a q : Nat} {σ0 σ : fAH} (J : fJ1 g j σ0 σ k) (hk : k < 387) (ha : a = mcA k) (hq : q = mcI k) : fJ1 g j σ0 (fsI (fsI σ 89 25 (nI (k + 1))) a q (fI σ (296 + j) k)) (k + 1) := by
  have r := mc_r hk
  rw [← ha, ← hq] at r
  have s1 : fSm (fMvA j) σ (fsI (fsI σ 89 25 (nI (k + 1))) a q (fI σ (296 + j) k)) := (fSm_I (by unfold fMvA; omega)).tr (fSm_I (by unfold fMvA; omega))
  obtain ⟨j1, j2, j3, j4, j5⟩ := J
  refine ⟨j1.sm s1, j2.tr s1, ?_, fun p hp => ?_, fun b p hb hp => ?_⟩
  · rw [fI_I, if_neg (by omega), fI_I, if_pos ⟨rfl, rfl⟩]
  · by_cases e : p = k
    · rw [e, ← ha, ← hq, fI_I, if_pos ⟨rfl, rfl⟩]
      exact j5 (296 + j) k (fun p hp q9 => by have := mc_r (show p < 387 by omega); omega) (by omega)
    · have rp := mc_r (show p < 387 by omega)
      have ne : ¬ (mcA p = a ∧ mcI p = q) := fun q9 => e (by
        have h1 := mc_v (show p < 387 by omega)
        rw [q9.1, q9.2, ha, hq, mc_v hk] at h1
        exact h1.symm)
      rw [fI_I, if_neg ne, fI_I, if_neg (by omega)]
      exact j4 p (by omega)
  · rw [fI_I, if_neg (fun q9 => hb k (by omega) ⟨q9.1.trans ha, q9.2.trans hq⟩), fI_I, if_neg hp]
    exact j5 b p (fun p hp => hb p (by omega)) hp
