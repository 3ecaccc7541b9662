theorem fWD_AB {D : fSD} {a b c : Nat} (hD : fWD D) (hl : dT D 0 < 6) (ha : 2 ≤ a ∧ a < 13) (hb : 2 ≤ b ∧ b < 13) (hc : c < 2) : fWD (dAB D (mr3 a b c)) := by
  obtain ⟨⟨t0, t1, t2, t3, t4, t5, t6⟩, h1, h2, h3, h4, h5⟩ := hD
  refine ⟨⟨(by show dT D 0 + 1 ≤ 6; omega), t1, t2, t3, t4, t5, t6⟩, fun k hk => ?_, fun k hk => ?_, h3, h4, h5⟩
  · have hk : k < dT D 0 + 1 := hk
    show 2 ≤ dput (dB D) (dT D 0) (mr3 a b c) k 0 ∧ dput (dB D) (dT D 0) (mr3 a b c) k 0 ≤ 12 ∧ 2 ≤ dput (dB D) (dT D 0) (mr3 a b c) k 1 ∧ dput (dB D) (dT D 0) (mr3 a b c) k 1 ≤ 12 ∧ dput (dB D) (dT D 0) (mr3 a b c) k 2 ≤ 1
    by_cases e : k = dT D 0
    · rw [e, dput_s, dput_s, dput_s]
      show 2 ≤ a ∧ a ≤ 12 ∧ 2 ≤ b ∧ b ≤ 12 ∧ c ≤ 1
      omega
    · rw [dput_n _ _ _ e, dput_n _ _ _ e, dput_n _ _ _ e]
      exact h1 k (by omega)
  · obtain ⟨s0, s1, s2, s3, s4, s5, s6⟩ := h2 k hk
    have n0 : dS D k 0 ≠ dT D 0 := by omega
    refine ⟨(by show dS D k 0 < dT D 0 + 1; omega), s1, s2, ?_, ?_, s5, s6⟩
    · show dS D k 2 < dput (dB D) (dT D 0) (mr3 a b c) (dS D k 0) (dS D k 1)
      rw [dput_n _ _ _ n0]; exact s3
    · show dS D k 3 < dput (dB D) (dT D 0) (mr3 a b c) (dS D k 0) (1 - dS D k 1)
      rw [dput_n _ _ _ n0]; exact s4
theorem fWD_AS {D : fSD} {a b c x4 x5 : Nat} (hD : fWD D) (hl : dT D 1 < 12) (ha : a < dT D 0) (hb : b < 2) (hc : 1 ≤ c ∧ c < dB D a b) (h4' : x4 < dB D a (1 - b)) (h5' : 1 ≤ x5 ∧ x5 < 10) : fWD (dAS D (mr5 a b c x4 x5)) := by
  obtain ⟨⟨t0, t1, t2, t3, t4, t5, t6⟩, h1, h2, h3, h4, h5⟩ := hD
  refine ⟨⟨t0, (by show dT D 1 + 1 ≤ 12; omega), t2, t3, t4, t5, t6⟩, h1, fun k hk => ?_, h3, h4, h5⟩
  have hk : k < dT D 1 + 1 := hk
  show dput (dS D) (dT D 1) (mr5 a b c x4 x5) k 0 < dT D 0 ∧ dput (dS D) (dT D 1) (mr5 a b c x4 x5) k 1 ≤ 1 ∧ 1 ≤ dput (dS D) (dT D 1) (mr5 a b c x4 x5) k 2 ∧ dput (dS D) (dT D 1) (mr5 a b c x4 x5) k 2 < dB D (dput (dS D) (dT D 1) (mr5 a b c x4 x5) k 0) (dput (dS D) (dT D 1) (mr5 a b c x4 x5) k 1) ∧ dput (dS D) (dT D 1) (mr5 a b c x4 x5) k 3 < dB D (dput (dS D) (dT D 1) (mr5 a b c x4 x5) k 0) (1 - dput (dS D) (dT D 1) (mr5 a b c x4 x5) k 1) ∧ 1 ≤ dput (dS D) (dT D 1) (mr5 a b c x4 x5) k 4 ∧ dput (dS D) (dT D 1) (mr5 a b c x4 x5) k 4 ≤ 9
  by_cases e : k = dT D 1
  · subst e
    rw [dput_s, dput_s, dput_s, dput_s, dput_s]
    show a < dT D 0 ∧ b ≤ 1 ∧ 1 ≤ c ∧ c < dB D a b ∧ x4 < dB D a (1 - b) ∧ 1 ≤ x5 ∧ x5 ≤ 9
    omega
  · rw [dput_n _ _ _ e, dput_n _ _ _ e, dput_n _ _ _ e, dput_n _ _ _ e, dput_n _ _ _ e]
    exact h2 k (by omega)
theorem fWD_AO {D : fSD} {a b c x4 x5 : Nat} (hD : fWD D) (hl : dT D 2 < 6) (ha : 1 ≤ a ∧ a < 13) (hb : 1 ≤ b ∧ b < 13) (hc : 1 ≤ c ∧ c < 10) (h4' : x4 < 30) (h5' : 1 ≤ x5 ∧ x5 < 100) : fWD (dAO D (mr5 a b c x4 x5)) := by
  obtain ⟨⟨t0, t1, t2, t3, t4, t5, t6⟩, h1, h2, h3, h4, h5⟩ := hD
  refine ⟨⟨t0, t1, (by show dT D 2 + 1 ≤ 6; omega), t3, t4, t5, t6⟩, h1, h2, fun k hk => ?_, h4, h5⟩
  have hk : k < dT D 2 + 1 := hk
  show 1 ≤ dput (dO D) (dT D 2) (mr5 a b c x4 x5) k 0 ∧ dput (dO D) (dT D 2) (mr5 a b c x4 x5) k 0 ≤ 12 ∧ 1 ≤ dput (dO D) (dT D 2) (mr5 a b c x4 x5) k 1 ∧ dput (dO D) (dT D 2) (mr5 a b c x4 x5) k 1 ≤ 12 ∧ 1 ≤ dput (dO D) (dT D 2) (mr5 a b c x4 x5) k 2 ∧ dput (dO D) (dT D 2) (mr5 a b c x4 x5) k 2 ≤ 9 ∧ dput (dO D) (dT D 2) (mr5 a b c x4 x5) k 3 ≤ 29 ∧ 1 ≤ dput (dO D) (dT D 2) (mr5 a b c x4 x5) k 4 ∧ dput (dO D) (dT D 2) (mr5 a b c x4 x5) k 4 ≤ 99
  by_cases e : k = dT D 2
  · subst e
    rw [dput_s, dput_s, dput_s, dput_s, dput_s]
    show 1 ≤ a ∧ a ≤ 12 ∧ 1 ≤ b ∧ b ≤ 12 ∧ 1 ≤ c ∧ c ≤ 9 ∧ x4 ≤ 29 ∧ 1 ≤ x5 ∧ x5 ≤ 99
    omega
  · rw [dput_n _ _ _ e, dput_n _ _ _ e, dput_n _ _ _ e, dput_n _ _ _ e, dput_n _ _ _ e]
    exact h3 k (by omega)
theorem fWD_AZ {D : fSD} {a b c : Nat} (hD : fWD D) (hl : dT D 6 < 24) (ha : a < 30) (hb : 1 ≤ b ∧ b < 10) (hc : 1 ≤ c ∧ c < 9 - mall D a) : fWD (dAZ D (mr3 a b c)) := by
  obtain ⟨⟨t0, t1, t2, t3, t4, t5, t6⟩, h1, h2, h3, h4, h5⟩ := hD
  refine ⟨⟨t0, t1, t2, t3, t4, t5, (by show dT D 6 + 1 ≤ 24; omega)⟩, h1, h2, h3, fun k hk => ?_, fun t => ?_⟩
  · have hk : k < dT D 6 + 1 := hk
    show dput (dZ D) (dT D 6) (mr3 a b c) k 0 ≤ 29 ∧ 1 ≤ dput (dZ D) (dT D 6) (mr3 a b c) k 1 ∧ dput (dZ D) (dT D 6) (mr3 a b c) k 1 ≤ 9 ∧ 1 ≤ dput (dZ D) (dT D 6) (mr3 a b c) k 2 ∧ dput (dZ D) (dT D 6) (mr3 a b c) k 2 ≤ 8
    by_cases e : k = dT D 6
    · subst e
      rw [dput_s, dput_s, dput_s]
      show a ≤ 29 ∧ 1 ≤ b ∧ b ≤ 9 ∧ 1 ≤ c ∧ c ≤ 8
      omega
    · rw [dput_n _ _ _ e, dput_n _ _ _ e, dput_n _ _ _ e]
      exact h4 k (by omega)
  · rw [mall_AZ]
    show mall D t + (if a = t then c else 0) ≤ 8
    have := h5 t
    split
    · next e => subst e; omega
    · omega
theorem fWD_St {D : fSD} {k v : Nat} (hD : fWD D) (h : (k = 3 ∧ v ≤ 12) ∨ (k = 4 ∧ v ≤ 9) ∨ (k = 5 ∧ v ≤ 30)) : fWD (dSt D k v) := by
  obtain ⟨⟨t0, t1, t2, t3, t4, t5, t6⟩, h1, h2, h3, h4, h5⟩ := hD
  rcases h with ⟨rfl, h⟩ | ⟨rfl, h⟩ | ⟨rfl, h⟩
  · exact ⟨⟨t0, t1, t2, h, t4, t5, t6⟩, h1, h2, h3, h4, h5⟩
  · exact ⟨⟨t0, t1, t2, t3, h, t5, t6⟩, h1, h2, h3, h4, h5⟩
  · exact ⟨⟨t0, t1, t2, t3, t4, h, t6⟩, h1, h2, h3, h4, h5⟩
theorem mnv_i {B : Nat → Nat} {n lo hi : Nat} {s : fP} {e : Nat} (h : mnum B n lo hi s = .inr e) (d : Nat) : lo ≤ mnv B n lo hi d s ∧ mnv B n lo hi d s < hi := by
  obtain ⟨a, _, _, w, l, u⟩ := mnum_ok h
  rw [w d]
  exact ⟨l, u⟩
theorem mns_ok {B : Nat → Nat} {n k : Nat} {D : fSD} {s : fP} {e : Nat} (hD : fWD D) (hf : ¬ mfl D k = true) (hk7 : k < 7) (h : (mns B n k D s).1 = .inr e) : fWD (mns B n k D s).2 := by
  have hf : ¬ ((k = 0 ∧ 6 ≤ dT D 0) ∨ (k = 1 ∧ 12 ≤ dT D 1) ∨ (k = 2 ∧ 6 ≤ dT D 2) ∨ (k = 6 ∧ 24 ≤ dT D 6)) := fun q => hf (decide_eq_true q)
  unfold mns at h ⊢
  by_cases e0 : k = 0
  · rw [if_pos e0] at h ⊢
    obtain ⟨a2, r2, -, -, -, -⟩ := mnum_ok h
    obtain ⟨a1, r1, -, -, -, -⟩ := mnum_ok r2
    have := mnv_i h 0
    exact fWD_AB hD (by omega) (mnv_i r1 0) (mnv_i r2 0) (by omega)
  rw [if_neg e0] at h ⊢
  by_cases e1 : k = 1
  · rw [if_pos e1] at h ⊢
    obtain ⟨a4, r4, -, -, -, -⟩ := mnum_ok h
    obtain ⟨a3, r3, -, -, -, -⟩ := mnum_ok r4
    obtain ⟨a2, r2, -, -, -, -⟩ := mnum_ok r3
    obtain ⟨a1, r1, -, -, -, -⟩ := mnum_ok r2
    exact fWD_AS hD (by omega) (mnv_i r1 0).2 (mnv_i r2 0).2 (mnv_i r3 0) (mnv_i r4 0).2 (mnv_i h 0)
  rw [if_neg e1] at h ⊢
  by_cases e2 : k = 2
  · rw [if_pos e2] at h ⊢
    obtain ⟨a4, r4, -, -, -, -⟩ := mnum_ok h
    obtain ⟨a3, r3, -, -, -, -⟩ := mnum_ok r4
    obtain ⟨a2, r2, -, -, -, -⟩ := mnum_ok r3
    obtain ⟨a1, r1, -, -, -, -⟩ := mnum_ok r2
    exact fWD_AO hD (by omega) (mnv_i r1 0) (mnv_i r2 0) (mnv_i r3 0) (mnv_i r4 0).2 (mnv_i h 0)
  rw [if_neg e2] at h ⊢
  by_cases e3 : k = 3
  · rw [if_pos e3] at h ⊢
    have := mnv_i h 0
    exact fWD_St hD (Or.inl ⟨rfl, by omega⟩)
  rw [if_neg e3] at h ⊢
  by_cases e4 : k = 4
  · rw [if_pos e4] at h ⊢
    have := mnv_i h 0
    exact fWD_St hD (Or.inr (Or.inl ⟨rfl, by omega⟩))
  rw [if_neg e4] at h ⊢
  by_cases e5 : k = 5
  · rw [if_pos e5] at h ⊢
    have := mnv_i h 0
    exact fWD_St hD (Or.inr (Or.inr ⟨rfl, by omega⟩))
  rw [if_neg e5] at h ⊢
  obtain ⟨a2, r2, -, -, -, -⟩ := mnum_ok h
  obtain ⟨a1, r1, -, -, -, -⟩ := mnum_ok r2
  by_cases e6 : k = 6
  · exact fWD_AZ hD (by omega) (mnv_i r1 0).2 (mnv_i r2 0) (mnv_i h 0)
  · by_cases e7 : dT D 6 < 24
    · exact fWD_AZ hD e7 (mnv_i r1 0).2 (mnv_i r2 0) (mnv_i h 0)
    · exact absurd hk7 (by omega)
theorem mse_ok {B : Nat → Nat} {n : Nat} {s : fP} {e : Nat} (h : mse B n s = .inr e) : ∃ a, s = .inr a := by
  cases s with
  | inl x => cases h
  | inr a => exact ⟨a, rfl⟩
theorem mwr_lt {B : Nat → Nat} {a e k : Nat} (h : mwr B a e = some k) : k < 7 := by
  unfold mwr at h
  repeat' split at h
  all_goals first | (cases h; decide) | cases h
theorem mcla_n {B : Nat → Nat} {n a c : Nat} {D : fSD} (h : mwr B a (mlt B n a) = none) : mcla B n a c D = (.inl (1, a), D) := by
  unfold mcla
  rw [h]
theorem mcla_f {B : Nat → Nat} {n a c k : Nat} {D : fSD} (h : mwr B a (mlt B n a) = some k) (h2 : 60 ≤ c ∨ mfl D k = true) : mcla B n a c D = (.inl (3, a), D) := by
  unfold mcla
  rw [h]
  exact if_pos h2
theorem mcla_s {B : Nat → Nat} {n a c k : Nat} {D : fSD} (h : mwr B a (mlt B n a) = some k) (h2 : ¬ (60 ≤ c ∨ mfl D k = true)) : mcla B n a c D = (mse B n (mns B n k D (.inr (mlt B n a))).1, (mns B n k D (.inr (mlt B n a))).2) := by
  unfold mcla
  rw [h]
  exact if_neg h2
theorem mcla_ok {B : Nat → Nat} {n a c : Nat} {D : fSD} {e : Nat} (hD : fWD D) (h : (mcla B n a c D).1 = .inr e) : fWD (mcla B n a c D).2 ∧ c < 60 := by
  cases hw : mwr B a (mlt B n a) with
  | none => rw [mcla_n hw] at h; cases h
  | some k =>
    by_cases h2 : 60 ≤ c ∨ mfl D k = true
    · rw [mcla_f hw h2] at h; cases h
    · rw [mcla_s hw h2] at h ⊢
      obtain ⟨a9, h9⟩ := mse_ok h
      exact ⟨mns_ok hD (fun q => h2 (Or.inr q)) (mwr_lt hw) h9, by omega⟩
theorem fWD0 : fWD D0 := by
  have m0 : ∀ t, mall D0 t = 0 := fun t => rfl
  exact ⟨⟨by decide, by decide, by decide, by decide, by decide, by decide, by decide⟩, fun b hb => absurd hb (Nat.not_lt_zero _), fun b hb => absurd hb (Nat.not_lt_zero _), fun b hb => absurd hb (Nat.not_lt_zero _), fun b hb => absurd hb (Nat.not_lt_zero _), fun t => by rw [m0]; decide⟩
theorem mrd_l {B : Nat → Nat} {n : Nat} {x : Nat × Nat} : ∀ {k c : Nat} {D : fSD}, mrd B n k (.inl x) c D = (.inl x, D)
  | 0, _, _ => rfl
  | _ + 1, _, _ => rfl
theorem mrd_e {B : Nat → Nat} {n a : Nat} (h : ¬ a < n) : ∀ {k c : Nat} {D : fSD}, mrd B n k (.inr a) c D = (.inr a, D)
  | 0, _, _ => rfl
  | _ + 1, _, _ => if_neg h
theorem mrd_s {B : Nat → Nat} {n a : Nat} (h : a < n) {k c : Nat} {D : fSD} : mrd B n (k + 1) (.inr a) c D = mrd B n k (mskp B n (mcla B n a c D).1) (c + 1) (mcla B n a c D).2 := if_pos h
/-- what a reading that ends well tells may be told -/
theorem mrd_ok {B : Nat → Nat} {n : Nat} : ∀ (k c : Nat) (s : fP) (D : fSD) (e : Nat), (∀ a, s = .inr a → fWD D) → (mrd B n k s c D).1 = .inr e → fWD (mrd B n k s c D).2
  | 0, c, s, D, e, hD, h => hD e h
  | k + 1, c, .inl x, D, e, hD, h => by rw [mrd_l] at h; cases h
  | k + 1, c, .inr a, D, e, hD, h => by
    by_cases ha : a < n
    · rw [mrd_s ha] at h ⊢
      refine mrd_ok k (c + 1) _ _ e (fun a9 h9 => ?_) h
      cases q : (mcla B n a c D).1 with
      | inl x => rw [q] at h9; cases h9
      | inr a8 => exact (mcla_ok (hD a rfl) q).1
    · rw [mrd_e ha]
      exact hD a rfl
