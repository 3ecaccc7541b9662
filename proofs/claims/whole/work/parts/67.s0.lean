/-! ===== a quarry as it is told, before its first night ===== -/
def mlb (D : fSD) : Nat → Nat → Nat
  | 0 => fun _ => 0
  | k + 1 => mup (mup (mup (mup (mup (mup (mlb D k) (k * 6) k) (k * 6 + 1) 0) (k * 6 + 2) (dB D k 0)) (k * 6 + 3) 0) (k * 6 + 4) (dB D k 1)) (k * 6 + 5) 1
def mld (D : fSD) : Nat → (Nat → Nat) → Nat → Nat
  | 0, S => S
  | k + 1, S => mup (mld D k S) (121 + k) (dS D k 4)
def mS0 (D : fSD) : Nat → Nat := mld D (dT D 1) (mup (mlb D (dT D 0)) 120 (dT D 0))
/-- a block's piece -/
def mbw (D : fSD) (p c : Nat) : Nat := if c = 0 then p else if c = 1 then 0 else if c = 2 then dB D p 0 else if c = 3 then 0 else if c = 4 then dB D p 1 else 1
theorem mlb_z {D : fSD} : ∀ {k j : Nat}, k * 6 ≤ j → mlb D k j = 0
  | 0, _, _ => rfl
  | k + 1, j, h => by
    show mup _ _ _ j = 0
    rw [mup_n _ _ (by omega), mup_n _ _ (by omega), mup_n _ _ (by omega), mup_n _ _ (by omega), mup_n _ _ (by omega), mup_n _ _ (by omega)]
    exact mlb_z (by omega)
theorem mlb_at {D : fSD} : ∀ {k p c : Nat}, p < k → c < 6 → mlb D k (p * 6 + c) = mbw D p c
  | 0, _, _, h, _ => absurd h (Nat.not_lt_zero _)
  | k + 1, p, c, h, hc => by
    show mup _ _ _ (p * 6 + c) = _
    by_cases e : p = k
    · subst e
      rcases (show c = 0 ∨ c = 1 ∨ c = 2 ∨ c = 3 ∨ c = 4 ∨ c = 5 by omega) with rfl | rfl | rfl | rfl | rfl | rfl
      · rw [mup_n _ _ (by omega), mup_n _ _ (by omega), mup_n _ _ (by omega), mup_n _ _ (by omega), mup_n _ _ (by omega)]; exact mup_s _ _ _
      · rw [mup_n _ _ (by omega), mup_n _ _ (by omega), mup_n _ _ (by omega), mup_n _ _ (by omega)]; exact mup_s _ _ _
      · rw [mup_n _ _ (by omega), mup_n _ _ (by omega), mup_n _ _ (by omega)]; exact mup_s _ _ _
      · rw [mup_n _ _ (by omega), mup_n _ _ (by omega)]; exact mup_s _ _ _
      · rw [mup_n _ _ (by omega)]; exact mup_s _ _ _
      · exact mup_s _ _ _
    · rw [mup_n _ _ (by omega), mup_n _ _ (by omega), mup_n _ _ (by omega), mup_n _ _ (by omega), mup_n _ _ (by omega), mup_n _ _ (by omega)]
      exact mlb_at (by omega) hc
theorem mld_o {D : fSD} {S : Nat → Nat} : ∀ {k j : Nat}, (j < 121 ∨ 121 + k ≤ j) → mld D k S j = S j
  | 0, _, _ => rfl
  | k + 1, j, h => by
    show mup _ _ _ j = _
    rw [mup_n _ _ (by omega)]
    exact mld_o (by omega)
theorem mld_at {D : fSD} {S : Nat → Nat} : ∀ {k i : Nat}, i < k → mld D k S (121 + i) = dS D i 4
  | 0, _, h => absurd h (Nat.not_lt_zero _)
  | k + 1, i, h => by
    show mup _ _ _ (121 + i) = _
    by_cases e : i = k
    · subst e; exact mup_s _ _ _
    · rw [mup_n _ _ (by omega)]
      exact mld_at (by omega)
theorem mS0_n {D : fSD} : mS0 D 120 = dT D 0 := by
  unfold mS0
  rw [mld_o (Or.inl (by omega))]
  exact mup_s _ _ _
theorem mS0_p {D : fSD} (hD : fWD D) {p c : Nat} (hp : p < dT D 0) (hc : c < 6) : mS0 D (p * 6 + c) = mbw D p c := by
  have := hD.1
  unfold mS0
  rw [mld_o (Or.inl (by omega)), mup_n _ _ (by omega)]
  exact mlb_at hp hc
theorem mS0_d {D : fSD} {i : Nat} (hi : i < dT D 1) : mS0 D (121 + i) = dS D i 4 := mld_at hi
theorem mS0_z {D : fSD} (hD : fWD D) {j : Nat} (h : 133 ≤ j ∨ (121 + dT D 1 ≤ j) ∨ (36 ≤ j ∧ j < 120)) : mS0 D j = 0 := by
  have := hD.1
  unfold mS0
  rw [mld_o (by omega), mup_n _ _ (by omega)]
  exact mlb_z (by omega)
theorem mct_0 {f : Nat → Bool} : ∀ (n i : Nat), (∀ j, f j = false) → mct f n i = 0
  | 0, _, _ => rfl
  | n + 1, i, h => by
    unfold mct
    rw [h i, mct_0 n (i + 1) h]
    rfl
theorem fWS0 {D : fSD} (hD : fWD D) : fWS D (mS0 D) := by
  have t := hD.1
  refine ⟨⟨by rw [mS0_n, mS0_z hD (by omega)]; omega, by rw [mS0_z hD (by omega)]; omega⟩, fun p hp => ?_, fun k hk => ?_, fun o ho => ?_, by rw [mS0_z hD (by omega)]; omega⟩
  · rw [mS0_n] at hp
    have b := hD.2.1 p hp
    have e0 := mS0_p hD hp (c := 0) (by decide)
    rw [Nat.add_zero] at e0
    rw [e0, mS0_p hD hp (by decide), mS0_p hD hp (by decide), mS0_p hD hp (by decide), mS0_p hD hp (by decide), mS0_p hD hp (by decide)]
    show p < dT D 0 ∧ 0 < dB D p 0 ∧ dB D p 0 ≤ 12 ∧ 0 < dB D p 1 ∧ dB D p 1 ≤ 12 ∧ 1 ≤ 1
    omega
  · have s := hD.2.2.1 k hk
    rw [mS0_d hk, mS0_z hD (by omega)]
    omega
  · rw [mS0_z hD (by omega)]
    omega
theorem fWN0 {D : fSD} (hD : fWD D) : fWN (mS0 D) 0 0 := by
  unfold fWN
  rw [mS0_z hD (by omega), mS0_z hD (by omega), mS0_z hD (by omega), mS0_z hD (by omega), mS0_z hD (by omega)]
  omega
theorem fWC0 {D : fSD} (hD : fWD D) : fWC D (mS0 D) := by
  have t := hD.1
  refine ⟨?_, fun i h1 h2 => mS0_z hD (by omega)⟩
  rw [mS0_z hD (by omega)]
  exact (mct_0 _ _ (fun j => decide_eq_false (by rw [mS0_z hD (by omega)]; omega))).symm
theorem mS0_lt {D : fSD} (hD : fWD D) (i : Nat) : mS0 D i < 100000 := by
  have t := hD.1
  by_cases h : i < 36
  · by_cases h2 : i / 6 < dT D 0
    · have := mS0_p hD h2 (c := i % 6) (by omega)
      rw [show i / 6 * 6 + i % 6 = i by omega] at this
      have b := hD.2.1 _ h2
      rw [this]
      unfold mbw
      repeat' split
      all_goals omega
    · unfold mS0
      rw [mld_o (by omega), mup_n _ _ (by omega), mlb_z (by omega)]
      omega
  · by_cases h3 : i = 120
    · rw [h3, mS0_n]; omega
    · by_cases h4 : 121 ≤ i ∧ i < 121 + dT D 1
      · obtain ⟨k, rfl⟩ : ∃ k, i = 121 + k := ⟨i - 121, by omega⟩
        rw [mS0_d (by omega)]
        have := hD.2.2.1 k (by omega)
        omega
      · rw [mS0_z hD (by omega)]
        omega
