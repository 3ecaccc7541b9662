/-! ===== the mathematical state: what a quarry tells (D), what stands behind some nights (S) ===== -/
abbrev fSD : Type := (Nat → Nat) × (Nat → Nat → Nat) × (Nat → Nat → Nat) × (Nat → Nat → Nat) × (Nat → Nat → Nat)
/-- 0 blocks, 1 slots, 2 orders, 3 water, 4 sledge, 5 thaw, 6 odds -/
abbrev dT (D : fSD) : Nat → Nat := D.1
abbrev dB (D : fSD) : Nat → Nat → Nat := D.2.1
abbrev dS (D : fSD) : Nat → Nat → Nat := D.2.2.1
abbrev dO (D : fSD) : Nat → Nat → Nat := D.2.2.2.1
abbrev dZ (D : fSD) : Nat → Nat → Nat := D.2.2.2.2
/-- the sum of f over i < n -/
def msum (f : Nat → Nat) : Nat → Nat
  | 0 => 0
  | n + 1 => msum f n + f n
/-- in night t: of 8, how many have cold c -/
def mpart (D : fSD) (t c : Nat) : Nat := msum (fun i => if dZ D i 0 = t ∧ dZ D i 1 = c then dZ D i 2 else 0) (dT D 6)
def mall (D : fSD) (t : Nat) : Nat := msum (fun i => if dZ D i 0 = t then dZ D i 2 else 0) (dT D 6)
def fWD (D : fSD) : Prop :=
  (dT D 0 ≤ 6 ∧ dT D 1 ≤ 12 ∧ dT D 2 ≤ 6 ∧ dT D 3 ≤ 12 ∧ dT D 4 ≤ 9 ∧ dT D 5 ≤ 30 ∧ dT D 6 ≤ 24) ∧
  (∀ b, b < dT D 0 → 2 ≤ dB D b 0 ∧ dB D b 0 ≤ 12 ∧ 2 ≤ dB D b 1 ∧ dB D b 1 ≤ 12 ∧ dB D b 2 ≤ 1) ∧
  (∀ k, k < dT D 1 → dS D k 0 < dT D 0 ∧ dS D k 1 ≤ 1 ∧ 1 ≤ dS D k 2 ∧ dS D k 2 < dB D (dS D k 0) (dS D k 1) ∧ dS D k 3 < dB D (dS D k 0) (1 - dS D k 1) ∧ 1 ≤ dS D k 4 ∧ dS D k 4 ≤ 9) ∧
  (∀ o, o < dT D 2 → 1 ≤ dO D o 0 ∧ dO D o 0 ≤ 12 ∧ 1 ≤ dO D o 1 ∧ dO D o 1 ≤ 12 ∧ 1 ≤ dO D o 2 ∧ dO D o 2 ≤ 9 ∧ dO D o 3 ≤ 29 ∧ 1 ≤ dO D o 4 ∧ dO D o 4 ≤ 99) ∧
  (∀ i, i < dT D 6 → dZ D i 0 ≤ 29 ∧ 1 ≤ dZ D i 1 ∧ dZ D i 1 ≤ 9 ∧ 1 ≤ dZ D i 2 ∧ dZ D i 2 ≤ 8) ∧ ∀ t, mall D t ≤ 8
/-- a slot's line lies within 12 -/
theorem fWD.s2 {D : fSD} (h : fWD D) {k : Nat} (hk : k < dT D 1) : dS D k 2 < 12 ∧ dS D k 3 < 12 := by
  obtain ⟨h1, h2, h3, h4, h5, h6, h7⟩ := h.2.2.1 k hk
  obtain ⟨b1, b2, b3, b4, b5⟩ := h.2.1 _ h1
  have : dS D k 1 = 0 ∨ dS D k 1 = 1 := by omega
  rcases this with e | e
  · rw [e] at h4 h5
    have h5 : dS D k 3 < dB D (dS D k 0) 1 := h5
    exact ⟨by omega, by omega⟩
  · rw [e] at h4 h5
    have h5 : dS D k 3 < dB D (dS D k 0) 0 := h5
    exact ⟨by omega, by omega⟩
/-! S i: 0 to 119 the pieces, six places each (block, a, b, c, d, lies); 120 how many; 121 depths; 133 split (0: not yet); 145 what orders have; 151 paid, 152 splits, 153 astray, 154 bruises, 155 night -/
def mX (D : fSD) (k : Nat) : Nat := if dS D k 1 = 0 then dS D k 2 else dS D k 3
def mY (D : fSD) (k : Nat) : Nat := if dS D k 1 = 0 then dS D k 3 else dS D k 2
/-- the slot's point lies in the piece p, which lies -/
def mhit (D : fSD) (S : Nat → Nat) (k p : Nat) : Bool := decide (S (p * 6 + 5) = 1 ∧ S (p * 6) = dS D k 0 ∧ S (p * 6 + 1) ≤ mX D k ∧ mX D k < S (p * 6 + 2) ∧ S (p * 6 + 3) ≤ mY D k ∧ mY D k < S (p * 6 + 4))
/-- the first place from p on, among n more, at which f holds -/
def mfd (f : Nat → Bool) : Nat → Nat → Option Nat
  | 0, _ => none
  | n + 1, p => if f p then some p else mfd f n (p + 1)
def mpc (D : fSD) (S : Nat → Nat) (k : Nat) : Option Nat := mfd (mhit D S k) (S 120) 0
/-- as an int: -1 for none -/
def mo (x : Option Nat) : Int32 := match x with
  | none => -1
  | some p => nI p
def mins (D : fSD) (S : Nat → Nat) (k p line : Nat) : Bool := decide (S (p * 6 + (1 + 2 * dS D k 1)) < line ∧ line < S (p * 6 + (2 + 2 * dS D k 1)))
def mal (D : fSD) (S : Nat → Nat) (k : Nat) : Bool := decide (S (133 + k) = 0) && (match mpc D S k with
  | none => false
  | some p => mins D S k p (dS D k 2))
def macr (D : fSD) (k : Nat) : Bool := decide (dS D k 1 ≠ dB D (dS D k 0) 2)
def mneed (D : fSD) (S : Nat → Nat) (k : Nat) : Nat := (if macr D k then 6 else 4) - S (121 + k) / 3
/-- a state that may be: the pieces, the depths, the counts -/
def fWS (D : fSD) (S : Nat → Nat) : Prop :=
  (S 120 = dT D 0 + S 152 ∧ S 152 ≤ dT D 1) ∧ (∀ p, p < S 120 → S (p * 6) < dT D 0 ∧ S (p * 6 + 1) < S (p * 6 + 2) ∧ S (p * 6 + 2) ≤ 12 ∧ S (p * 6 + 3) < S (p * 6 + 4) ∧ S (p * 6 + 4) ≤ 12 ∧ S (p * 6 + 5) ≤ 1) ∧
  (∀ k, k < dT D 1 → 1 ≤ S (121 + k) ∧ S (121 + k) ≤ 9 ∧ S (133 + k) ≤ 30) ∧ (∀ o, o < dT D 2 → S (145 + o) ≤ dO D o 2) ∧ S 155 ≤ 30
/-! numbers -/
theorem nI_inj {a b : Nat} (ha : a < 2147483648) (hb : b < 2147483648) : nI a = nI b ↔ a = b := nI_eq ha hb
theorem nI_lt' {a b : Nat} (ha : a < 2147483648) (hb : b < 2147483648) : nI a < nI b ↔ a < b := nI_ltI ha hb
theorem nI_le' {a b : Nat} (ha : a < 2147483648) (hb : b < 2147483648) : nI a ≤ nI b ↔ a ≤ b := nI_leI ha hb
theorem fK_i {g : fGP} {d : Nat} {M : fMT} {pc : Nat} {L : List (Option Value)} {st : List Value} {σ : fAH} {Q : fRes → fAH → Prop} {v : Value} (h : fEv g d M (pc + 3) L (v :: st) σ Q) : fK g d M pc L st Q (.inl (some v)) σ := h
theorem fK_v {g : fGP} {d : Nat} {M : fMT} {pc : Nat} {L : List (Option Value)} {st : List Value} {σ : fAH} {Q : fRes → fAH → Prop} (h : fEv g d M (pc + 3) L st σ Q) : fK g d M pc L st Q (.inl none) σ := h
theorem e_long {g : fGP} {d : Nat} {M : fMT} {pc : Nat} {L : List (Option Value)} {st : List Value} {σ : fAH} {Q : fRes → fAH → Prop} {x : Int64} (y : Int64) (e : x = y) (h : fEv g d M pc L (.long y :: st) σ Q) : fEv g d M pc L (.long x :: st) σ Q := by subst e; exact h
theorem w_max : Cond.static Lib.Math.max.name ∈ lw_tbl ∧ Cond.initialized "java/lang/Math" ∈ lw_tbl ∧ Cond.code Lib.Math.max.name Lib.Math.max.code 2 (some .int) ∈ lw_tbl := by decide +kernel
theorem w_min : Cond.static Lib.Math.min.name ∈ lw_tbl ∧ Cond.initialized "java/lang/Math" ∈ lw_tbl ∧ Cond.code Lib.Math.min.name Lib.Math.min.code 2 (some .int) ∈ lw_tbl := by decide +kernel
theorem w_obj : Cond.instanceMethod Lib.objectInit ∈ lw_tbl ∧ Cond.code Lib.objectInit ⟨#[0xb1]⟩ 1 none ∈ lw_tbl := by decide +kernel
theorem w_copy : Cond.native arraycopyName ∈ lw_tbl ∧ Cond.static arraycopyName ∈ lw_tbl ∧ Cond.initialized "java/lang/System" ∈ lw_tbl := by decide +kernel
/-! the class's cells: a ground at q tells D; a yard at k stands as S says -/
def fGs (g : fGP) (σ : fAH) (q : Nat) : Prop := (gsh g q = .inl 2 ∧ gsh g (q + 1) = .inr (0, 18) ∧ gsh g (q + 2) = .inr (0, 60) ∧ gsh g (q + 3) = .inr (0, 30) ∧ gsh g (q + 4) = .inr (0, 72) ∧ gsh g (q + 5) = .inr (0, 300)) ∧ (q + 5 < fnx σ ∧ fnx σ ≤ 1000) ∧ (fR σ q 0 = some (q + 1) ∧ fR σ q 1 = some (q + 2) ∧ fR σ q 2 = some (q + 3) ∧ fR σ q 3 = some (q + 4) ∧ fR σ q 4 = some (q + 5))
def fGr (σ : fAH) (q : Nat) (D : fSD) : Prop :=
  (fI σ q 5 = nI (dT D 0) ∧ fI σ q 6 = nI (dT D 1) ∧ fI σ q 7 = nI (dT D 2) ∧ fI σ q 8 = nI (dT D 6) ∧ fI σ q 9 = nI (dT D 3) ∧ fI σ q 10 = nI (dT D 4) ∧ fI σ q 11 = nI (dT D 5)) ∧
  (∀ b, b < dT D 0 → ∀ c, c < 3 → fI σ (q + 1) (b * 3 + c) = nI (dB D b c)) ∧ (∀ k, k < dT D 1 → ∀ c, c < 5 → fI σ (q + 2) (k * 5 + c) = nI (dS D k c)) ∧ (∀ o, o < dT D 2 → ∀ c, c < 5 → fI σ (q + 3) (o * 5 + c) = nI (dO D o c)) ∧ (∀ i, i < dT D 6 → ∀ c, c < 3 → fI σ (q + 4) (i * 3 + c) = nI (dZ D i c)) ∧
  ∀ t, t < 30 → fI σ (q + 5) (t * 10) = nI (8 - mall D t) ∧ ∀ c, 1 ≤ c → c < 10 → fI σ (q + 5) (t * 10 + c) = nI (mpart D t c)
def fYs (g : fGP) (σ : fAH) (k q : Nat) : Prop := (gsh g k = .inl 7 ∧ gsh g (k + 1) = .inr (0, 108) ∧ gsh g (k + 2) = .inr (0, 12) ∧ gsh g (k + 3) = .inr (0, 6) ∧ gsh g (k + 4) = .inr (0, 30) ∧ gsh g (k + 5) = .inr (0, 48) ∧ gsh g (k + 6) = .inl 3) ∧ (k + 6 < fnx σ ∧ fnx σ ≤ 1000) ∧ (fR σ k 0 = some q ∧ fR σ k 1 = some (k + 1) ∧ fR σ k 3 = some (k + 2) ∧ fR σ k 5 = some (k + 3) ∧ fR σ k 6 = some (k + 4) ∧ fR σ k 7 = some (k + 5) ∧ fR σ k 8 = some (k + 6))
def fYr (σ : fAH) (k : Nat) (D : fSD) (S : Nat → Nat) (m : Nat) (sd : Int32) : Prop :=
  (fI σ k 2 = nI (S 120) ∧ fI σ k 4 = nI m ∧ fI σ k 9 = nI (S 155) ∧ fI σ k 10 = nI (S 151) ∧ fI σ k 11 = nI (S 152) ∧ fI σ k 12 = nI (S 153) ∧ fI σ k 13 = nI (S 154) ∧ fI σ (k + 6) 0 = sd) ∧
  (∀ p, p < S 120 → ∀ c, c < 6 → fI σ (k + 1) (p * 6 + c) = nI (S (p * 6 + c))) ∧ (∀ i, i < dT D 1 → fI σ (k + 2) i = nI (S (121 + i))) ∧ (∀ o, o < dT D 2 → fI σ (k + 3) o = nI (S (145 + o))) ∧ m < 4096 ∧ ∀ i, i < 12 → m.testBit i = decide (0 < S (133 + i))
def bn (b : Bool) : Nat := if b then 1 else 0
theorem bn_le (b : Bool) : bn b ≤ 1 := by cases b <;> decide
theorem nI_z {a : Nat} (ha : a < 2147483648) : nI a = 0 ↔ a = 0 := by
  have := nI_inj (a := a) (b := 0) ha (by decide)
  exact this
theorem nI_zlt {a : Nat} (ha : a < 2147483648) : nI a < 0 ↔ a < 0 := by
  have := nI_lt' (a := a) (b := 0) ha (by decide)
  exact this
theorem nI_zge {a : Nat} (ha : a < 2147483648) : 0 ≤ nI a ↔ 0 ≤ a := by
  have := nI_le' (a := 0) (b := a) (by decide) ha
  exact this
theorem nI_zgt {a : Nat} (ha : a < 2147483648) : 0 < nI a ↔ 0 < a := by
  have := nI_lt' (a := 0) (b := a) (by decide) ha
  exact this
theorem nI_zle {a : Nat} (ha : a < 2147483648) : nI a ≤ 0 ↔ a ≤ 0 := by
  have := nI_le' (a := a) (b := 0) ha (by decide)
  exact this
theorem nI_and31 {k : Nat} (hk : k < 32) : nI k &&& 31 = nI k := by
  have := pk_andN (n := k) (by omega) (m := 31) 5 (by decide)
  rw [this, Nat.mod_eq_of_lt (by omega)]
theorem smod32 : ∀ k, k < 32 → ((nI k).toBitVec.smod 32).toNat = k := by decide
theorem nI_shr {m k : Nat} (hm : m < 2147483648) (hk : k < 32) : nI m >>> (nI k &&& 31) = nI (m / 2 ^ k) := by
  rw [nI_and31 hk]
  exact pk_shrN hm (nI k) k (smod32 k hk)
theorem nI_shl {m k : Nat} (hk : k < 32) (h : m * 2 ^ k < 4294967296) : nI m <<< (nI k &&& 31) = nI (m * 2 ^ k) := by
  rw [nI_and31 hk]
  exact pk_shlN (nI k) k (smod32 k hk) h
theorem nI_and1 {a : Nat} (ha : a < 4294967296) : nI a &&& nI 1 = nI (a % 2) := pk_andN ha (m := nI 1) 1 (by decide)
theorem mfd_lt {f : Nat → Bool} : ∀ {n p0 p : Nat}, mfd f n p0 = some p → p0 ≤ p ∧ p < p0 + n ∧ f p = true
  | 0, p0, p, h => by cases h
  | n + 1, p0, p, h => by
    unfold mfd at h
    by_cases hf : f p0 = true
    · rw [if_pos hf] at h
      cases h
      exact ⟨Nat.le_refl _, by omega, hf⟩
    · rw [if_neg hf] at h
      obtain ⟨h1, h2, h3⟩ := mfd_lt h
      exact ⟨by omega, by omega, h3⟩
theorem mpc_lt {D : fSD} {S : Nat → Nat} {k p : Nat} (h : mpc D S k = some p) : p < S 120 ∧ mhit D S k p = true := by
  obtain ⟨h1, h2, h3⟩ := mfd_lt h
  exact ⟨by omega, h3⟩
theorem fWS.n {D : fSD} {S : Nat → Nat} (h : fWS D S) (hD : fWD D) : S 120 ≤ 18 := by
  have := h.1
  have := hD.1
  omega
theorem bit_sp {m k : Nat} {P : Prop} {hd : Decidable P} (h : m.testBit k = decide P) : m / 2 ^ k % 2 = 1 ↔ P := by
  rw [Nat.testBit_eq_decide_div_mod_eq] at h
  constructor
  · intro q
    rw [decide_eq_true q] at h
    exact of_decide_eq_true h.symm
  · intro q
    rw [decide_eq_true q] at h
    exact of_decide_eq_true h
