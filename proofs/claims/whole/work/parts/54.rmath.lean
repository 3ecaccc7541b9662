/-! ===== the reader: bytes, scans, numbers, words ===== -/
def sb (b : Nat) : Int32 := (nI b).toInt8.toInt32
theorem sb_all : ∀ b, b < 256 → sb b = if b < 128 then nI b else nI b - 256 := by decide +kernel
theorem sb_lo {b : Nat} (h : b < 128) : sb b = nI b := by rw [sb_all b (by omega), if_pos h]
theorem sb_hi : ∀ b, b < 256 → 128 ≤ b → sb b < 0 := by decide +kernel
theorem sb_eq {b c : Nat} (hb : b < 256) (hc : c < 128) : sb b = nI c ↔ b = c := by
  by_cases h : b < 128
  · rw [sb_lo h, nI_inj (by omega) (by omega)]
  · have := sb_hi b hb (by omega)
    constructor
    · intro e
      rw [e, nI_zlt (by omega)] at this
      omega
    · intro e
      omega
theorem sb_lt {b c : Nat} (hb : b < 256) (hc : c < 128) : sb b < nI c ↔ (b < c ∨ 128 ≤ b) := by
  by_cases h : b < 128
  · rw [sb_lo h, nI_lt' (by omega) (by omega)]
    omega
  · have := sb_hi b hb (by omega)
    constructor
    · intro e
      omega
    · intro e
      exact Int32.lt_of_lt_of_le this ((nI_zge (by omega)).mpr (by omega))
theorem sb_gt {b c : Nat} (hb : b < 256) (hc : c < 128) : nI c < sb b ↔ (c < b ∧ b < 128) := by
  by_cases h : b < 128
  · rw [sb_lo h, nI_lt' (by omega) (by omega)]
    omega
  · have := sb_hi b hb (by omega)
    constructor
    · intro e
      have := Int32.lt_trans e this
      rw [nI_zlt (by omega)] at this
      omega
    · intro e
      omega
/-- the byte at k of n, -1 behind the end -/
def mba (B : Nat → Nat) (n k : Nat) : Int32 := if k < n then nI (B k) else -1
theorem m1_lt {c : Nat} (hc : c < 2147483648) : (-1 : Int32) < nI c := Int32.lt_of_lt_of_le (show (-1 : Int32) < 0 by decide) ((nI_zge hc).mpr (by omega))
theorem mba_eq {B : Nat → Nat} {n k c : Nat} (hb : B k < 256) (hc : c < 128) : mba B n k = nI c ↔ (k < n ∧ B k = c) := by
  unfold mba
  split
  · next h => rw [nI_inj (by omega) (by omega)]; omega
  · next h =>
    constructor
    · intro e
      exact absurd e.symm (nI_m1 (by omega))
    · intro e
      omega
theorem mba_lt {B : Nat → Nat} {n k c : Nat} (hb : B k < 256) (hc : c < 128) : mba B n k < nI c ↔ (n ≤ k ∨ B k < c) := by
  unfold mba
  split
  · next h => rw [nI_lt' (by omega) (by omega)]; omega
  · next h =>
    constructor
    · intro e
      omega
    · intro e
      exact m1_lt (by omega)
theorem mba_gt {B : Nat → Nat} {n k c : Nat} (hb : B k < 256) (hc : c < 128) : nI c < mba B n k ↔ (k < n ∧ c < B k) := by
  unfold mba
  split
  · next h => rw [nI_lt' (by omega) (by omega)]; omega
  · next h =>
    constructor
    · intro e
      exact (Int32.lt_irrefl (Int32.lt_trans e (m1_lt (c := c) (by omega)))).elim
    · intro e
      omega
theorem mba_in {B : Nat → Nat} {n k : Nat} (h : k < n) : mba B n k = nI (B k) := if_pos h
/-- on and on while f holds -/
def msc (f : Nat → Bool) : Nat → Nat → Nat
  | 0, a => a
  | n + 1, a => if f a then msc f n (a + 1) else a
theorem msc_t {f : Nat → Bool} {n a : Nat} (h : f a = true) : msc f (n + 1) a = msc f n (a + 1) := by
  show (if _ then _ else _) = _
  rw [if_pos h]
theorem msc_f {f : Nat → Bool} : ∀ {n a : Nat}, f a = false → msc f n a = a
  | 0, _, _ => rfl
  | n + 1, a, h => by
    show (if _ then _ else _) = _
    rw [if_neg (by rw [h]; exact Bool.false_ne_true)]
theorem msc_le {f : Nat → Bool} : ∀ (n a : Nat), a ≤ msc f n a ∧ msc f n a ≤ a + n
  | 0, a => ⟨Nat.le_refl _, Nat.le_refl _⟩
  | n + 1, a => by
    have := msc_le (f := f) n (a + 1)
    unfold msc
    split <;> omega
theorem msc_st {f : Nat → Bool} : ∀ (n a : Nat), msc f n a = a + n ∨ f (msc f n a) = false
  | 0, a => Or.inl rfl
  | n + 1, a => by
    unfold msc
    split
    · rcases msc_st (f := f) n (a + 1) with h | h
      · exact Or.inl (by omega)
      · exact Or.inr h
    · next h => exact Or.inr (by cases q : f a; rfl; exact absurd q h)
theorem msc_in {f : Nat → Bool} : ∀ (n a j : Nat), a ≤ j → j < msc f n a → f j = true
  | 0, a, j, h1, h2 => by
    have h2 : j < a := h2
    omega
  | n + 1, a, j, h1, h2 => by
    unfold msc at h2
    split at h2
    · next h =>
      by_cases e : j = a
      · rw [e]; exact h
      · exact msc_in n (a + 1) j (by omega) h2
    · omega
def qbl (B : Nat → Nat) (i : Nat) : Bool := decide (B i = 32)
def qlt (B : Nat → Nat) (i : Nat) : Bool := decide (97 ≤ B i ∧ B i ≤ 122)
def qdg (B : Nat → Nat) (i : Nat) : Bool := decide (48 ≤ B i ∧ B i ≤ 57)
def mbl (B : Nat → Nat) (n a : Nat) : Nat := msc (qbl B) (n - a) a
def mlt (B : Nat → Nat) (n a : Nat) : Nat := msc (qlt B) (n - a) a
def mdg (B : Nat → Nat) (n a : Nat) : Nat := msc (qdg B) (n - a) a
theorem mbl_b {B : Nat → Nat} {n a : Nat} (h : a ≤ n) : a ≤ mbl B n a ∧ mbl B n a ≤ n := by
  have := msc_le (f := qbl B) (n - a) a
  unfold mbl
  omega
theorem mlt_b {B : Nat → Nat} {n a : Nat} (h : a ≤ n) : a ≤ mlt B n a ∧ mlt B n a ≤ n := by
  have := msc_le (f := qlt B) (n - a) a
  unfold mlt
  omega
theorem mdg_b {B : Nat → Nat} {n a : Nat} (h : a ≤ n) : a ≤ mdg B n a ∧ mdg B n a ≤ n := by
  have := msc_le (f := qdg B) (n - a) a
  unfold mdg
  omega
theorem mbl_id {B : Nat → Nat} {n a : Nat} (h : a ≤ n) : mbl B n (mbl B n a) = mbl B n a := by
  have := msc_le (f := qbl B) (n - a) a
  rcases msc_st (f := qbl B) (n - a) a with e | e
  · have e2 : mbl B n a = n := by unfold mbl; omega
    rw [e2]
    unfold mbl
    rw [Nat.sub_self]
    rfl
  · have e2 : qbl B (mbl B n a) = false := e
    show msc _ _ _ = _
    rw [msc_f e2]
/-- the digits' number -/
def mdn (B : Nat → Nat) : Nat → Nat → Nat → Nat
  | 0, _, v => v
  | k + 1, a, v => if qdg B a then mdn B k (a + 1) (10 * v + (B a - 48)) else v
theorem mdn_t {B : Nat → Nat} {k a v : Nat} (h : qdg B a = true) : mdn B (k + 1) a v = mdn B k (a + 1) (10 * v + (B a - 48)) := by
  show (if _ then _ else _) = _
  rw [if_pos h]
theorem mdn_f {B : Nat → Nat} : ∀ {k a v : Nat}, qdg B a = false → mdn B k a v = v
  | 0, _, _, _ => rfl
  | k + 1, a, v, h => by
    show (if _ then _ else _) = _
    rw [if_neg (by rw [h]; exact Bool.false_ne_true)]
/-- a fault and its place, or where the reading stands -/
abbrev fP : Type := (Nat × Nat) ⊕ Nat
def mV (B : Nat → Nat) (n a : Nat) : Nat := mdn B (n - mbl B n a) (mbl B n a) 0
def mnum (B : Nat → Nat) (n lo hi : Nat) (s : fP) : fP := match s with
  | .inl x => .inl x
  | .inr a => if mdg B n (mbl B n a) = mbl B n a then .inl (1, mbl B n a) else if lo ≤ mV B n a ∧ mV B n a < hi then .inr (mdg B n (mbl B n a)) else .inl (2, mbl B n a)
/-- its number, d where there is none -/
def mnv (B : Nat → Nat) (n lo hi d : Nat) (s : fP) : Nat := match s with
  | .inl _ => d
  | .inr a => if mdg B n (mbl B n a) = mbl B n a then d else if lo ≤ mV B n a ∧ mV B n a < hi then mV B n a else d
theorem mnum_ok {B : Nat → Nat} {n lo hi : Nat} {s : fP} {e : Nat} (h : mnum B n lo hi s = .inr e) : ∃ a, s = .inr a ∧ e = mdg B n (mbl B n a) ∧ (∀ d, mnv B n lo hi d s = mV B n a) ∧ lo ≤ mV B n a ∧ mV B n a < hi := by
  cases s with
  | inl x => cases h
  | inr a =>
    unfold mnum at h
    simp only at h
    split at h
    · cases h
    · next h1 =>
      split at h
      · next h2 =>
        refine ⟨a, rfl, (Sum.inr.inj h).symm, fun d => ?_, h2.1, h2.2⟩
        show (if _ then _ else if _ then _ else _) = _
        rw [if_neg h1, if_pos h2]
      · cases h
theorem mnv_b {B : Nat → Nat} {n lo hi d : Nat} {s : fP} : mnv B n lo hi d s = d ∨ (lo ≤ mnv B n lo hi d s ∧ mnv B n lo hi d s < hi) := by
  cases s with
  | inl x => exact Or.inl rfl
  | inr a =>
    show (if _ then _ else if _ then _ else _) = d ∨ _
    unfold mnv
    simp only
    split
    · exact Or.inl rfl
    · split
      · next h => exact Or.inr h
      · exact Or.inl rfl
theorem mnv_d {B : Nat → Nat} {n lo hi d : Nat} {s : fP} (h : ∀ e, mnum B n lo hi s ≠ .inr e) : mnv B n lo hi d s = d := by
  cases s with
  | inl x => rfl
  | inr a =>
    show (if _ then _ else if _ then _ else _) = d
    split
    · rfl
    · next h1 =>
      split
      · next h2 =>
        refine absurd ?_ (h (mdg B n (mbl B n a)))
        show (if _ then _ else if _ then _ else _) = _
        rw [if_neg h1, if_pos h2]
      · rfl
theorem mnum_l {B : Nat → Nat} {n lo hi : Nat} (x : Nat × Nat) : mnum B n lo hi (.inl x) = .inl x := rfl
/-- a reader at cell o, its place in field f, its text n long -/
def fPs (σ : fAH) (o f n : Nat) (s : fP) : Prop := match s with
  | .inr a => a ≤ n ∧ fI σ o f = nI a ∧ fI σ o 5 = nI 0 ∧ fI σ o 6 = -1
  | .inl x => fI σ o 5 = nI x.1 ∧ fI σ o 6 = nI x.2 ∧ 1 ≤ x.1 ∧ x.1 ≤ 3 ∧ x.2 ≤ n ∧ ∃ a, a ≤ n ∧ fI σ o f = nI a
/-- the semicolon -/
def mse (B : Nat → Nat) (n : Nat) (s : fP) : fP := match s with
  | .inl x => .inl x
  | .inr a => if mbl B n a < n ∧ B (mbl B n a) = 59 then .inr (mbl B n a + 1) else .inl (1, mbl B n a)
/-! words -/
def fcn : List (List Nat) := [[98, 108, 111, 99, 107], [115, 108, 111, 116], [111, 114, 100, 101, 114], [111, 100, 100, 115], [119, 97, 116, 101, 114], [115, 108, 101, 100, 103, 101], [116, 104, 97, 119]]
def fch (i k : Nat) : Nat := (fcn.getD i []).getD k 0
def fln (i : Nat) : Nat := fsln.getD i 0
theorem fch_b : ∀ i, i < 7 → (4 ≤ fln i ∧ fln i ≤ 6) ∧ ∀ k, k < fln i → 97 ≤ fch i k ∧ fch i k ≤ 122 := by decide
theorem fch_v : ∀ i, i < 7 → ∀ k, k < fln i → ((((fsby.getD i []).getD k 0) &&& 255).toUInt32 % 65536).toInt32 = nI (fch i k) := by decide
theorem fch_u : ∀ i, i < 7 → ∀ j, j < 7 → fln i = fln j → fch i 0 = fch j 0 → i = j := by decide
def mwq (B : Nat → Nat) (a w : Nat) : Nat → Nat → Bool
  | 0, _ => true
  | n + 1, i => decide (B (a + i) = fch w i) && mwq B a w n (i + 1)
theorem mwq_all {B : Nat → Nat} {a w : Nat} : ∀ (n i : Nat), mwq B a w n i = true ↔ ∀ j, i ≤ j → j < i + n → B (a + j) = fch w j
  | 0, i => ⟨fun _ j h1 h2 => absurd h2 (by omega), fun _ => rfl⟩
  | n + 1, i => by
    show (decide _ && _) = true ↔ _
    rw [Bool.and_eq_true, decide_eq_true_iff, mwq_all n (i + 1)]
    constructor
    · rintro ⟨h1, h2⟩ j h3 h4
      by_cases e : j = i
      · rw [e]; exact h1
      · exact h2 j (by omega) (by omega)
    · intro h
      exact ⟨h i (by omega) (by omega), fun j h3 h4 => h j (by omega) (by omega)⟩
/-- the word from a to e is the word w -/
def mwe (B : Nat → Nat) (a e w : Nat) : Bool := decide (e = a + fln w) && mwq B a w (fln w) 0
theorem mwe_t {B : Nat → Nat} {a e w : Nat} : mwe B a e w = true ↔ (e = a + fln w ∧ ∀ j, j < fln w → B (a + j) = fch w j) := by
  unfold mwe
  rw [Bool.and_eq_true, decide_eq_true_iff, mwq_all]
  constructor
  · rintro ⟨h1, h2⟩
    exact ⟨h1, fun j hj => h2 j (by omega) (by omega)⟩
  · rintro ⟨h1, h2⟩
    exact ⟨h1, fun j _ hj => h2 j (by omega)⟩
theorem mwe_u {B : Nat → Nat} {a e i j : Nat} (hi : i < 7) (hj : j < 7) (h1 : mwe B a e i = true) (h2 : mwe B a e j = true) : i = j := by
  obtain ⟨a1, a2⟩ := mwe_t.mp h1
  obtain ⟨b1, b2⟩ := mwe_t.mp h2
  have c1 := (fch_b i hi).1
  have c2 := (fch_b j hj).1
  exact fch_u i hi j hj (by omega) ((a2 0 (by omega)).symm.trans (b2 0 (by omega)))
/-- which word, -1: none; in the class's order and in the reference's -/
def mwc (B : Nat → Nat) (a e : Nat) : Option Nat := if mwe B a e 0 then some 0 else if mwe B a e 1 then some 1 else if mwe B a e 2 then some 2 else if mwe B a e 3 then some 3 else if mwe B a e 4 then some 4 else if mwe B a e 5 then some 5 else if mwe B a e 6 then some 6 else none
def mwr (B : Nat → Nat) (a e : Nat) : Option Nat := if mwe B a e 0 then some 0 else if mwe B a e 1 then some 1 else if mwe B a e 2 then some 2 else if mwe B a e 4 then some 3 else if mwe B a e 5 then some 4 else if mwe B a e 6 then some 5 else if mwe B a e 3 then some 6 else none
/-- the kind of the class's word -/
def mkc : Nat → Nat := fun i => [0, 1, 2, 6, 3, 4, 5].getD i 0
theorem mwc_r (B : Nat → Nat) (a e : Nat) : mwr B a e = (mwc B a e).map mkc := by
  unfold mwr mwc
  by_cases h0 : mwe B a e 0 = true
  · rw [if_pos h0, if_pos h0]; rfl
  by_cases h1 : mwe B a e 1 = true
  · rw [if_neg h0, if_neg h0, if_pos h1, if_pos h1]; rfl
  by_cases h2 : mwe B a e 2 = true
  · rw [if_neg h0, if_neg h0, if_neg h1, if_neg h1, if_pos h2, if_pos h2]; rfl
  rw [if_neg h0, if_neg h0, if_neg h1, if_neg h1, if_neg h2, if_neg h2]
  by_cases h3 : mwe B a e 3 = true
  · have f : ∀ j, j < 7 → j ≠ 3 → ¬ mwe B a e j = true := fun j hj ne q => ne (mwe_u hj (by decide) q h3)
    rw [if_neg (f 4 (by decide) (by decide)), if_neg (f 5 (by decide) (by decide)), if_neg (f 6 (by decide) (by decide)), if_pos h3, if_pos h3]; rfl
  · rw [if_neg h3, if_neg h3]
    by_cases h4 : mwe B a e 4 = true
    · rw [if_pos h4, if_pos h4]; rfl
    · rw [if_neg h4, if_neg h4]
      by_cases h5 : mwe B a e 5 = true
      · rw [if_pos h5, if_pos h5]; rfl
      · rw [if_neg h5, if_neg h5]
        by_cases h6 : mwe B a e 6 = true
        · rw [if_pos h6, if_pos h6]; rfl
        · rw [if_neg h6, if_neg h6]; rfl
/-- in base 27 -/
def mho (x : Nat → Nat) : Nat → Nat
  | 0 => 0
  | k + 1 => 27 * mho x k + x k
theorem mho_i {x y : Nat → Nat} : ∀ (k k' : Nat), (∀ j, j < k → 1 ≤ x j ∧ x j ≤ 26) → (∀ j, j < k' → 1 ≤ y j ∧ y j ≤ 26) → mho x k = mho y k' → k = k' ∧ ∀ j, j < k → x j = y j
  | 0, 0, _, _, _ => ⟨rfl, fun j hj => absurd hj (by omega)⟩
  | 0, k' + 1, _, hy, h => by
    have h : 0 = 27 * mho y k' + y k' := h
    have := hy k' (by omega)
    omega
  | k + 1, 0, hx, _, h => by
    have h : 27 * mho x k + x k = 0 := h
    have := hx k (by omega)
    omega
  | k + 1, k' + 1, hx, hy, h => by
    have h : 27 * mho x k + x k = 27 * mho y k' + y k' := h
    have a := hx k (by omega)
    have b := hy k' (by omega)
    obtain ⟨h1, h2⟩ := mho_i k k' (fun j hj => hx j (by omega)) (fun j hj => hy j (by omega)) (by omega)
    subst h1
    refine ⟨rfl, fun j hj => ?_⟩
    by_cases e : j = k
    · subst e; omega
    · exact h2 j (by omega)
theorem mho_b {x : Nat → Nat} : ∀ (k : Nat), (∀ j, j < k → x j ≤ 26) → mho x k < 27 ^ k
  | 0, _ => Nat.zero_lt_one
  | k + 1, h => by
    have := mho_b k (fun j hj => h j (by omega))
    have := h k (by omega)
    show 27 * mho x k + x k < 27 ^ k * 27
    omega
/-- what the reference makes of the letters from a on -/
def mwv (B : Nat → Nat) (n a : Nat) : Int32 := if 6 < mlt B n a - a then -1 else nI (mho (fun j => B (a + j) - 96) (mlt B n a - a))
def fwn (w : Nat) : Nat := mho (fun j => fch w j - 96) (fln w)
theorem fwn_b : ∀ w, w < 7 → fwn w < 400000000 := by decide
theorem mwv_e {B : Nat → Nat} {n a w : Nat} (hw : w < 7) (ha : a ≤ n) : mwv B n a = nI (fwn w) ↔ mwe B a (mlt B n a) w = true := by
  have b := mlt_b (B := B) ha
  have c := fch_b w hw
  have fl : ∀ j, a ≤ j → j < mlt B n a → 97 ≤ B j ∧ B j ≤ 122 := fun j h1 h2 => of_decide_eq_true (msc_in (f := qlt B) (n - a) a j h1 h2)
  unfold mwv
  rw [mwe_t]
  split
  · next h =>
    constructor
    · intro e
      exact absurd e.symm (nI_m1 (by have := fwn_b w hw; omega))
    · intro e
      omega
  · next h =>
    have hb := mho_b (x := fun j => B (a + j) - 96) (mlt B n a - a) (fun j hj => by have := fl (a + j) (by omega) (by omega); show B (a + j) - 96 ≤ 26; omega)
    have hp : 27 ^ (mlt B n a - a) ≤ 27 ^ 6 := Nat.pow_le_pow_right (by decide) (by omega)
    have e6 : (27 : Nat) ^ 6 = 387420489 := by decide
    rw [nI_inj (by omega) (by have := fwn_b w hw; omega)]
    constructor
    · intro e
      obtain ⟨e1, e2⟩ := mho_i _ _ (fun j hj => by have := fl (a + j) (by omega) (by omega); show 1 ≤ B (a + j) - 96 ∧ B (a + j) - 96 ≤ 26; omega) (fun j hj => by have := c.2 j hj; show 1 ≤ fch w j - 96 ∧ fch w j - 96 ≤ 26; omega) e
      refine ⟨by omega, fun j hj => ?_⟩
      have h1 := e2 j (by omega)
      have h1 : B (a + j) - 96 = fch w j - 96 := h1
      have := fl (a + j) (by omega) (by omega)
      have := c.2 j hj
      omega
    · rintro ⟨e1, e2⟩
      have : mlt B n a - a = fln w := by omega
      rw [this]
      have key : ∀ k, k ≤ fln w → mho (fun j => B (a + j) - 96) k = mho (fun j => fch w j - 96) k := by
        intro k
        induction k with
        | zero => intro _; rfl
        | succ k ih =>
          intro hk
          show 27 * mho _ k + (B (a + k) - 96) = 27 * mho _ k + (fch w k - 96)
          rw [ih (by omega), e2 k (by omega)]
      exact key _ (Nat.le_refl _)
/-! what is told -/
def dput (f : Nat → Nat → Nat) (i : Nat) (r : Nat → Nat) : Nat → Nat → Nat := fun a b => if a = i then r b else f a b
def mr3 (a b c : Nat) : Nat → Nat := fun i => if i = 0 then a else if i = 1 then b else c
def mr5 (a b c d e : Nat) : Nat → Nat := fun i => if i = 0 then a else if i = 1 then b else if i = 2 then c else if i = 3 then d else e
def dAB (D : fSD) (r : Nat → Nat) : fSD := (mup (dT D) 0 (dT D 0 + 1), dput (dB D) (dT D 0) r, dS D, dO D, dZ D)
def dAS (D : fSD) (r : Nat → Nat) : fSD := (mup (dT D) 1 (dT D 1 + 1), dB D, dput (dS D) (dT D 1) r, dO D, dZ D)
def dAO (D : fSD) (r : Nat → Nat) : fSD := (mup (dT D) 2 (dT D 2 + 1), dB D, dS D, dput (dO D) (dT D 2) r, dZ D)
def dAZ (D : fSD) (r : Nat → Nat) : fSD := (mup (dT D) 6 (dT D 6 + 1), dB D, dS D, dO D, dput (dZ D) (dT D 6) r)
def dSt (D : fSD) (k v : Nat) : fSD := (mup (dT D) k v, dB D, dS D, dO D, dZ D)
def D0 : fSD := (fun i => if i = 3 then 12 else if i = 4 then 9 else if i = 5 then 30 else 0, fun _ _ => 0, fun _ _ => 0, fun _ _ => 0, fun _ _ => 0)
def mfl (D : fSD) (k : Nat) : Bool := decide ((k = 0 ∧ 6 ≤ dT D 0) ∨ (k = 1 ∧ 12 ≤ dT D 1) ∨ (k = 2 ∧ 6 ≤ dT D 2) ∨ (k = 6 ∧ 24 ≤ dT D 6))
/-- the numbers behind a word of kind k -/
def mns (B : Nat → Nat) (n k : Nat) (D : fSD) (s : fP) : fP × fSD :=
  if k = 0 then (mnum B n 0 2 (mnum B n 2 13 (mnum B n 2 13 s)), dAB D (mr3 (mnv B n 2 13 0 s) (mnv B n 2 13 0 (mnum B n 2 13 s)) (mnv B n 0 2 0 (mnum B n 2 13 (mnum B n 2 13 s)))))
  else if k = 1 then
    let s1 := mnum B n 0 (dT D 0) s
    let v0 := mnv B n 0 (dT D 0) 0 s
    let s2 := mnum B n 0 2 s1
    let v1 := mnv B n 0 2 0 s1
    let s3 := mnum B n 1 (dB D v0 v1) s2
    let s4 := mnum B n 0 (dB D v0 (1 - v1)) s3
    (mnum B n 1 10 s4, dAS D (mr5 v0 v1 (mnv B n 1 (dB D v0 v1) 0 s2) (mnv B n 0 (dB D v0 (1 - v1)) 0 s3) (mnv B n 1 10 0 s4)))
  else if k = 2 then
    let s1 := mnum B n 1 13 s
    let s2 := mnum B n 1 13 s1
    let s3 := mnum B n 1 10 s2
    let s4 := mnum B n 0 30 s3
    (mnum B n 1 100 s4, dAO D (mr5 (mnv B n 1 13 0 s) (mnv B n 1 13 0 s1) (mnv B n 1 10 0 s2) (mnv B n 0 30 0 s3) (mnv B n 1 100 0 s4)))
  else if k = 3 then (mnum B n 0 13 s, dSt D 3 (mnv B n 0 13 0 s))
  else if k = 4 then (mnum B n 0 10 s, dSt D 4 (mnv B n 0 10 0 s))
  else if k = 5 then (mnum B n 0 31 s, dSt D 5 (mnv B n 0 31 0 s))
  else
    let s1 := mnum B n 0 30 s
    let s2 := mnum B n 1 10 s1
    let v0 := mnv B n 0 30 0 s
    (mnum B n 1 (9 - mall D v0) s2, dAZ D (mr3 v0 (mnv B n 1 10 0 s1) (mnv B n 1 (9 - mall D v0) 0 s2)))
/-- a clause at a, c clauses before it -/
def mcla (B : Nat → Nat) (n a c : Nat) (D : fSD) : fP × fSD := match mwr B a (mlt B n a) with
  | none => (.inl (1, a), D)
  | some k => if 60 ≤ c ∨ mfl D k = true then (.inl (3, a), D) else (mse B n (mns B n k D (.inr (mlt B n a))).1, (mns B n k D (.inr (mlt B n a))).2)
def mskp (B : Nat → Nat) (n : Nat) (s : fP) : fP := match s with
  | .inl x => .inl x
  | .inr a => .inr (mbl B n a)
def mrd (B : Nat → Nat) (n : Nat) : Nat → fP → Nat → fSD → fP × fSD
  | 0, s, _, D => (s, D)
  | k + 1, s, c, D => match s with
    | .inl x => (.inl x, D)
    | .inr a => if a < n then mrd B n k (mskp B n (mcla B n a c D).1) (c + 1) (mcla B n a c D).2 else (.inr a, D)
theorem fsI_id {σ : fAH} {k j : Nat} {v : Int32} (h : fI σ k j = v) : fsI σ k j v = σ := by
  have e : fup σ.2.2.1 k j v = σ.2.2.1 := by
    funext a b
    unfold fup
    split
    · next q => rw [q.1, q.2]; exact h.symm
    · rfl
  unfold fsI
  rw [e]
theorem fsI_2 (σ : fAH) (k j : Nat) (v w : Int32) : fsI (fsI σ k j v) k j w = fsI σ k j w := by
  have e : fup (fup σ.2.2.1 k j v) k j w = fup σ.2.2.1 k j w := by
    funext a b
    unfold fup
    split
    · rfl
    · next q => rfl
  show (σ.1, σ.2.1, fup (fup σ.2.2.1 k j v) k j w, σ.2.2.2) = _
  rw [e]
  rfl
