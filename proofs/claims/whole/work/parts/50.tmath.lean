/-! towers -/
def mlo (S : Nat → Nat) (p : Nat) : Nat := max (mwd S p) (mhg S p)
def msh (S : Nat → Nat) (p : Nat) : Nat := min (mwd S p) (mhg S p)
def mly (S : Nat → Nat) (p : Nat) : Prop := p < S 120 ∧ S (p * 6 + 5) = 1
/-- p may stand on q -/
def mon2 (S : Nat → Nat) (p q : Nat) : Bool := decide (p ≠ q ∧ S (q * 6 + 5) = 1 ∧ mlo S p ≤ mlo S q ∧ msh S p ≤ msh S q ∧ (mlo S p < mlo S q ∨ msh S p < msh S q ∨ p < q))
theorem mon2_t {S : Nat → Nat} {p q : Nat} (h : mon2 S p q = true) : p ≠ q ∧ S (q * 6 + 5) = 1 ∧ mlo S p ≤ mlo S q ∧ msh S p ≤ msh S q ∧ (mlo S p < mlo S q ∨ msh S p < msh S q ∨ p < q) := of_decide_eq_true h
theorem mon2_tr {S : Nat → Nat} {p q r : Nat} (h1 : mon2 S p q = true) (h2 : mon2 S q r = true) : mon2 S p r = true := by
  have a := mon2_t h1
  have b := mon2_t h2
  refine decide_eq_true ⟨fun e => ?_, b.2.1, by omega, by omega, by omega⟩
  subst e
  omega
theorem mon2_ir {S : Nat → Nat} {p : Nat} : mon2 S p p = false := decide_eq_false (fun h => h.1 rfl)
/-- a chain: each may stand on the next -/
def mCh (S : Nat → Nat) : List Nat → Prop
  | [] => False
  | p :: l => mly S p ∧ (match l with
    | [] => True
    | q :: _ => mon2 S p q = true) ∧ (l = [] ∨ mCh S l)
theorem mCh_1 {S : Nat → Nat} {p : Nat} (h : mly S p) : mCh S [p] := ⟨h, trivial, Or.inl rfl⟩
theorem mCh_c {S : Nat → Nat} {p q : Nat} {l : List Nat} (h : mly S p) (h1 : mon2 S p q = true) (h2 : mCh S (q :: l)) : mCh S (p :: q :: l) := ⟨h, h1, Or.inr h2⟩
def mTop (S : Nat → Nat) (R : Nat) : Prop := (∀ l, mCh S l → l.length ≤ R) ∧ (R = 0 ∨ ∃ l, mCh S l ∧ l.length = R)
theorem mTop_e {S : Nat → Nat} {R C : Nat} (h1 : mTop S R) (h2 : mTop S C) : R = C := by
  have a : R ≤ C := by
    rcases h1.2 with e | ⟨l, hl, e⟩
    · omega
    · rw [← e]; exact h2.1 l hl
  have b : C ≤ R := by
    rcases h2.2 with e | ⟨l, hl, e⟩
    · omega
    · rw [← e]; exact h1.1 l hl
  omega
/-! the reference: over and over, until nothing grows -/
def mbs (S h : Nat → Nat) (p : Nat) : Nat → Nat → Nat → Nat
  | 0, _, b => b
  | n + 1, q, b => mbs S h p n (q + 1) (if mon2 S p q = true ∧ b < h q + 1 then h q + 1 else b)
theorem mbs_ge {S h : Nat → Nat} {p : Nat} : ∀ (n q b : Nat), b ≤ mbs S h p n q b
  | 0, _, _ => Nat.le_refl _
  | n + 1, q, b => by
    refine Nat.le_trans ?_ (mbs_ge n (q + 1) _)
    split <;> omega
theorem mbs_all {S h : Nat → Nat} {p : Nat} : ∀ (n q b r : Nat), q ≤ r → r < q + n → mon2 S p r = true → h r + 1 ≤ mbs S h p n q b
  | 0, q, b, r, h1, h2, _ => by omega
  | n + 1, q, b, r, h1, h2, hr => by
    unfold mbs
    by_cases e : r = q
    · subst e
      refine Nat.le_trans ?_ (mbs_ge n (r + 1) _)
      split
      · exact Nat.le_refl _
      · next z => exact Decidable.byContradiction (fun y => z ⟨hr, by omega⟩)
    · exact mbs_all n (q + 1) _ r (by omega) (by omega) hr
theorem mbs_w {S h : Nat → Nat} {p : Nat} : ∀ (n q b : Nat), mbs S h p n q b = b ∨ ∃ r, q ≤ r ∧ r < q + n ∧ mon2 S p r = true ∧ mbs S h p n q b = h r + 1
  | 0, _, _ => Or.inl rfl
  | n + 1, q, b => by
    unfold mbs
    rcases mbs_w (S := S) (h := h) (p := p) n (q + 1) (if mon2 S p q = true ∧ b < h q + 1 then h q + 1 else b) with e | ⟨r, h1, h2, h3, h4⟩
    · rw [e]
      split
      · next z => exact Or.inr ⟨q, Nat.le_refl _, by omega, z.1, rfl⟩
      · exact Or.inl rfl
    · exact Or.inr ⟨r, by omega, by omega, h3, h4⟩
def mbb (S h : Nat → Nat) (p : Nat) : Nat := mbs S h p (S 120) 0 1
/-- one pass: n pieces from p on -/
def mps (S : Nat → Nat) : Nat → Nat → (Nat → Nat) → Bool → Nat → (Nat → Nat) × Bool × Nat
  | 0, _, h, m, t => (h, m, t)
  | n + 1, p, h, m, t => if S (p * 6 + 5) = 0 then mps S n (p + 1) h m t else mps S n (p + 1) (mup h p (if h p < mbb S h p then mbb S h p else h p)) (m || decide (h p < mbb S h p)) (if t < (if h p < mbb S h p then mbb S h p else h p) then (if h p < mbb S h p then mbb S h p else h p) else t)
def mrl (S : Nat → Nat) : Nat → (Nat → Nat) → Nat → Nat
  | 0, _, t => t
  | k + 1, h, t => if (mps S (S 120) 0 h false t).2.1 then mrl S k (mps S (S 120) 0 h false t).1 (mps S (S 120) 0 h false t).2.2 else (mps S (S 120) 0 h false t).2.2
def mub (S : Nat → Nat) (p : Nat) : Nat := 1 + mct (mon2 S p) (S 120) 0
theorem mct_sub {f g : Nat → Bool} : ∀ (n i : Nat), (∀ j, f j = true → g j = true) → mct f n i ≤ mct g n i
  | 0, _, _ => Nat.le_refl _
  | n + 1, i, h => by
    have := mct_sub n (i + 1) h
    show bn (f i) + mct f n (i + 1) ≤ bn (g i) + mct g n (i + 1)
    cases hf : f i
    · show 0 + _ ≤ _
      omega
    · rw [h i hf]; omega
theorem mct_sub1 {f g : Nat → Bool} {k : Nat} (hf : f k = false) (hg : g k = true) : ∀ (n i : Nat), (∀ j, f j = true → g j = true) → i ≤ k → k < i + n → mct f n i < mct g n i
  | 0, i, _, h1, h2 => by omega
  | n + 1, i, h, h1, h2 => by
    show bn (f i) + mct f n (i + 1) < bn (g i) + mct g n (i + 1)
    by_cases e : i = k
    · have := mct_sub n (i + 1) h
      rw [e] at this ⊢
      rw [hf, hg]
      show 0 + _ < 1 + _
      omega
    · have := mct_sub1 hf hg n (i + 1) h (by omega) (by omega)
      cases hfi : f i
      · show 0 + _ < _
        omega
      · rw [h i hfi]; omega
theorem mub_lt {S : Nat → Nat} {p q : Nat} (h : mon2 S p q = true) (hq : q < S 120) : mub S q < mub S p := by
  unfold mub
  have := mct_sub1 (k := q) (mon2_ir (S := S)) h (S 120) 0 (fun j hj => mon2_tr h hj) (by omega) (by omega)
  omega
/-- what holds on the way -/
def mI (S : Nat → Nat) (h : Nat → Nat) (t : Nat) : Prop := (∀ p, p < S 120 → h p = 0 ∨ ∃ l, mCh S (p :: l) ∧ (p :: l).length = h p) ∧ (t = 0 ∨ ∃ l, mCh S l ∧ l.length = t) ∧ (∀ p, p < S 120 → h p ≤ t ∧ h p ≤ mub S p)
theorem mbb_ch {S h : Nat → Nat} {p t : Nat} (hp : mly S p) (hI : mI S h t) : (∃ l, mCh S (p :: l) ∧ (p :: l).length = mbb S h p) ∧ mbb S h p ≤ mub S p := by
  unfold mbb
  rcases mbs_w (S := S) (h := h) (p := p) (S 120) 0 1 with e | ⟨r, h1, h2, h3, h4⟩
  · rw [e]
    exact ⟨⟨[], mCh_1 hp, rfl⟩, by unfold mub; omega⟩
  · rw [h4]
    have hr : r < S 120 := by omega
    have u := mub_lt h3 hr
    have b := (hI.2.2 r hr).2
    refine ⟨?_, by omega⟩
    rcases hI.1 r hr with e | ⟨l, hl, e⟩
    · rw [e]; exact ⟨[], mCh_1 hp, rfl⟩
    · exact ⟨r :: l, mCh_c hp h3 hl, by rw [← e]; rfl⟩
theorem mps_I {S : Nat → Nat} (h5 : ∀ p, p < S 120 → S (p * 6 + 5) ≤ 1) : ∀ (n p : Nat) (h : Nat → Nat) (m : Bool) (t : Nat), p + n = S 120 → mI S h t → mI S (mps S n p h m t).1 (mps S n p h m t).2.2 ∧ (∀ q, h q ≤ (mps S n p h m t).1 q) ∧ ((mps S n p h m t).2.1 = false → m = false ∧ (mps S n p h m t).1 = h ∧ ∀ q, p ≤ q → mly S q → mbb S h q ≤ h q) ∧ ((mps S n p h m t).2.1 = true → m = true ∨ ∃ q, q < S 120 ∧ h q < (mps S n p h m t).1 q)
  | 0, p, h, m, t, e, hI => ⟨hI, fun _ => Nat.le_refl _, fun hm => ⟨hm, rfl, fun q h1 h2 => absurd h2.1 (by omega)⟩, fun hm => Or.inl hm⟩
  | n + 1, p, h, m, t, e, hI => by
    unfold mps
    by_cases hz : S (p * 6 + 5) = 0
    · rw [if_pos hz]
      obtain ⟨a, b, c, d⟩ := mps_I h5 n (p + 1) h m t (by omega) hI
      refine ⟨a, b, fun hm => ?_, d⟩
      obtain ⟨c1, c2, c3⟩ := c hm
      refine ⟨c1, c2, fun q h1 h2 => ?_⟩
      by_cases eq : q = p
      · subst eq
        exact absurd h2.2 (by omega)
      · exact c3 q (by omega) h2
    · rw [if_neg hz]
      have hly : mly S p := ⟨by omega, by have := h5 p (by omega); omega⟩
      have hc := mbb_ch hly hI
      have hp := hI.2.2 p (by omega)
      have hI2 : mI S (mup h p (if h p < mbb S h p then mbb S h p else h p)) (if t < (if h p < mbb S h p then mbb S h p else h p) then (if h p < mbb S h p then mbb S h p else h p) else t) := by
        by_cases hg : h p < mbb S h p
        · rw [if_pos hg]
          refine ⟨fun q hq => ?_, ?_, fun q hq => ?_⟩
          · by_cases eq : q = p
            · subst eq
              rw [mup_s]
              exact Or.inr hc.1
            · rw [mup_n _ _ eq]; exact hI.1 q hq
          · split
            · obtain ⟨l, h1, h2⟩ := hc.1
              exact Or.inr ⟨_, h1, h2⟩
            · exact hI.2.1
          · have hq2 := hI.2.2 q hq
            by_cases eq : q = p
            · subst eq
              rw [mup_s]
              refine ⟨?_, hc.2⟩
              split <;> omega
            · rw [mup_n _ _ eq]
              refine ⟨?_, hq2.2⟩
              split <;> omega
        · rw [if_neg hg, if_neg (show ¬ t < h p by omega), mup_id]
          exact hI
      obtain ⟨a, b, c, d⟩ := mps_I h5 n (p + 1) _ (m || decide (h p < mbb S h p)) _ (by omega) hI2
      have mono : ∀ q, h q ≤ mup h p (if h p < mbb S h p then mbb S h p else h p) q := by
        intro q
        unfold mup
        split
        · next eq =>
          subst eq
          split <;> omega
        · exact Nat.le_refl _
      refine ⟨a, fun q => Nat.le_trans (mono q) (b q), fun hm => ?_, fun hm => ?_⟩
      · obtain ⟨c1, c2, c3⟩ := c hm
        rw [Bool.or_eq_false_iff] at c1
        have hg : ¬ h p < mbb S h p := of_decide_eq_false c1.2
        have e0 : mup h p (if h p < mbb S h p then mbb S h p else h p) = h := by rw [if_neg hg, mup_id]
        rw [e0] at c2 c3 ⊢
        refine ⟨c1.1, c2, fun q h1 h2 => ?_⟩
        by_cases eq : q = p
        · subst eq; omega
        · exact c3 q (by omega) h2
      · rcases d hm with d | ⟨q, h1, h2⟩
        · rw [Bool.or_eq_true] at d
          rcases d with d | d
          · exact Or.inl d
          · have hg : h p < mbb S h p := of_decide_eq_true d
            refine Or.inr ⟨p, by omega, Nat.lt_of_lt_of_le ?_ (b p)⟩
            rw [mup_s, if_pos hg]
            exact hg
        · exact Or.inr ⟨q, h1, Nat.lt_of_le_of_lt (mono q) h2⟩
theorem msum_up {f g : Nat → Nat} : ∀ n, (∀ q, f q ≤ g q) → msum f n ≤ msum g n
  | 0, _ => Nat.le_refl _
  | n + 1, h => by
    have := msum_up n h
    have := h n
    show msum f n + f n ≤ msum g n + g n
    omega
theorem msum_up1 {f g : Nat → Nat} {q : Nat} (hq : f q < g q) : ∀ n, (∀ q, f q ≤ g q) → q < n → msum f n < msum g n
  | 0, _, h => by omega
  | n + 1, h, hn => by
    show msum f n + f n < msum g n + g n
    by_cases e : q = n
    · have := msum_up n h
      subst e
      omega
    · have := msum_up1 hq n h (by omega)
      have := h n
      omega
theorem msum_b {f : Nat → Nat} {B : Nat} : ∀ n, (∀ q, q < n → f q ≤ B) → msum f n ≤ n * B
  | 0, _ => Nat.zero_le _
  | n + 1, h => by
    have := msum_b n (fun q hq => h q (by omega))
    have := h n (by omega)
    show msum f n + f n ≤ (n + 1) * B
    rw [Nat.add_mul]
    omega
theorem mfix {S h : Nat → Nat} (hf : ∀ q, mly S q → mbb S h q ≤ h q) : ∀ (l : List Nat) (p : Nat), mCh S (p :: l) → (p :: l).length ≤ h p
  | [], p, hc => Nat.le_trans (mbs_ge (S 120) 0 1) (hf p hc.1)
  | q :: l, p, hc => by
    have h2 : mCh S (q :: l) := by
      rcases hc.2.2 with e | e
      · cases e
      · exact e
    have ih := mfix hf l q h2
    have hb := mbs_all (S := S) (h := h) (p := p) (S 120) 0 1 q (by omega) (by have := h2.1.1; omega) hc.2.1
    have := hf p hc.1
    unfold mbb at this
    show (q :: l).length + 1 ≤ h p
    omega
theorem mrl_top {S : Nat → Nat} (h5 : ∀ p, p < S 120 → S (p * 6 + 5) ≤ 1) (h18 : S 120 ≤ 18) : ∀ (k : Nat) (h : Nat → Nat) (t : Nat), mI S h t → 400 ≤ msum h (S 120) + k → mTop S (mrl S k h t)
  | 0, h, t, hI, hk => by
    have a := msum_b (f := h) (B := 19) (S 120) (fun q hq => by
      have := (hI.2.2 q hq).2
      have := mct_le (mon2 S q) (S 120) 0
      unfold mub at *
      omega)
    have b : S 120 * 19 ≤ 18 * 19 := Nat.mul_le_mul h18 (Nat.le_refl _)
    omega
  | k + 1, h, t, hI, hk => by
    unfold mrl
    obtain ⟨a, b, c, d⟩ := mps_I h5 (S 120) 0 h false t (by omega) hI
    cases hm : (mps S (S 120) 0 h false t).2.1
    · rw [if_neg Bool.false_ne_true]
      obtain ⟨c1, c2, c3⟩ := c hm
      rw [c2] at a
      refine ⟨fun l hl => ?_, a.2.1⟩
      cases l with
      | nil => exact hl.elim
      | cons p l =>
        have f := mfix (fun q hq => c3 q (by omega) hq) l p hl
        have := (a.2.2 p hl.1.1).1
        omega
    · rw [if_pos rfl]
      rcases d hm with d | ⟨q, h1, h2⟩
      · cases d
      · have := msum_up1 h2 (S 120) b h1
        exact mrl_top h5 h18 k _ _ a (by omega)
/-! the class: sorted by the sides -/
def mgt (S : Nat → Nat) (a b : Nat) : Bool := decide (mlo S b < mlo S a ∨ (mlo S a = mlo S b ∧ msh S b < msh S a))
/-- where a new piece goes -/
def mat (S idx : Nat → Nat) (p : Nat) : Nat → Nat
  | 0 => 0
  | k + 1 => if mgt S (idx k) p then mat S idx p k else k + 1
def minS (idx : Nat → Nat) (at9 p : Nat) : Nat → Nat := fun i => if i < at9 then idx i else if i = at9 then p else idx (i - 1)
theorem mat_le {S idx : Nat → Nat} {p : Nat} : ∀ n, mat S idx p n ≤ n
  | 0 => Nat.le_refl _
  | n + 1 => by
    unfold mat
    split
    · exact Nat.le_trans (mat_le n) (by omega)
    · exact Nat.le_refl _
theorem mat_hi {S idx : Nat → Nat} {p : Nat} : ∀ n i, mat S idx p n ≤ i → i < n → mgt S (idx i) p = true
  | 0, i, _, h => by omega
  | n + 1, i, h1, h2 => by
    unfold mat at h1
    cases hg : mgt S (idx n) p
    · rw [hg, if_neg Bool.false_ne_true] at h1; omega
    · rw [hg, if_pos rfl] at h1
      by_cases e : i = n
      · rw [e]; exact hg
      · exact mat_hi n i h1 (by omega)
theorem mat_lo {S idx : Nat → Nat} {p : Nat} : ∀ n, 0 < mat S idx p n → mgt S (idx (mat S idx p n - 1)) p = false
  | 0, h => (Nat.lt_irrefl 0 h).elim
  | n + 1, h => by
    unfold mat at h ⊢
    cases hg : mgt S (idx n) p
    · rw [if_neg Bool.false_ne_true]
      exact hg
    · rw [hg, if_pos rfl] at h
      rw [if_pos rfl]
      exact mat_lo n h
/-- sorted: among the first p pieces those that lie stand at the first n places -/
def mSo (S idx : Nat → Nat) (n p : Nat) : Prop := (∀ i, i < n → mly S (idx i) ∧ idx i < p) ∧ (∀ i j, i < j → j < n → mgt S (idx i) (idx j) = false ∧ (mlo S (idx i) = mlo S (idx j) → msh S (idx i) = msh S (idx j) → idx i < idx j)) ∧ ∀ q, q < p → mly S q → ∃ i, i < n ∧ idx i = q
theorem mgt_f {S : Nat → Nat} {a b : Nat} (h : mgt S a b = false) : ¬ (mlo S b < mlo S a ∨ (mlo S a = mlo S b ∧ msh S b < msh S a)) := of_decide_eq_false h
theorem mgt_t {S : Nat → Nat} {a b : Nat} (h : mgt S a b = true) : mlo S b < mlo S a ∨ (mlo S a = mlo S b ∧ msh S b < msh S a) := of_decide_eq_true h
theorem mSo_ins {S idx : Nat → Nat} {n p : Nat} (h : mSo S idx n p) (hp : mly S p) : mSo S (minS idx (mat S idx p n) p) (n + 1) (p + 1) := by
  have hle := mat_le (S := S) (idx := idx) (p := p) n
  have hhi := mat_hi (S := S) (idx := idx) (p := p) n
  have hlo := mat_lo (S := S) (idx := idx) (p := p) n
  generalize mat S idx p n = k at *
  have e1 : ∀ i, i < k → minS idx k p i = idx i := fun i hi => if_pos hi
  have e2 : minS idx k p k = p := by unfold minS; rw [if_neg (by omega), if_pos rfl]
  have e3 : ∀ i, k < i → minS idx k p i = idx (i - 1) := fun i hi => by unfold minS; rw [if_neg (by omega), if_neg (by omega)]
  refine ⟨fun i hi => ?_, fun i j hij hj => ?_, fun q hq hl => ?_⟩
  · rcases Nat.lt_trichotomy i k with a | a | a
    · rw [e1 i a]; have := h.1 i (by omega); exact ⟨this.1, by omega⟩
    · rw [a, e2]; exact ⟨hp, by omega⟩
    · rw [e3 i a]; have := h.1 (i - 1) (by omega); exact ⟨this.1, by omega⟩
  · rcases Nat.lt_trichotomy j k with b | b | b
    · rw [e1 i (by omega), e1 j b]; exact h.2.1 i j hij (by omega)
    · rw [b, e2, e1 i (by omega)]
      have l := mgt_f (hlo (by omega))
      have pi := (h.1 i (by omega)).2
      refine ⟨decide_eq_false (fun g => ?_), fun _ _ => pi⟩
      by_cases ei : i = k - 1
      · rw [ei] at g; exact l g
      · have o := h.2.1 i (k - 1) (by omega) (by omega)
        have o1 := mgt_f o.1
        omega
    · rw [e3 j b]
      rcases Nat.lt_trichotomy i k with a | a | a
      · rw [e1 i a]; exact h.2.1 i (j - 1) (by omega) (by omega)
      · rw [a, e2]
        have t := mgt_t (hhi (j - 1) (by omega) (by omega))
        exact ⟨decide_eq_false (fun g => by omega), fun x y => by omega⟩
      · rw [e3 i a]; exact h.2.1 (i - 1) (j - 1) (by omega) (by omega)
  · by_cases eq : q = p
    · exact ⟨k, by omega, by rw [e2, eq]⟩
    · obtain ⟨i, hi, he⟩ := h.2.2 q (by omega) hl
      by_cases c : i < k
      · exact ⟨i, by omega, by rw [e1 i c, he]⟩
      · exact ⟨i + 1, by omega, by rw [e3 (i + 1) (by omega), Nat.add_sub_cancel, he]⟩
theorem mSo_skip {S idx : Nat → Nat} {n p : Nat} (h : mSo S idx n p) (hp : ¬ mly S p) : mSo S idx n (p + 1) :=
  ⟨fun i hi => ⟨(h.1 i hi).1, by have := (h.1 i hi).2; omega⟩, h.2.1, fun q hq hl => by
    by_cases e : q = p
    · subst e; exact absurd hl hp
    · exact h.2.2 q (by omega) hl⟩
theorem mSo_on {S idx : Nat → Nat} {n p : Nat} (h : mSo S idx n p) {i j : Nat} (hi : i < n) (hj : j < n) : mon2 S (idx j) (idx i) = true ↔ (j < i ∧ msh S (idx j) ≤ msh S (idx i)) := by
  constructor
  · intro ho
    have o := mon2_t ho
    rcases Nat.lt_trichotomy j i with a | a | a
    · exact ⟨a, o.2.2.2.1⟩
    · exact absurd (by rw [a]) o.1
    · have s := h.2.1 i j a hj
      have s1 := mgt_f s.1
      have s2 := s.2
      omega
  · intro hc
    have s := h.2.1 j i hc.1 hi
    have s1 := mgt_f s.1
    have l := (h.1 i hi).1.2
    refine decide_eq_true ⟨?_, l, by omega, hc.2, ?_⟩
    · intro e
      by_cases q : mlo S (idx j) = mlo S (idx i) ∧ msh S (idx j) = msh S (idx i)
      · have := s.2 q.1 q.2; omega
      · rw [e] at q; exact q ⟨rfl, rfl⟩
    · by_cases q : mlo S (idx j) = mlo S (idx i) ∧ msh S (idx j) = msh S (idx i)
      · have := s.2 q.1 q.2; omega
      · omega
/-- the highest below: n places from j on -/
def mhb (S idx ht : Nat → Nat) (i : Nat) : Nat → Nat → Nat → Nat
  | 0, _, b => b
  | n + 1, j, b => mhb S idx ht i n (j + 1) (if msh S (idx j) ≤ msh S (idx i) then max b (ht j) else b)
theorem mhb_ge {S idx ht : Nat → Nat} {i : Nat} : ∀ n j b, b ≤ mhb S idx ht i n j b
  | 0, _, _ => Nat.le_refl _
  | n + 1, j, b => by
    refine Nat.le_trans ?_ (mhb_ge n (j + 1) _)
    split <;> omega
theorem mhb_all {S idx ht : Nat → Nat} {i : Nat} : ∀ n j b r, j ≤ r → r < j + n → msh S (idx r) ≤ msh S (idx i) → ht r ≤ mhb S idx ht i n j b
  | 0, j, b, r, h1, h2, _ => by omega
  | n + 1, j, b, r, h1, h2, hr => by
    by_cases e : r = j
    · subst e
      refine Nat.le_trans ?_ (mhb_ge n (r + 1) _)
      rw [if_pos hr]; omega
    · exact mhb_all n (j + 1) _ r (by omega) (by omega) hr
theorem mhb_w {S idx ht : Nat → Nat} {i : Nat} : ∀ n j b, mhb S idx ht i n j b = b ∨ ∃ r, j ≤ r ∧ r < j + n ∧ msh S (idx r) ≤ msh S (idx i) ∧ mhb S idx ht i n j b = ht r
  | 0, _, _ => Or.inl rfl
  | n + 1, j, b => by
    unfold mhb
    rcases mhb_w (S := S) (idx := idx) (ht := ht) (i := i) n (j + 1) (if msh S (idx j) ≤ msh S (idx i) then max b (ht j) else b) with e | ⟨r, h1, h2, h3, h4⟩
    · rw [e]
      split
      · next z =>
        rcases Nat.le_total (ht j) b with q | q
        · left; omega
        · right; exact ⟨j, Nat.le_refl _, by omega, z, by omega⟩
      · exact Or.inl rfl
    · exact Or.inr ⟨r, by omega, by omega, h3, h4⟩
/-- chains told from their end: the last one is p -/
theorem mCh_snoc {S : Nat → Nat} : ∀ {l : List Nat} {p q : Nat}, mCh S (l ++ [p]) → mon2 S p q = true → mly S q → mCh S (l ++ [p] ++ [q])
  | [], p, q, h, ho, hq => mCh_c h.1 ho (mCh_1 hq)
  | a :: l, p, q, h, ho, hq => by
    have h2 : mCh S (l ++ [p]) := by
      rcases h.2.2 with e | e
      · exact absurd e (by simp)
      · exact e
    have ih := mCh_snoc h2 ho hq
    refine ⟨h.1, ?_, Or.inr ih⟩
    have h3 := h.2.1
    cases l with
    | nil => exact h3
    | cons b l => exact h3
theorem mCh_last {S : Nat → Nat} : ∀ {l : List Nat} {p q : Nat}, mCh S (l ++ [p] ++ [q]) → mCh S (l ++ [p]) ∧ mon2 S p q = true ∧ mly S q
  | [], p, q, h => by
    refine ⟨mCh_1 h.1, h.2.1, ?_⟩
    rcases h.2.2 with e | e
    · cases e
    · exact e.1
  | a :: l, p, q, h => by
    have h2 : mCh S (l ++ [p] ++ [q]) := by
      rcases h.2.2 with e | e
      · exact absurd e (by simp)
      · exact e
    have ih := mCh_last h2
    refine ⟨⟨h.1, ?_, Or.inr ih.1⟩, ih.2⟩
    have h3 := h.2.1
    cases l with
    | nil => exact h3
    | cons b l => exact h3
/-- heights as far as i -/
def mH (S idx ht : Nat → Nat) (i t : Nat) : Prop := (∀ j, j < i → (∃ l, mCh S (l ++ [idx j]) ∧ (l ++ [idx j]).length = ht j) ∧ (∀ l, mCh S (l ++ [idx j]) → (l ++ [idx j]).length ≤ ht j) ∧ ht j ≤ t) ∧ (t = 0 ∨ ∃ l, mCh S l ∧ l.length = t)
theorem mH_s {S idx ht : Nat → Nat} {n p i t v : Nat} (hs : mSo S idx n p) (hi : i < n) (h : mH S idx ht i t) (hv : v = 1 + mhb S idx ht i i 0 0) (h120 : p = S 120) : mH S idx (mup ht i v) (i + 1) (max t v) := by
  have hly := (hs.1 i hi).1
  have key : (∃ l, mCh S (l ++ [idx i]) ∧ (l ++ [idx i]).length = v) ∧ ∀ l, mCh S (l ++ [idx i]) → (l ++ [idx i]).length ≤ v := by
    refine ⟨?_, fun l hl => ?_⟩
    · rcases mhb_w (S := S) (idx := idx) (ht := ht) (i := i) i 0 0 with e | ⟨r, h1, h2, h3, h4⟩
      · exact ⟨[], mCh_1 hly, by rw [hv, e]; rfl⟩
      · obtain ⟨l, a, b⟩ := (h.1 r (by omega)).1
        have ho := (mSo_on hs hi (j := r) (by omega)).mpr ⟨by omega, h3⟩
        refine ⟨l ++ [idx r], mCh_snoc a ho hly, ?_⟩
        rw [List.length_append, b, hv, h4]
        show ht r + 1 = 1 + ht r
        omega
    · rcases List.eq_nil_or_concat l with e | ⟨l', x, e⟩
      · rw [e, hv]
        show 1 ≤ _
        omega
      · rw [e, List.concat_eq_append] at hl ⊢
        obtain ⟨c1, c2, c3⟩ := mCh_last hl
        have hx : mly S x := by
          have : ∀ (l : List Nat), mCh S (l ++ [x]) → mly S x := by
            intro l
            induction l with
            | nil => intro q; exact q.1
            | cons a l ih =>
              intro q
              rcases q.2.2 with w | w
              · exact absurd w (by simp)
              · exact ih w
          exact this _ c1
        obtain ⟨r, hr, hr2⟩ := hs.2.2 x (by rw [h120]; exact hx.1) hx
        rw [← hr2] at c1 c2 ⊢
        have o := (mSo_on hs hi hr).mp c2
        have u := (h.1 r o.1).2.1 _ c1
        have w := mhb_all (S := S) (idx := idx) (ht := ht) (i := i) i 0 0 r (by omega) (by omega) o.2
        rw [List.length_append]
        show _ + 1 ≤ v
        omega
  refine ⟨fun j hj => ?_, ?_⟩
  · by_cases e : j = i
    · subst e
      rw [mup_s]
      exact ⟨key.1, key.2, by omega⟩
    · rw [mup_n _ _ e]
      obtain ⟨a, b, c⟩ := h.1 j (by omega)
      exact ⟨a, b, by omega⟩
  · rcases Nat.le_total v t with q | q
    · rw [Nat.max_eq_left q]; exact h.2
    · rw [Nat.max_eq_right q]
      obtain ⟨l, a, b⟩ := key.1
      exact Or.inr ⟨_, a, b⟩
theorem mH_top {S idx ht : Nat → Nat} {n t : Nat} (hs : mSo S idx n (S 120)) (h : mH S idx ht n t) : mTop S t := by
  refine ⟨fun l hl => ?_, h.2⟩
  rcases List.eq_nil_or_concat l with e | ⟨l', x, e⟩
  · subst e; exact Nat.zero_le _
  · rw [e, List.concat_eq_append] at hl ⊢
    have hx : mly S x := by
      have : ∀ (l : List Nat), mCh S (l ++ [x]) → mly S x := by
        intro l
        induction l with
        | nil => intro q; exact q.1
        | cons a l ih =>
          intro q
          rcases q.2.2 with w | w
          · exact absurd w (by simp)
          · exact ih w
      exact this _ hl
    obtain ⟨r, hr, hr2⟩ := hs.2.2 x hx.1 hx
    rw [← hr2] at hl ⊢
    have u := h.1 r hr
    exact Nat.le_trans (u.2.1 _ hl) u.2.2
