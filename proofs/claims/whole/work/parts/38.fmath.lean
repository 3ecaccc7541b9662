/-! what is weighed by odds -/
def mdrw (D : fSD) (S : Nat → Nat) (fill cold k : Nat) : Bool := decide (fill / 2 ^ k % 2 = 1) && mal D S k && decide (mneed D S k ≤ cold) && mstr D S k cold
def mq (D : fSD) (S : Nat → Nat) (cold k : Nat) : Nat → Nat := if mal D S k = true ∧ mneed D S k ≤ cold then mspl D S k (dS D k 2) else if mal D S k = true ∧ 0 < cold then mbru S k else S
/-- the reference's branches: n slots from k on, lf at the leaves -/
def mbr (D : fSD) (lf : (Nat → Nat) → Nat) (fill cold : Nat) : Nat → Nat → (Nat → Nat) → Nat
  | 0, _, S => lf S
  | n + 1, k, S => if fill / 2 ^ k % 2 = 1 then (if mdrw D S fill cold k then mbr D lf fill cold n (k + 1) (mspl D S k (mln D S k 0)) + mbr D lf fill cold n (k + 1) (mspl D S k (mln D S k 1)) + 2 * mbr D lf fill cold n (k + 1) (mspl D S k (mln D S k 2)) else 4 * mbr D lf fill cold n (k + 1) (mq D S cold k)) else mbr D lf fill cold n (k + 1) S
/-- the same, as the class weighs it: j draws have been made -/
def mtr (D : fSD) (lf : (Nat → Nat) → Nat) (fill cold : Nat) : Nat → Nat → Nat → (Nat → Nat) → Nat
  | 0, _, j, S => 4 ^ (6 - j) * lf S
  | n + 1, k, j, S => if fill / 2 ^ k % 2 = 1 then (if mdrw D S fill cold k then mtr D lf fill cold n (k + 1) (j + 1) (mspl D S k (mln D S k 0)) + mtr D lf fill cold n (k + 1) (j + 1) (mspl D S k (mln D S k 1)) + 2 * mtr D lf fill cold n (k + 1) (j + 1) (mspl D S k (mln D S k 2)) else mtr D lf fill cold n (k + 1) j (mq D S cold k)) else mtr D lf fill cold n (k + 1) j S
theorem mtr_br (D : fSD) (lf : (Nat → Nat) → Nat) (fill cold : Nat) : ∀ (n k j : Nat) (S : Nat → Nat), j + mon fill n k ≤ 6 → mtr D lf fill cold n k j S = 4 ^ (6 - j - mon fill n k) * mbr D lf fill cold n k S
  | 0, _, j, S, _ => rfl
  | n + 1, k, j, S, h => by
    have hm : mon fill (n + 1) k = fill / 2 ^ k % 2 + mon fill n (k + 1) := rfl
    rw [hm] at h ⊢
    unfold mtr mbr
    by_cases hb : fill / 2 ^ k % 2 = 1
    · rw [if_pos hb, if_pos hb, hb]
      rw [hb] at h
      by_cases hd : mdrw D S fill cold k = true
      · rw [if_pos hd, if_pos hd, mtr_br D lf fill cold n (k + 1) (j + 1) _ (by omega), mtr_br D lf fill cold n (k + 1) (j + 1) _ (by omega), mtr_br D lf fill cold n (k + 1) (j + 1) _ (by omega), show 6 - (j + 1) - mon fill n (k + 1) = 6 - j - (1 + mon fill n (k + 1)) by omega, Nat.mul_add, Nat.mul_add, Nat.mul_left_comm]
      · rw [if_neg hd, if_neg hd, mtr_br D lf fill cold n (k + 1) j _ (by omega), show 6 - j - mon fill n (k + 1) = 6 - j - (1 + mon fill n (k + 1)) + 1 by omega, Nat.pow_succ, Nat.mul_assoc]
    · have hb0 : fill / 2 ^ k % 2 = 0 := by have := d2 (b := fill) (i := k); omega
      rw [if_neg hb, if_neg hb, hb0, Nat.zero_add]
      rw [hb0, Nat.zero_add] at h
      exact mtr_br D lf fill cold n (k + 1) j S h
/-! a row of ways, as it is read -/
def vr (z : fZW) (i : Nat) : Nat := if i < z.2.1 then z.2.2 i else 0
theorem wdr_v {z : fZW} (h : z.1 < 12) (hs : z.1 ≤ z.2.1) : (wdr z).1 = vr z z.1 ∧ (wdr z).2.1 = z.1 + 1 ∧ (∀ i, vr (wdr z).2 i = vr z i) ∧ (wdr z).2.2.1 = max z.2.1 (z.1 + 1) := by
  unfold wdr
  rw [if_neg (by omega)]
  by_cases e : z.2.1 ≤ z.1
  · rw [if_pos e]
    refine ⟨?_, rfl, fun i => ?_, ?_⟩
    · unfold vr
      rw [if_neg (by omega)]
    · unfold vr mup
      show (if i < z.1 + 1 then (if i = z.1 then 0 else z.2.2 i) else 0) = _
      by_cases e1 : i < z.2.1
      · rw [if_pos (by omega), if_neg (by omega), if_pos e1]
      · rw [if_neg e1]
        split
        · split
          · rfl
          · omega
        · rfl
    · show z.1 + 1 = _
      omega
  · rw [if_neg e]
    refine ⟨?_, rfl, fun i => rfl, ?_⟩
    · unfold vr
      rw [if_pos (by omega)]
    · show z.2.1 = _
      omega
def wwt (z : fZW) : Nat → Nat → Nat
  | 0, _ => 1
  | n + 1, i => (if z.1 ≤ i then 4 else if z.2.2 i = 2 then 2 else 1) * wwt z n (i + 1)
/-- on to the next row -/
def wpop (r : Nat → Nat) : Nat → Nat
  | 0 => 0
  | s + 1 => if 2 ≤ r s then wpop r s else s + 1
def wadv (z : fZW) : fZW × Bool := if wpop z.2.2 z.2.1 = 0 then ((0, 0, z.2.2), false) else ((0, wpop z.2.2 z.2.1, mup z.2.2 (wpop z.2.2 z.2.1 - 1) (z.2.2 (wpop z.2.2 z.2.1 - 1) + 1)), true)
/-- the rows one after the other: it tells what each is worth, fuel how many there may be -/
def mlp (D : fSD) (lf : (Nat → Nat) → Nat) (fill cold : Nat) (S : Nat → Nat) : Nat → fZW → Nat
  | 0, _ => 0
  | n + 1, z => wwt (mfrz wdr D fill cold (dT D 1) 0 (S, fun _ => 0, z)).2.2 6 0 * lf (mfrz wdr D fill cold (dT D 1) 0 (S, fun _ => 0, z)).1 + if (wadv (mfrz wdr D fill cold (dT D 1) 0 (S, fun _ => 0, z)).2.2).2 then mlp D lf fill cold S n (wadv (mfrz wdr D fill cold (dT D 1) 0 (S, fun _ => 0, z)).2.2).1 else 0
/-- the trace matters to nothing else -/
theorem mst_T {Z : Type} (dr : Z → Nat × Z) (D : fSD) (fill cold k : Nat) (S : Nat → Nat) (T T' : Nat → Int32) (z : Z) : (mst dr D fill cold k (S, T, z)).1 = (mst dr D fill cold k (S, T', z)).1 ∧ (mst dr D fill cold k (S, T, z)).2.2 = (mst dr D fill cold k (S, T', z)).2.2 := by
  rw [mst_u, mst_u]
  unfold mss
  split
  · split
    · split <;> exact ⟨rfl, rfl⟩
    · split <;> exact ⟨rfl, rfl⟩
  · exact ⟨rfl, rfl⟩
theorem mfrz_T {Z : Type} (dr : Z → Nat × Z) (D : fSD) (fill cold : Nat) : ∀ (n k : Nat) (S : Nat → Nat) (T T' : Nat → Int32) (z : Z), (mfrz dr D fill cold n k (S, T, z)).1 = (mfrz dr D fill cold n k (S, T', z)).1 ∧ (mfrz dr D fill cold n k (S, T, z)).2.2 = (mfrz dr D fill cold n k (S, T', z)).2.2
  | 0, _, _, _, _, _ => ⟨rfl, rfl⟩
  | n + 1, k, S, T, T', z => by
    have h := mst_T dr D fill cold k S T T' z
    have e := mfrz_T dr D fill cold n (k + 1) (mst dr D fill cold k (S, T, z)).1 (mst dr D fill cold k (S, T, z)).2.1 (mst dr D fill cold k (S, T', z)).2.1 (mst dr D fill cold k (S, T, z)).2.2
    have e2 : (mst dr D fill cold k (S, T', z)) = ((mst dr D fill cold k (S, T, z)).1, (mst dr D fill cold k (S, T', z)).2.1, (mst dr D fill cold k (S, T, z)).2.2) := by rw [h.1, h.2]
    show (mfrz dr D fill cold n (k + 1) (mst dr D fill cold k (S, T, z))).1 = (mfrz dr D fill cold n (k + 1) (mst dr D fill cold k (S, T', z))).1 ∧ (mfrz dr D fill cold n (k + 1) (mst dr D fill cold k (S, T, z))).2.2 = (mfrz dr D fill cold n (k + 1) (mst dr D fill cold k (S, T', z))).2.2
    rw [e2]
    exact e
/-- one slot -/
theorem mst_n {Z : Type} (dr : Z → Nat × Z) (D : fSD) (fill cold k : Nat) (S : Nat → Nat) (T : Nat → Int32) (z : Z) (h : mdrw D S fill cold k = false) : ∃ T', mst dr D fill cold k (S, T, z) = ((if fill / 2 ^ k % 2 = 1 then mq D S cold k else S), T', z) := by
  rw [mst_u]
  by_cases hb : fill / 2 ^ k % 2 = 1
  · rw [if_pos hb]
    unfold mq
    by_cases ha : mal D S k = true
    · rw [if_pos ⟨hb, ha⟩]
      by_cases hn : mneed D S k ≤ cold
      · rw [if_pos hn, if_pos ⟨ha, hn⟩]
        have hs : mstr D S k cold = false := by
          unfold mdrw at h
          rw [decide_eq_true hb, ha, decide_eq_true hn] at h
          exact h
        unfold mss
        rw [if_neg (by show ¬ mstr D S k cold = true; rw [hs]; exact Bool.false_ne_true)]
        exact ⟨_, rfl⟩
      · rw [if_neg hn, if_neg (fun (q : mal D S k = true ∧ mneed D S k ≤ cold) => hn q.2)]
        by_cases hc : 0 < cold
        · rw [if_pos hc, if_pos ⟨ha, hc⟩]; exact ⟨_, rfl⟩
        · rw [if_neg hc, if_neg (fun (q : mal D S k = true ∧ 0 < cold) => hc q.2)]; exact ⟨_, rfl⟩
    · rw [if_neg (fun (q : fill / 2 ^ k % 2 = 1 ∧ mal D S k = true) => ha q.2), if_neg (fun (q : mal D S k = true ∧ mneed D S k ≤ cold) => ha q.1), if_neg (fun (q : mal D S k = true ∧ 0 < cold) => ha q.1)]
      exact ⟨_, rfl⟩
  · rw [if_neg (fun q => hb q.1), if_neg hb]
    exact ⟨_, rfl⟩
theorem mst_d {Z : Type} (dr : Z → Nat × Z) (D : fSD) (fill cold k : Nat) (S : Nat → Nat) (T : Nat → Int32) (z : Z) (h : mdrw D S fill cold k = true) : ∃ T', mst dr D fill cold k (S, T, z) = (mspl D S k (mln D S k (dr z).1), T', (dr z).2) := by
  unfold mdrw at h
  rw [Bool.and_eq_true, Bool.and_eq_true, Bool.and_eq_true] at h
  obtain ⟨⟨⟨h1, h2⟩, h3⟩, h4⟩ := h
  rw [mst_u, if_pos ⟨of_decide_eq_true h1, h2⟩, if_pos (of_decide_eq_true h3)]
  unfold mss
  rw [if_pos (show mstr D S k cold = true from h4)]
  exact ⟨_, rfl⟩
section SWEEP
variable (D : fSD) (lf : (Nat → Nat) → Nat) (fill cold : Nat) (S0 : Nat → Nat)
/-- the first j draws p lead from the start to the state S at slot k -/
def mrch (p : Nat → Nat) (j n k : Nat) (S : Nat → Nat) : Prop := ∀ z : fZW, z.1 = 0 → (∀ i, i < j → vr z i = p i) → ∃ T z1, mfrz wdr D fill cold (dT D 1) 0 (S0, fun _ => 0, z) = mfrz wdr D fill cold n k (S, T, z1) ∧ z1.1 = j ∧ (∀ i, vr z1 i = vr z i) ∧ z1.2.1 = max z.2.1 j
def mE (p : Nat → Nat) (j : Nat) (z : fZW) : Prop := z.1 = 0 ∧ z.2.1 ≤ j ∧ ∀ i, i < j → vr z i = p i
def mA (p : Nat → Nat) (j : Nat) (z : fZW) : Prop := z.2.1 = j ∧ ∀ i, i < j → z.2.2 i = p i
def mwp (p : Nat → Nat) : Nat → Nat
  | 0 => 1
  | j + 1 => mwp p j * if p j = 2 then 2 else 1
theorem wwt_lo (z : fZW) : ∀ n i, z.1 ≤ i → wwt z n i = 4 ^ n
  | 0, _, _ => rfl
  | n + 1, i, h => by
    show (if z.1 ≤ i then 4 else _) * wwt z n (i + 1) = _
    rw [if_pos h, wwt_lo z n (i + 1) (by omega), Nat.pow_succ, Nat.mul_comm]
theorem wwt_hi (z : fZW) (p : Nat → Nat) {j : Nat} (hz : z.1 = j) (hp : ∀ i, i < j → z.2.2 i = p i) (h6 : j ≤ 6) : ∀ n i, i + n = 6 → i ≤ j → mwp p i * wwt z n i = mwp p j * 4 ^ (6 - j)
  | 0, i, e, h => by
    have : i = j := by omega
    subst this
    rw [show 6 - i = 0 by omega]
    rfl
  | n + 1, i, e, h => by
    by_cases ej : i = j
    · subst ej
      rw [wwt_lo z (n + 1) i (by omega), show 6 - i = n + 1 by omega]
    · have ih := wwt_hi z p hz hp h6 n (i + 1) (by omega) (by omega)
      rw [← ih]
      show mwp p i * ((if z.1 ≤ i then 4 else _) * wwt z n (i + 1)) = mwp p i * (if p i = 2 then 2 else 1) * wwt z n (i + 1)
      rw [if_neg (by omega), hp i (by omega), Nat.mul_assoc]
/-- how many leaves -/
def mlv : Nat → Nat → (Nat → Nat) → Nat
  | 0, _, _ => 1
  | n + 1, k, S => if mdrw D S fill cold k then mlv n (k + 1) (mspl D S k (mln D S k 0)) + (mlv n (k + 1) (mspl D S k (mln D S k 1)) + mlv n (k + 1) (mspl D S k (mln D S k 2))) else mlv n (k + 1) (if fill / 2 ^ k % 2 = 1 then mq D S cold k else S)
theorem mlv_le : ∀ (n k : Nat) (S : Nat → Nat), mlv D fill cold n k S ≤ 3 ^ mon fill n k
  | 0, _, _ => Nat.le_refl _
  | n + 1, k, S => by
    have hm : mon fill (n + 1) k = fill / 2 ^ k % 2 + mon fill n (k + 1) := rfl
    rw [hm]
    unfold mlv
    by_cases hd : mdrw D S fill cold k = true
    · rw [if_pos hd]
      have hb : fill / 2 ^ k % 2 = 1 := by
        unfold mdrw at hd
        rw [Bool.and_eq_true, Bool.and_eq_true, Bool.and_eq_true] at hd
        exact of_decide_eq_true hd.1.1.1
      have h0 := mlv_le n (k + 1) (mspl D S k (mln D S k 0))
      have h1 := mlv_le n (k + 1) (mspl D S k (mln D S k 1))
      have h2 := mlv_le n (k + 1) (mspl D S k (mln D S k 2))
      rw [hb, Nat.add_comm 1, Nat.pow_succ]
      omega
    · rw [if_neg hd]
      refine Nat.le_trans (mlv_le n (k + 1) _) (Nat.pow_le_pow_right (by decide) (by omega))
theorem wpop_2 {r : Nat → Nat} {s : Nat} (h : 2 ≤ r s) : wpop r (s + 1) = wpop r s := if_pos h
theorem wpop_lt {r : Nat → Nat} {s : Nat} (h : ¬ 2 ≤ r s) : wpop r (s + 1) = s + 1 := if_neg h
theorem msweep : ∀ (n k j : Nat) (S p : Nat → Nat), k + n = dT D 1 → dT D 1 ≤ 12 → j ≤ k → j + mon fill n k ≤ 6 → mrch D fill cold S0 p j n k S → ∀ (f X : Nat), (∀ z, mA p j z → (if (wadv z).2 then mlp D lf fill cold S0 f (wadv z).1 else 0) = X) → ∀ z, mE p j z → mlp D lf fill cold S0 (mlv D fill cold n k S + f) z = mwp p j * mtr D lf fill cold n k j S + X
  | 0, k, j, S, p, e, h12, hjk, h6, hr, f, X, hX, z, hz => by
    obtain ⟨T, z1, h1, h2, h3, h4⟩ := hr z hz.1 hz.2.2
    rw [show mlv D fill cold 0 k S + f = f + 1 by unfold mlv; omega]
    unfold mlp
    rw [h1]
    have hs : z1.2.1 = j := by have := hz.2.1; omega
    have hrow : ∀ i, i < j → z1.2.2 i = p i := fun i hi => by
      have a := h3 i
      have b := hz.2.2 i hi
      unfold vr at a b
      rw [if_pos (by omega), b] at a
      exact a
    have hA : mA p j z1 := ⟨hs, hrow⟩
    have hw := wwt_hi z1 p h2 hrow (by have : mon fill 0 k = 0 := rfl; omega) 6 0 (by omega) (by omega)
    have hw : 1 * wwt z1 6 0 = _ := hw
    rw [Nat.one_mul] at hw
    show wwt z1 6 0 * lf S + (if (wadv z1).2 then mlp D lf fill cold S0 f (wadv z1).1 else 0) = mwp p j * (4 ^ (6 - j) * lf S) + X
    rw [hX z1 hA, hw, Nat.mul_assoc]
  | n + 1, k, j, S, p, e, h12, hjk, h6, hr, f, X, hX, z, hz => by
    have hm : mon fill (n + 1) k = fill / 2 ^ k % 2 + mon fill n (k + 1) := rfl
    rw [hm] at h6
    cases hd : mdrw D S fill cold k
    · have hne : ¬ mdrw D S fill cold k = true := by rw [hd]; exact Bool.false_ne_true
      have hr2 : mrch D fill cold S0 p j n (k + 1) (if fill / 2 ^ k % 2 = 1 then mq D S cold k else S) := by
        intro z hz hp
        obtain ⟨T, z1, h1, h2, h3, h4⟩ := hr z hz hp
        obtain ⟨T', h5⟩ := mst_n wdr D fill cold k S T z1 hd
        refine ⟨T', z1, ?_, h2, h3, h4⟩
        rw [h1, ← h5]
        rfl
      have := msweep n (k + 1) j _ p (by omega) h12 (by omega) (by omega) hr2 f X hX z hz
      unfold mlv mtr
      rw [if_neg hne, this]
      by_cases hb : fill / 2 ^ k % 2 = 1
      · rw [if_pos hb, if_pos hb, if_neg hne]
      · rw [if_neg hb, if_neg hb]
    · have hb : fill / 2 ^ k % 2 = 1 := by
        have hd := hd
        unfold mdrw at hd
        rw [Bool.and_eq_true, Bool.and_eq_true, Bool.and_eq_true] at hd
        exact of_decide_eq_true hd.1.1.1
      rw [hb] at h6
      have hr2 : ∀ v, mrch D fill cold S0 (mup p j v) (j + 1) n (k + 1) (mspl D S k (mln D S k v)) := by
        intro v z hz hp
        obtain ⟨T, z1, h1, h2, h3, h4⟩ := hr z hz (fun i hi => (hp i (by omega)).trans (mup_n _ _ (by omega)))
        obtain ⟨T', h5⟩ := mst_d wdr D fill cold k S T z1 hd
        obtain ⟨w1, w2, w3, w4⟩ := wdr_v (z := z1) (by omega) (by omega)
        have hv : (wdr z1).1 = v := by
          rw [w1, h3, h2, hp j (by omega), mup_s]
        rw [hv] at h5
        refine ⟨T', (wdr z1).2, ?_, by rw [w2, h2], fun i => (w3 i).trans (h3 i), by rw [w4, h4, h2]; omega⟩
        rw [h1, ← h5]
        rfl
      have mw : ∀ v, mwp (mup p j v) (j + 1) = mwp p j * if v = 2 then 2 else 1 := by
        intro v
        show mwp (mup p j v) j * (if mup p j v j = 2 then 2 else 1) = _
        rw [mup_s]
        have : ∀ i, i ≤ j → mwp (mup p j v) i = mwp p i := by
          intro i
          induction i with
          | zero => intro _; rfl
          | succ i ih =>
            intro hi
            show mwp (mup p j v) i * _ = mwp p i * _
            rw [ih (by omega), mup_n _ _ (by omega)]
        rw [this j (Nat.le_refl _)]
      -- the last of the three
      have c2 := msweep n (k + 1) (j + 1) _ (mup p j 2) (by omega) h12 (by omega) (by omega) (hr2 2) f X (fun z' hz' => by
        have e1 : wpop z'.2.2 z'.2.1 = wpop z'.2.2 j := by
          rw [hz'.1]
          exact wpop_2 (by rw [hz'.2 j (by omega), mup_s]; decide)
        have e2 : wadv z' = wadv (z'.1, j, z'.2.2) := by
          unfold wadv
          rw [e1]
        rw [e2]
        exact hX _ ⟨rfl, fun i hi => (hz'.2 i (by omega)).trans (mup_n _ _ (by omega))⟩)
      have nxt : ∀ v, v < 2 → ∀ z', mA (mup p j v) (j + 1) z' → (wadv z').2 = true ∧ mE (mup p j (v + 1)) (j + 1) (wadv z').1 := by
        intro v hv z' hz'
        have e1 : wpop z'.2.2 z'.2.1 = j + 1 := by
          rw [hz'.1]
          exact wpop_lt (by rw [hz'.2 j (by omega), mup_s]; omega)
        unfold wadv
        rw [e1, if_neg (by omega)]
        refine ⟨rfl, rfl, Nat.le_refl _, fun i hi => ?_⟩
        unfold vr
        show (if i < j + 1 then mup z'.2.2 (j + 1 - 1) (z'.2.2 (j + 1 - 1) + 1) i else 0) = _
        rw [if_pos hi, Nat.add_sub_cancel, hz'.2 j (by omega), mup_s]
        unfold mup
        by_cases ei : i = j
        · rw [if_pos ei, if_pos ei]
        · rw [if_neg ei, if_neg ei, hz'.2 i hi, mup_n _ _ ei]
      have c1 := msweep n (k + 1) (j + 1) _ (mup p j 1) (by omega) h12 (by omega) (by omega) (hr2 1) (mlv D fill cold n (k + 1) (mspl D S k (mln D S k 2)) + f) _ (fun z' hz' => by
        have q := nxt 1 (by decide) z' hz'
        rw [if_pos q.1]
        exact c2 _ q.2)
      have c0 := msweep n (k + 1) (j + 1) _ (mup p j 0) (by omega) h12 (by omega) (by omega) (hr2 0) (mlv D fill cold n (k + 1) (mspl D S k (mln D S k 1)) + (mlv D fill cold n (k + 1) (mspl D S k (mln D S k 2)) + f)) _ (fun z' hz' => by
        have q := nxt 0 (by decide) z' hz'
        rw [if_pos q.1]
        exact c1 _ q.2)
      have cz := c0 z ⟨hz.1, by have := hz.2.1; omega, fun i hi => by
        by_cases ei : i = j
        · rw [ei, mup_s]
          unfold vr
          rw [if_neg (by have := hz.2.1; omega)]
        · rw [mup_n _ _ ei]
          exact hz.2.2 i (by omega)⟩
      rw [mw 0, mw 1, mw 2] at cz
      unfold mlv mtr
      rw [if_pos hd, if_pos hb, if_pos hd, Nat.add_assoc, Nat.add_assoc, cz, if_neg (by decide), if_neg (by decide), if_pos rfl]
      rw [Nat.mul_one, Nat.mul_add, Nat.mul_add, Nat.mul_assoc]
      omega
end SWEEP
/-- all rows from the start on -/
theorem mlp_tr (D : fSD) (lf : (Nat → Nat) → Nat) (fill cold : Nat) (S : Nat → Nat) (h12 : dT D 1 ≤ 12) (h6 : mon fill (dT D 1) 0 ≤ 6) (row : Nat → Nat) : mlp D lf fill cold S 4096 (0, 0, row) = mtr D lf fill cold (dT D 1) 0 0 S := by
  have hl := mlv_le D fill cold (dT D 1) 0 S
  have h3 : 3 ^ mon fill (dT D 1) 0 ≤ 3 ^ 6 := Nat.pow_le_pow_right (by decide) h6
  have h4 : (3 : Nat) ^ 6 = 729 := rfl
  have := msweep D lf fill cold S (dT D 1) 0 0 S (fun _ => 0) (by omega) h12 (by omega) (by omega) (fun z hz _ => ⟨_, z, rfl, hz, fun _ => rfl, by omega⟩) (4096 - mlv D fill cold (dT D 1) 0 S) 0 (fun z hz => by
    have e : wadv z = ((0, 0, z.2.2), false) := by
      unfold wadv
      rw [hz.1]
      exact if_pos rfl
    rw [e]
    rfl) (0, 0, row) ⟨rfl, Nat.le_refl _, fun i hi => absurd hi (by omega)⟩
  rw [show mlv D fill cold (dT D 1) 0 S + (4096 - mlv D fill cold (dT D 1) 0 S) = 4096 by omega] at this
  rw [this]
  show 1 * _ + 0 = _
  omega
