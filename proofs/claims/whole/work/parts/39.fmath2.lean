/-! what a state keeps on the way through a night -/
def mR (D : fSD) (S0 S : Nat → Nat) : Prop := fWS D S ∧ fWC D S ∧ S 155 = S0 155 ∧ S 151 = S0 151 ∧ ∀ o, o < dT D 2 → S (145 + o) = S0 (145 + o)
theorem mdrw_e {D : fSD} {S : Nat → Nat} {fill cold k : Nat} (h : mdrw D S fill cold k = true) : fill / 2 ^ k % 2 = 1 ∧ mal D S k = true ∧ mneed D S k ≤ cold ∧ mstr D S k cold = true := by
  unfold mdrw at h
  rw [Bool.and_eq_true, Bool.and_eq_true, Bool.and_eq_true] at h
  exact ⟨of_decide_eq_true h.1.1.1, h.1.1.2, of_decide_eq_true h.1.2, h.2⟩
theorem mR_spl {D : fSD} {S0 S : Nat → Nat} {k p line : Nat} (hD : fWD D) (hn : S0 155 < 30) (hk : k < dT D 1) (h : mR D S0 S) (ha : mal D S k = true) (hpc : mpc D S k = some p) (hin : mins D S k p line = true) : mR D S0 (mspl D S k line) ∧ ∀ j, j < 12 → mspl D S k line (121 + j) = S (121 + j) := by
  obtain ⟨hW, hC, h5, h1, ho⟩ := h
  obtain ⟨p', hpc', hp, hz, hi⟩ := mal_pc ha
  rw [hpc] at hpc'
  cases hpc'
  have hl := hC.lt hk hz
  have t := hD.1
  have h18 : S 120 < 18 := by have := hW.1; omega
  have s1 := (hD.2.2.1 k hk).2.1
  have w := fWS_spl hD hW hC hk hpc hz hin (by omega)
  refine ⟨⟨w.1, w.2, ?_, ?_, fun o ho9 => ?_⟩, fun j hj => ?_⟩
  · rw [mspl_o hpc s1 (by omega) (by omega) h18 (by omega) (by omega) (by omega) (by omega)]; exact h5
  · rw [mspl_o hpc s1 (by omega) (by omega) h18 (by omega) (by omega) (by omega) (by omega)]; exact h1
  · rw [mspl_o hpc s1 (by omega) (by omega) h18 (by omega) (by omega) (by omega) (by omega)]; exact ho o ho9
  · rw [mspl_o hpc s1 (by omega) (by omega) h18 (by omega) (by omega) (by omega) (by omega)]
theorem mR_d {D : fSD} {S0 S : Nat → Nat} {k fill cold : Nat} (v : Nat) (hD : fWD D) (hn : S0 155 < 30) (hk : k < dT D 1) (h : mR D S0 S) (hd : mdrw D S fill cold k = true) : mR D S0 (mspl D S k (mln D S k v)) ∧ ∀ j, j < 12 → mspl D S k (mln D S k v) (121 + j) = S (121 + j) := by
  have e := mdrw_e hd
  obtain ⟨p, hpc, hp, hz, hi⟩ := mal_pc e.2.1
  exact mR_spl hD hn hk h e.2.1 hpc (mins_ln hpc hi)
theorem mR_q {D : fSD} {S0 S : Nat → Nat} {k cold : Nat} (hD : fWD D) (hn : S0 155 < 30) (hk : k < dT D 1) (h : mR D S0 S) : mR D S0 (mq D S cold k) ∧ ∀ j, j < 12 → j ≠ k → mq D S cold k (121 + j) = S (121 + j) := by
  have t := hD.1
  unfold mq
  split
  · next e =>
    obtain ⟨p, hpc, hp, hz, hi⟩ := mal_pc e.1
    have := mR_spl hD hn hk h e.1 hpc hi
    exact ⟨this.1, fun j hj _ => this.2 j hj⟩
  · split
    · obtain ⟨hW, hC, h5, h1, ho⟩ := h
      have w := fWS_bru hD hW hC hk
      refine ⟨⟨w.1, w.2, ?_, ?_, fun o ho9 => ?_⟩, fun j hj hne => ?_⟩
      · rw [mbru_o (by omega) (by omega)]; exact h5
      · rw [mbru_o (by omega) (by omega)]; exact h1
      · rw [mbru_o (by omega) (by omega)]; exact ho o ho9
      · rw [mbru_o (by omega) (by omega)]
    · exact ⟨h, fun j _ _ => rfl⟩
/-- leaves that are worth the same -/
theorem mbr_cg {D : fSD} {lf lf' : (Nat → Nat) → Nat} {S0 : Nat → Nat} (fill cold : Nat) (hD : fWD D) (hn : S0 155 < 30) (hl : ∀ S, mR D S0 S → lf S = lf' S) : ∀ (n k : Nat) (S : Nat → Nat), k + n = dT D 1 → mR D S0 S → mbr D lf fill cold n k S = mbr D lf' fill cold n k S
  | 0, _, S, _, h => hl S h
  | n + 1, k, S, e, h => by
    have ih := fun S => mbr_cg (lf := lf) (lf' := lf') fill cold hD hn hl n (k + 1) S (by omega)
    unfold mbr
    by_cases hb : fill / 2 ^ k % 2 = 1
    · rw [if_pos hb, if_pos hb]
      by_cases hd : mdrw D S fill cold k = true
      · rw [if_pos hd, if_pos hd, ih _ (mR_d 0 hD hn (by omega) h hd).1, ih _ (mR_d 1 hD hn (by omega) h hd).1, ih _ (mR_d 2 hD hn (by omega) h hd).1]
      · rw [if_neg hd, if_neg hd, ih _ (mR_q hD hn (by omega) h).1]
    · rw [if_neg hb, if_neg hb, ih _ h]
theorem mbr_le {D : fSD} {lf : (Nat → Nat) → Nat} {S0 : Nat → Nat} {B : Nat} (fill cold : Nat) (hD : fWD D) (hn : S0 155 < 30) (hl : ∀ S, mR D S0 S → lf S ≤ B) : ∀ (n k : Nat) (S : Nat → Nat), k + n = dT D 1 → mR D S0 S → mbr D lf fill cold n k S ≤ 4 ^ mon fill n k * B
  | 0, _, S, _, h => by
    show lf S ≤ 4 ^ 0 * B
    rw [Nat.pow_zero, Nat.one_mul]
    exact hl S h
  | n + 1, k, S, e, h => by
    have ih := fun S => mbr_le (lf := lf) (B := B) fill cold hD hn hl n (k + 1) S (by omega)
    have hm : mon fill (n + 1) k = fill / 2 ^ k % 2 + mon fill n (k + 1) := rfl
    unfold mbr
    rw [hm]
    by_cases hb : fill / 2 ^ k % 2 = 1
    · rw [if_pos hb, hb, Nat.add_comm 1, Nat.pow_succ, Nat.mul_comm (4 ^ _) 4, Nat.mul_assoc]
      by_cases hd : mdrw D S fill cold k = true
      · rw [if_pos hd]
        have a := ih _ (mR_d 0 hD hn (by omega) h hd).1
        have b := ih _ (mR_d 1 hD hn (by omega) h hd).1
        have c := ih _ (mR_d 2 hD hn (by omega) h hd).1
        omega
      · rw [if_neg hd]
        have a := ih _ (mR_q (k := k) (cold := cold) hD hn (by omega) h).1
        omega
    · have hb0 : fill / 2 ^ k % 2 = 0 := by have := d2 (b := fill) (i := k); omega
      rw [if_neg hb, hb0, Nat.zero_add]
      exact ih _ h
theorem mbr_mul {D : fSD} {lf : (Nat → Nat) → Nat} (x : Nat) (fill cold : Nat) : ∀ (n k : Nat) (S : Nat → Nat), mbr D (fun S => x * lf S) fill cold n k S = x * mbr D lf fill cold n k S
  | 0, _, S => rfl
  | n + 1, k, S => by
    have ih := fun S => mbr_mul (D := D) (lf := lf) x fill cold n (k + 1) S
    unfold mbr
    split
    · split
      · rw [ih, ih, ih, Nat.mul_add, Nat.mul_add, Nat.mul_left_comm]
      · rw [ih, Nat.mul_left_comm]
    · rw [ih]
/-! colds that act alike -/
theorem mdrw_f {D : fSD} {S : Nat → Nat} {fill cold k : Nat} : mdrw D S fill cold k = (decide (fill / 2 ^ k % 2 = 1) && mal D S k && decide (meff D S k cold = 2)) := by
  unfold mdrw
  rw [Bool.and_assoc (decide (fill / 2 ^ k % 2 = 1) && mal D S k)]
  congr 1
  unfold meff
  by_cases h : mneed D S k ≤ cold
  · rw [decide_eq_true h, if_neg (by omega)]
    cases mstr D S k cold
    · rfl
    · rfl
  · rw [decide_eq_false h, if_pos (by omega)]
    split <;> rfl
theorem mq_f {D : fSD} {S : Nat → Nat} {cold k : Nat} : mq D S cold k = if mal D S k = true ∧ 2 ≤ meff D S k cold then mspl D S k (dS D k 2) else if mal D S k = true ∧ meff D S k cold = 1 then mbru S k else S := by
  unfold mq meff
  by_cases h : mneed D S k ≤ cold
  · rw [if_neg (show ¬ cold < mneed D S k by omega)]
    by_cases ha : mal D S k = true
    · rw [if_pos ⟨ha, h⟩, if_pos ⟨ha, by split <;> omega⟩]
    · rw [if_neg (fun q => ha q.1), if_neg (fun q => ha q.1), if_neg (fun q => ha q.1), if_neg (fun q => ha q.1)]
  · rw [if_pos (show cold < mneed D S k by omega), if_neg (fun q => h q.2)]
    by_cases hc : 0 < cold
    · rw [if_neg (show ¬ cold = 0 by omega)]
      rw [if_neg (show ¬ (mal D S k = true ∧ 2 ≤ 1) from fun q => absurd q.2 (by decide))]
      by_cases ha : mal D S k = true
      · rw [if_pos ⟨ha, hc⟩, if_pos ⟨ha, rfl⟩]
      · rw [if_neg (fun q => ha q.1), if_neg (fun q => ha q.1)]
    · rw [if_pos (show cold = 0 by omega), if_neg (fun q => hc q.2), if_neg (fun q => absurd q.2 (by decide)), if_neg (fun q => absurd q.2 (by decide))]
theorem meff_cg {D : fSD} {S S' : Nat → Nat} {k c : Nat} (h : S' (121 + k) = S (121 + k)) : meff D S' k c = meff D S k c := by
  unfold meff mstr mneed
  rw [h]
theorem mak_at {D : fSD} {S : Nat → Nat} {fill c c2 : Nat} : ∀ {n i : Nat}, mak D S fill c c2 n i = true → ∀ j, i ≤ j → j < i + n → fill / 2 ^ j % 2 = 1 → meff D S j c = meff D S j c2
  | 0, i, _, j, h1, h2, _ => by omega
  | n + 1, i, h, j, h1, h2, hb => by
    unfold mak at h
    by_cases q : fill / 2 ^ i % 2 = 1 ∧ meff D S i c ≠ meff D S i c2
    · rw [if_pos q] at h; exact absurd h Bool.false_ne_true
    · rw [if_neg q] at h
      by_cases e : j = i
      · subst e
        exact Decidable.byContradiction (fun z => q ⟨hb, z⟩)
      · exact mak_at h j (by omega) (by omega) hb
theorem mbr_ak {D : fSD} {lf : (Nat → Nat) → Nat} {S0 : Nat → Nat} {fill c c2 : Nat} (hD : fWD D) (hn : S0 155 < 30) (ha : ∀ j, j < dT D 1 → fill / 2 ^ j % 2 = 1 → meff D S0 j c = meff D S0 j c2) : ∀ (n k : Nat) (S : Nat → Nat), k + n = dT D 1 → mR D S0 S → (∀ j, k ≤ j → j < 12 → S (121 + j) = S0 (121 + j)) → mbr D lf fill c n k S = mbr D lf fill c2 n k S
  | 0, _, _, _, _, _ => rfl
  | n + 1, k, S, e, h, hp => by
    have t1 := hD.1.2.1
    have ih := fun S => mbr_ak (lf := lf) hD hn ha n (k + 1) S (by omega)
    unfold mbr
    by_cases hb : fill / 2 ^ k % 2 = 1
    · have he : meff D S k c = meff D S k c2 := by
        rw [meff_cg (hp k (by omega) (by omega)), meff_cg (hp k (by omega) (by omega))]
        exact ha k (by omega) hb
      have hde : mdrw D S fill c k = mdrw D S fill c2 k := by rw [mdrw_f, mdrw_f, he]
      have hqe : mq D S c k = mq D S c2 k := by rw [mq_f, mq_f, he]
      rw [if_pos hb, if_pos hb, hde, hqe]
      by_cases hd : mdrw D S fill c2 k = true
      · rw [if_pos hd, if_pos hd]
        have a0 := mR_d 0 hD hn (by omega) h hd
        have a1 := mR_d 1 hD hn (by omega) h hd
        have a2 := mR_d 2 hD hn (by omega) h hd
        rw [ih _ a0.1 (fun j h1 h2 => (a0.2 j h2).trans (hp j (by omega) h2)), ih _ a1.1 (fun j h1 h2 => (a1.2 j h2).trans (hp j (by omega) h2)), ih _ a2.1 (fun j h1 h2 => (a2.2 j h2).trans (hp j (by omega) h2))]
      · rw [if_neg hd, if_neg hd]
        have a := mR_q (k := k) (cold := c2) hD hn (by omega) h
        rw [ih _ a.1 (fun j h1 h2 => (a.2 j h2 (by omega)).trans (hp j (by omega) h2))]
    · rw [if_neg hb, if_neg hb, ih _ h (fun j h1 h2 => hp j (by omega) h2)]
/-! by the odds of a night -/
def mby (D : fSD) (lf : (Nat → Nat) → Nat) (fill : Nat) (S : Nat → Nat) : Nat := msum (fun i => if dZ D i 0 = S 155 then dZ D i 2 * mbr D lf fill (dZ D i 1) (dT D 1) 0 S else 0) (dT D 6) + (8 - mall D (S 155)) * mbr D lf fill 0 (dT D 1) 0 S
def mP (D : fSD) (t c : Nat) : Nat := if c = 0 then 8 - mall D t else mpart D t c
/-- colds weighed together: n of them from c on; e of 8 wait -/
def msm (D : fSD) (S : Nat → Nat) (fill : Nat) (V : Nat → Nat) : Nat → Nat → Nat → Nat → Nat
  | 0, _, _, a => a
  | n + 1, c, e, a => if e + mP D (S 155) c = 0 ∨ (c < 9 ∧ mak D S fill c (c + 1) (dT D 1) 0 = true) then msm D S fill V n (c + 1) (e + mP D (S 155) c) a else msm D S fill V n (c + 1) 0 (a + (e + mP D (S 155) c) * V c)
theorem msm_e {D : fSD} {S : Nat → Nat} {fill : Nat} {V : Nat → Nat} (hV : ∀ c, c < 9 → mak D S fill c (c + 1) (dT D 1) 0 = true → V c = V (c + 1)) : ∀ (n c e a : Nat), c + n = 10 → (n = 0 → e = 0) → msm D S fill V n c e a = a + e * V c + msf (fun c => mP D (S 155) c * V c) n c
  | 0, c, e, a, _, h => by
    rw [h rfl]
    show a = a + 0 * V c + 0
    omega
  | n + 1, c, e, a, hc, _ => by
    have hs : msf (fun c => mP D (S 155) c * V c) (n + 1) c = mP D (S 155) c * V c + msf (fun c => mP D (S 155) c * V c) n (c + 1) := rfl
    unfold msm
    rw [hs]
    by_cases q : e + mP D (S 155) c = 0 ∨ (c < 9 ∧ mak D S fill c (c + 1) (dT D 1) 0 = true)
    · rw [if_pos q]
      rcases q with q | q
      · rw [q, msm_e hV n (c + 1) 0 a (by omega) (fun _ => rfl), show e = 0 by omega, show mP D (S 155) c = 0 by omega]
        omega
      · rw [msm_e hV n (c + 1) _ a (by omega) (by omega), ← hV c q.1 q.2, Nat.add_mul]
        omega
    · rw [if_neg q, msm_e hV n (c + 1) 0 _ (by omega) (fun _ => rfl), Nat.add_mul]
      omega
theorem msf_add {f g : Nat → Nat} : ∀ n i, msf (fun c => f c + g c) n i = msf f n i + msf g n i
  | 0, _ => rfl
  | n + 1, i => by
    show f i + g i + msf _ n (i + 1) = f i + msf f n (i + 1) + (g i + msf g n (i + 1))
    rw [msf_add n (i + 1)]
    omega
theorem msf_one {V : Nat → Nat} {x c0 : Nat} : ∀ n i, i ≤ c0 → c0 < i + n → msf (fun c => (if c0 = c then x else 0) * V c) n i = x * V c0
  | 0, i, h1, h2 => by omega
  | n + 1, i, h1, h2 => by
    show (if c0 = i then x else 0) * V i + msf _ n (i + 1) = _
    by_cases e : c0 = i
    · subst e
      rw [if_pos rfl]
      have : ∀ n i, c0 < i → msf (fun c => (if c0 = c then x else 0) * V c) n i = 0 := by
        intro n
        induction n with
        | zero => intro i _; rfl
        | succ n ih =>
          intro i hi
          show (if c0 = i then x else 0) * V i + msf _ n (i + 1) = 0
          rw [if_neg (by omega), ih (i + 1) (by omega)]
          omega
      rw [this n (c0 + 1) (by omega)]
      omega
    · rw [if_neg e, msf_one n (i + 1) (by omega) (by omega)]
      omega
theorem mby_p {D : fSD} {lf : (Nat → Nat) → Nat} {fill : Nat} {S : Nat → Nat} (hD : fWD D) : msf (fun c => mP D (S 155) c * mbr D lf fill c (dT D 1) 0 S) 10 0 = mby D lf fill S := by
  have key : ∀ n, n ≤ dT D 6 → msf (fun c => msum (fun i => if dZ D i 0 = S 155 ∧ dZ D i 1 = c then dZ D i 2 else 0) n * mbr D lf fill c (dT D 1) 0 S) 9 1 = msum (fun i => if dZ D i 0 = S 155 then dZ D i 2 * mbr D lf fill (dZ D i 1) (dT D 1) 0 S else 0) n := by
    intro n
    induction n with
    | zero =>
      intro _
      show msf (fun c => 0 * _) 9 1 = 0
      have : (fun c => 0 * mbr D lf fill c (dT D 1) 0 S) = fun _ => 0 := by funext c; exact Nat.zero_mul _
      rw [this]
      rfl
    | succ n ih =>
      intro hn
      have z := hD.2.2.2.2.1 n (by omega)
      have e1 : (fun c => msum (fun i => if dZ D i 0 = S 155 ∧ dZ D i 1 = c then dZ D i 2 else 0) (n + 1) * mbr D lf fill c (dT D 1) 0 S) = fun c => msum (fun i => if dZ D i 0 = S 155 ∧ dZ D i 1 = c then dZ D i 2 else 0) n * mbr D lf fill c (dT D 1) 0 S + (if dZ D n 1 = c then (if dZ D n 0 = S 155 then dZ D n 2 else 0) else 0) * mbr D lf fill c (dT D 1) 0 S := by
        funext c
        show (msum _ n + (if dZ D n 0 = S 155 ∧ dZ D n 1 = c then dZ D n 2 else 0)) * _ = _
        rw [Nat.add_mul]
        congr 2
        by_cases h1 : dZ D n 0 = S 155
        · by_cases h2 : dZ D n 1 = c
          · rw [if_pos ⟨h1, h2⟩, if_pos h2, if_pos h1]
          · rw [if_neg (fun q => h2 q.2), if_neg h2]
        · rw [if_neg (fun q => h1 q.1), if_neg h1]
          split <;> rfl
      rw [e1, msf_add, ih (by omega), msf_one (c0 := dZ D n 1) 9 1 (by omega) (by omega)]
      show _ = msum _ n + (if dZ D n 0 = S 155 then _ else 0)
      congr 1
      split
      · rfl
      · exact Nat.zero_mul _
  show mP D (S 155) 0 * _ + msf (fun c => mP D (S 155) c * _) 9 1 = _
  have e2 : msf (fun c => mP D (S 155) c * mbr D lf fill c (dT D 1) 0 S) 9 1 = msf (fun c => msum (fun i => if dZ D i 0 = S 155 ∧ dZ D i 1 = c then dZ D i 2 else 0) (dT D 6) * mbr D lf fill c (dT D 1) 0 S) 9 1 := rfl
  rw [e2, key (dT D 6) (Nat.le_refl _)]
  show (8 - mall D (S 155)) * _ + _ = _
  unfold mby
  omega
theorem mby_le {D : fSD} {lf : (Nat → Nat) → Nat} {fill M : Nat} {S : Nat → Nat} (hD : fWD D) (h : ∀ c, mbr D lf fill c (dT D 1) 0 S ≤ M) : mby D lf fill S ≤ 8 * M := by
  have key : ∀ n, msum (fun i => if dZ D i 0 = S 155 then dZ D i 2 * mbr D lf fill (dZ D i 1) (dT D 1) 0 S else 0) n ≤ msum (fun i => if dZ D i 0 = S 155 then dZ D i 2 else 0) n * M := by
    intro n
    induction n with
    | zero => exact Nat.zero_le _
    | succ n ih =>
      show msum _ n + (if _ then _ else _) ≤ (msum _ n + (if _ then _ else _)) * M
      rw [Nat.add_mul]
      refine Nat.add_le_add ih ?_
      split
      · exact Nat.mul_le_mul (Nat.le_refl _) (h _)
      · exact Nat.zero_le _
  have a := key (dT D 6)
  have b : (8 - mall D (S 155)) * mbr D lf fill 0 (dT D 1) 0 S ≤ (8 - mall D (S 155)) * M := Nat.mul_le_mul (Nat.le_refl _) (h 0)
  have c : mall D (S 155) ≤ 8 := hD.2.2.2.2.2 _
  unfold mby
  have d : mall D (S 155) * M + (8 - mall D (S 155)) * M = 8 * M := by rw [← Nat.add_mul, show mall D (S 155) + (8 - mall D (S 155)) = 8 by omega]
  unfold mall at *
  omega
theorem mby_cg {D : fSD} {lf lf' : (Nat → Nat) → Nat} {fill : Nat} {S : Nat → Nat} (h : ∀ c, mbr D lf fill c (dT D 1) 0 S = mbr D lf' fill c (dT D 1) 0 S) : mby D lf fill S = mby D lf' fill S := by
  unfold mby
  simp only [h]
theorem msum_mul {f : Nat → Nat} (x : Nat) : ∀ n, msum (fun i => x * f i) n = x * msum f n
  | 0 => rfl
  | n + 1 => by
    show msum _ n + x * f n = x * (msum f n + f n)
    rw [msum_mul x n, Nat.mul_add]
theorem mby_mul {D : fSD} {lf : (Nat → Nat) → Nat} {fill x : Nat} {S : Nat → Nat} : mby D (fun S => x * lf S) fill S = x * mby D lf fill S := by
  unfold mby
  rw [Nat.mul_add, ← msum_mul, mbr_mul, Nat.mul_left_comm]
  congr 2
  funext i
  split
  · rw [mbr_mul, Nat.mul_left_comm]
  · rfl
