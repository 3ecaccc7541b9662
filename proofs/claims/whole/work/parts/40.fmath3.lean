/-! what is paid in a night -/
def lf0 (D : fSD) (a : Nat) (S : Nat → Nat) : Nat := mend D S 151 - a
theorem mend_151 {D : fSD} {S : Nat → Nat} : mend D S 151 = mslg D S 151 := mup_n _ _ (by decide)
theorem mend_p {D : fSD} {S : Nat → Nat} (hD : fWD D) (hW : fWS D S) (hC : fWC D S) : S 151 ≤ mend D S 151 ∧ mend D S 151 ≤ S 151 + 891 := by
  rw [mend_151]
  unfold mslg
  split
  · have := mdl_k (D := D) (fun S1 c => fWS D S1 ∧ fWC D S1 ∧ S 151 ≤ S1 151 ∧ S1 151 ≤ S 151 + 99 * c ∧ c ≤ dT D 4) ?_ (dT D 2) 0 0 S (by omega) ⟨hW, hC, Nat.le_refl _, by omega, by omega⟩
    · have h4 := hD.1
      obtain ⟨-, -, h1, h2, h3⟩ := this
      omega
    · intro o ho S1 c p h hp hc hm _ _
      have np := h.1.n hD
      have t := hD.1
      have oo := hD.2.2.2.1 o ho
      have k := fWS_tk hD h.1 h.2.1 ho hp hm
      refine ⟨⟨k.1, k.2, ?_, ?_, hc⟩, mtk_o (by omega) (by omega) (by omega)⟩
      · rw [mtk_b (by omega) (by omega)]; omega
      · rw [mtk_b (by omega) (by omega)]; omega
  · omega
theorem mdl_no {D : fSD} {S : Nat → Nat} (h : ∀ o, o < dT D 2 → mopen D S o = false) : ∀ (n o c : Nat), o + n = dT D 2 → mdl D n o c S = (S, c)
  | 0, _, _, _ => rfl
  | n + 1, o, c, e => by
    have ho := h o (by omega)
    by_cases q : S 155 ≤ dO D o 3
    · have dn : mdone D S o = true := by
        unfold mopen at ho
        rw [decide_eq_true q, Bool.and_true] at ho
        cases z : mdone D S o
        · rw [z] at ho; exact ho.symm
        · rfl
      have dn := of_decide_eq_true dn
      rw [mdl_y q, mdo_done (fun q => by omega)]
      exact mdl_no h n (o + 1) c (by omega)
    · rw [mdl_n q]
      exact mdl_no h n (o + 1) c (by omega)
theorem mfd_no {f : Nat → Bool} : ∀ {n p : Nat}, mfd f n p = none → ∀ o, p ≤ o → o < p + n → f o = false
  | 0, p, _, o, h1, h2 => by omega
  | n + 1, p, h, o, h1, h2 => by
    cases hf : f p
    · rw [mfd_f hf] at h
      by_cases e : o = p
      · rw [e]; exact hf
      · exact mfd_no h o (by omega) (by omega)
    · rw [mfd_t hf] at h
      cases h
theorem mpay_no {D : fSD} {S0 S : Nat → Nat} (hm : mmp D S0 = false) (h : mR D S0 S) : mend D S 151 = S 151 := by
  rw [mend_151]
  unfold mslg
  split
  · next ht =>
    unfold mmp at hm
    by_cases q : S0 155 < dT D 5 ∧ dT D 4 ≠ 0
    · rw [decide_eq_true q, Bool.true_and] at hm
      have hn : mfd (mopen D S0) (dT D 2) 0 = none := by
        cases z : mfd (mopen D S0) (dT D 2) 0 with
        | none => rfl
        | some x => rw [z] at hm; exact absurd hm.symm Bool.false_ne_true
      rw [mdl_no (fun o ho => ?_) (dT D 2) 0 0 (by omega)]
      have := mfd_no hn o (by omega) (by omega)
      unfold mopen mdone at *
      rw [h.2.2.2.2 o ho, h.2.2.1]
      exact this
    · have h5 := h.2.2.1
      rw [mdl_full (by omega)]
  · rfl
/-! sets of slots -/
def mpd (al w : Nat) : Nat → Nat → Nat → Nat
  | 0, _, _ => 0
  | n + 1, i, c => if al / 2 ^ i % 2 = 1 then (if c < 3 ∧ w / 2 ^ c % 2 = 1 then 2 ^ i else 0) + mpd al w n (i + 1) (c + 1) else mpd al w n (i + 1) c
def mset (D : fSD) (S : Nat → Nat) (w : Nat) : Option Nat := if mon (mpd (mbits D S) w (dT D 1) 0 0) 12 0 = mon w 12 0 ∧ mon (mpd (mbits D S) w (dT D 1) 0 0) 12 0 ≤ dT D 3 then some (mpd (mbits D S) w (dT D 1) 0 0) else none
def m3 (al : Nat) : Nat := mfa (fun i => decide (al / 2 ^ i % 2 = 1)) 3 12 0 0
def nxs (a s : Nat) : Nat := ((s + 4294967296 - a) % 4294967296) &&& a
def sqn (a : Nat) : Nat → Nat
  | 0 => 0
  | i + 1 => nxs a (sqn a i)
theorem mfa_p {f : Nat → Bool} {most : Nat} : ∀ {n i c p : Nat}, mfd f n i = some p → c < most → mfa f most n i c = 2 ^ p + mfa f most (i + n - (p + 1)) (p + 1) (c + 1)
  | 0, i, c, p, h, _ => by cases h
  | n + 1, i, c, p, h, hc => by
    cases hf : f i
    · rw [mfd_f hf] at h
      rw [mfa_f hc hf, mfa_p h hc, show i + 1 + n = i + (n + 1) by omega]
    · rw [mfd_t hf] at h
      cases h
      rw [mfa_t hc hf, show i + (n + 1) - (i + 1) = n by omega]
theorem mfa_q {f : Nat → Bool} {most : Nat} : ∀ {n i c : Nat}, mfd f n i = none → mfa f most n i c = 0
  | 0, _, _, _ => rfl
  | n + 1, i, c, h => by
    cases hf : f i
    · rw [mfd_f hf] at h
      by_cases hc : c < most
      · rw [mfa_f hc hf]; exact mfa_q h
      · exact mfa_o hc
    · rw [mfd_t hf] at h
      cases h
theorem mpd_3 {al w : Nat} : ∀ (n i c : Nat), 3 ≤ c → mpd al w n i c = 0
  | 0, _, _, _ => rfl
  | n + 1, i, c, h => by
    unfold mpd
    rw [if_neg (show ¬ (c < 3 ∧ w / 2 ^ c % 2 = 1) from fun q => by omega), mpd_3 n (i + 1) (c + 1) (by omega), mpd_3 n (i + 1) c h]
    split <;> rfl
theorem mpd_t {al w n i c : Nat} (h : al / 2 ^ i % 2 = 1) : mpd al w (n + 1) i c = (if c < 3 ∧ w / 2 ^ c % 2 = 1 then 2 ^ i else 0) + mpd al w n (i + 1) (c + 1) := if_pos h
theorem mpd_n {al w n i c : Nat} (h : ¬ al / 2 ^ i % 2 = 1) : mpd al w (n + 1) i c = mpd al w n (i + 1) c := if_neg h
theorem mpd_p {al w : Nat} : ∀ {n i c p : Nat}, mfd (fun i => decide (al / 2 ^ i % 2 = 1)) n i = some p → mpd al w n i c = (if c < 3 ∧ w / 2 ^ c % 2 = 1 then 2 ^ p else 0) + mpd al w (i + n - (p + 1)) (p + 1) (c + 1)
  | 0, i, c, p, h => by cases h
  | n + 1, i, c, p, h => by
    by_cases hf : al / 2 ^ i % 2 = 1
    · rw [mfd_t (f := fun i => decide (al / 2 ^ i % 2 = 1)) (decide_eq_true hf)] at h
      cases h
      rw [mpd_t hf, show i + (n + 1) - (i + 1) = n by omega]
    · rw [mfd_f (f := fun i => decide (al / 2 ^ i % 2 = 1)) (decide_eq_false hf)] at h
      rw [mpd_n hf, mpd_p h, show i + 1 + n = i + (n + 1) by omega]
theorem mpd_q {al w : Nat} : ∀ {n i c : Nat}, mfd (fun i => decide (al / 2 ^ i % 2 = 1)) n i = none → mpd al w n i c = 0
  | 0, _, _, _ => rfl
  | n + 1, i, c, h => by
    by_cases hf : al / 2 ^ i % 2 = 1
    · rw [mfd_t (f := fun i => decide (al / 2 ^ i % 2 = 1)) (decide_eq_true hf)] at h
      cases h
    · rw [mfd_f (f := fun i => decide (al / 2 ^ i % 2 = 1)) (decide_eq_false hf)] at h
      rw [mpd_n hf]
      exact mpd_q h
/-- a mask of three at most, and the set that w tells of it -/
def sqP (m w x : Nat) : Bool := if mon x 12 0 = mon w 12 0 then decide (w < 2 ^ mon m 12 0 ∧ sqn m w = x) else decide (¬ w < 2 ^ mon m 12 0)
theorem sq0 : ∀ w, w < 8 → sqP 0 w 0 = true := by decide +kernel
theorem sq1 : ∀ a, a < 12 → mon (2 ^ a) 12 0 ≤ 3 ∧ ∀ w, w < 8 → sqP (2 ^ a) w (if w / 2 ^ 0 % 2 = 1 then 2 ^ a else 0) = true := by decide +kernel
theorem sq2 : ∀ b, b < 12 → ∀ a, a < b → mon (2 ^ a + 2 ^ b) 12 0 ≤ 3 ∧ ∀ w, w < 8 → sqP (2 ^ a + 2 ^ b) w ((if w / 2 ^ 0 % 2 = 1 then 2 ^ a else 0) + if w / 2 ^ 1 % 2 = 1 then 2 ^ b else 0) = true := by decide +kernel
theorem sq3 : ∀ c, c < 12 → ∀ b, b < c → ∀ a, a < b → mon (2 ^ a + (2 ^ b + 2 ^ c)) 12 0 ≤ 3 ∧ ∀ w, w < 8 → sqP (2 ^ a + (2 ^ b + 2 ^ c)) w ((if w / 2 ^ 0 % 2 = 1 then 2 ^ a else 0) + ((if w / 2 ^ 1 % 2 = 1 then 2 ^ b else 0) + if w / 2 ^ 2 % 2 = 1 then 2 ^ c else 0)) = true := by decide +kernel
theorem c3e {w c : Nat} (h : c < 3) {x : Nat} : (if c < 3 ∧ w / 2 ^ c % 2 = 1 then x else 0) = if w / 2 ^ c % 2 = 1 then x else 0 := by
  by_cases e : w / 2 ^ c % 2 = 1
  · rw [if_pos ⟨h, e⟩, if_pos e]
  · rw [if_neg (fun q => e q.2), if_neg e]
theorem sq_all (al : Nat) : mon (m3 al) 12 0 ≤ 3 ∧ ∀ w, w < 8 → sqP (m3 al) w (mpd al w 12 0 0) = true := by
  unfold m3
  cases h1 : mfd (fun i => decide (al / 2 ^ i % 2 = 1)) 12 0 with
  | none =>
    rw [mfa_q h1]
    exact ⟨by decide, fun w hw => by rw [mpd_q h1]; exact sq0 w hw⟩
  | some a =>
    have ha := mfd_lt h1
    rw [mfa_p h1 (by decide)]
    cases h2 : mfd (fun i => decide (al / 2 ^ i % 2 = 1)) (0 + 12 - (a + 1)) (a + 1) with
    | none =>
      rw [mfa_q h2, Nat.add_zero]
      have := sq1 a (by omega)
      exact ⟨this.1, fun w hw => by rw [mpd_p h1, mpd_q h2, Nat.add_zero, c3e (by decide)]; exact this.2 w hw⟩
    | some b =>
      have hb := mfd_lt h2
      rw [mfa_p h2 (by decide)]
      cases h3 : mfd (fun i => decide (al / 2 ^ i % 2 = 1)) (a + 1 + (0 + 12 - (a + 1)) - (b + 1)) (b + 1) with
      | none =>
        rw [mfa_q h3, Nat.add_zero]
        have := sq2 b (by omega) a (by omega)
        exact ⟨this.1, fun w hw => by rw [mpd_p h1, mpd_p h2, mpd_q h3, Nat.add_zero, c3e (by decide), c3e (by decide)]; exact this.2 w hw⟩
      | some c =>
        have hc := mfd_lt h3
        rw [mfa_p h3 (by decide), mfa_o (by decide), Nat.add_zero]
        have := sq3 c (by omega) b (by omega) a (by omega)
        exact ⟨this.1, fun w hw => by rw [mpd_p h1, mpd_p h2, mpd_p h3, mpd_3 _ _ _ (by decide), Nat.add_zero, c3e (by decide), c3e (by decide), c3e (by decide)]; exact this.2 w hw⟩
theorem sq_at (al : Nat) {w : Nat} (hw : w < 8) : (if mon (mpd al w 12 0 0) 12 0 = mon w 12 0 then w < 2 ^ mon (m3 al) 12 0 ∧ sqn (m3 al) w = mpd al w 12 0 0 else ¬ w < 2 ^ mon (m3 al) 12 0) := by
  have h := (sq_all al).2 w hw
  unfold sqP at h
  split
  · next e => rw [if_pos e] at h; exact of_decide_eq_true h
  · next e => rw [if_neg e] at h; exact of_decide_eq_true h
theorem m3_at (al : Nat) : mon (m3 al) 12 0 ≤ 3 := (sq_all al).1
theorem mon_8 : ∀ w, w < 8 → mon w 12 0 ≤ 3 := by decide +kernel
theorem mpd_z {al w : Nat} : ∀ (n i c : Nat), (∀ j, i ≤ j → al / 2 ^ j % 2 = 0) → mpd al w n i c = 0
  | 0, _, _, _ => rfl
  | n + 1, i, c, h => by
    unfold mpd
    rw [if_neg (by rw [h i (Nat.le_refl _)]; decide)]
    exact mpd_z n (i + 1) c (fun j hj => h j (by omega))
theorem mpd_x {al w m : Nat} : ∀ (n i c : Nat), (∀ j, i + n ≤ j → al / 2 ^ j % 2 = 0) → mpd al w n i c = mpd al w (n + m) i c
  | 0, i, c, h => by
    rw [mpd_z (0 + m) i c (fun j hj => h j (by omega))]
    rfl
  | n + 1, i, c, h => by
    rw [show n + 1 + m = (n + m) + 1 by omega]
    unfold mpd
    rw [mpd_x (m := m) n (i + 1) (c + 1) (fun j hj => h j (by omega)), mpd_x (m := m) n (i + 1) c (fun j hj => h j (by omega))]
theorem mfa_z {f : Nat → Bool} {most : Nat} : ∀ (n i c : Nat), (∀ j, i ≤ j → f j = false) → mfa f most n i c = 0
  | 0, _, _, _ => rfl
  | n + 1, i, c, h => by
    by_cases hc : c < most
    · rw [mfa_f hc (h i (Nat.le_refl _))]
      exact mfa_z n (i + 1) c (fun j hj => h j (by omega))
    · exact mfa_o hc
theorem mfa_x {f : Nat → Bool} {most m : Nat} : ∀ (n i c : Nat), (∀ j, i + n ≤ j → f j = false) → mfa f most n i c = mfa f most (n + m) i c
  | 0, i, c, h => by
    rw [mfa_z (0 + m) i c (fun j hj => h j (by omega))]
    rfl
  | n + 1, i, c, h => by
    rw [show n + 1 + m = (n + m) + 1 by omega]
    by_cases hc : c < most
    · cases hf : f i
      · rw [mfa_f hc hf, mfa_f hc hf, mfa_x (m := m) n (i + 1) c (fun j hj => h j (by omega))]
      · rw [mfa_t hc hf, mfa_t hc hf, mfa_x (m := m) n (i + 1) (c + 1) (fun j hj => h j (by omega))]
    · rw [mfa_o hc, mfa_o hc]
theorem mbits_b {D : fSD} {S : Nat → Nat} (j : Nat) : decide (mbits D S / 2 ^ j % 2 = 1) = (decide (j < dT D 1) && mal D S j) := by
  rw [tb1]
  unfold mbits
  rw [mbf_bit]
  congr 1
  exact decide_eq_decide.mpr (by omega)
theorem mbits_0 {D : fSD} {S : Nat → Nat} {j : Nat} (h : dT D 1 ≤ j) : mbits D S / 2 ^ j % 2 = 0 := by
  have := mbits_b (D := D) (S := S) j
  rw [decide_eq_false (show ¬ j < dT D 1 by omega), Bool.false_and] at this
  have := of_decide_eq_false this
  have := d2 (b := mbits D S) (i := j)
  omega
/-- the class's first three, out of all that are alive -/
theorem m3_e {D : fSD} {S : Nat → Nat} (hD : fWD D) : mfa (mal D S) 3 (dT D 1) 0 0 = m3 (mbits D S) := by
  have t := hD.1
  unfold m3
  rw [mfa_cg (f := mal D S) (g := fun i => decide (mbits D S / 2 ^ i % 2 = 1)) (fun j _ hj => by
    show mal D S j = decide (mbits D S / 2 ^ j % 2 = 1)
    rw [mbits_b, decide_eq_true (show j < dT D 1 by omega), Bool.true_and])]
  rw [mfa_x (m := 12 - dT D 1) (dT D 1) 0 0 (fun j hj => decide_eq_false (by rw [mbits_0 (by omega)]; decide)), show dT D 1 + (12 - dT D 1) = 12 by omega]
theorem mpd_e {D : fSD} {S : Nat → Nat} (hD : fWD D) (w : Nat) : mpd (mbits D S) w (dT D 1) 0 0 = mpd (mbits D S) w 12 0 0 := by
  have t := hD.1
  rw [mpd_x (m := 12 - dT D 1) (dT D 1) 0 0 (fun j hj => mbits_0 (by omega)), show dT D 1 + (12 - dT D 1) = 12 by omega]
/-! the best of some sets -/
def mbt (x : Option Nat) (v : Nat) : Bool := match x with
  | none => true
  | some b => decide (b < v)
def mfo (F : Nat → Option Nat) (G : Nat → Nat) : Nat → Nat → Option Nat → Nat → Option Nat × Nat
  | 0, _, b, s => (b, s)
  | n + 1, i, b, s => match F i with
    | none => mfo F G n (i + 1) b s
    | some f => if mbt b (G f) then mfo F G n (i + 1) (some (G f)) f else mfo F G n (i + 1) b s
theorem mfo_n {F : Nat → Option Nat} {G : Nat → Nat} {n i s : Nat} {b : Option Nat} (h : F i = none) : mfo F G (n + 1) i b s = mfo F G n (i + 1) b s := by
  show (match F i with | none => _ | some f => _) = _
  rw [h]
theorem mfo_t {F : Nat → Option Nat} {G : Nat → Nat} {n i s f : Nat} {b : Option Nat} (h : F i = some f) (hb : mbt b (G f) = true) : mfo F G (n + 1) i b s = mfo F G n (i + 1) (some (G f)) f := by
  show (match F i with | none => _ | some f => _) = _
  rw [h]
  exact if_pos hb
theorem mfo_f {F : Nat → Option Nat} {G : Nat → Nat} {n i s f : Nat} {b : Option Nat} (h : F i = some f) (hb : mbt b (G f) = false) : mfo F G (n + 1) i b s = mfo F G n (i + 1) b s := by
  show (match F i with | none => _ | some f => _) = _
  rw [h]
  exact if_neg (by rw [hb]; exact Bool.false_ne_true)
theorem mfo_skip {F : Nat → Option Nat} {G : Nat → Nat} {b : Option Nat} {s : Nat} : ∀ (n i : Nat), (∀ j, i ≤ j → j < i + n → F j = none) → mfo F G n i b s = (b, s)
  | 0, _, _ => rfl
  | n + 1, i, h => by
    rw [mfo_n (h i (Nat.le_refl _) (by omega))]
    exact mfo_skip n (i + 1) (fun j h1 h2 => h j (by omega) (by omega))
theorem mfo_cat {F : Nat → Option Nat} {G : Nat → Nat} {m : Nat} : ∀ (n i : Nat) (b : Option Nat) (s : Nat), mfo F G (n + m) i b s = mfo F G m (i + n) (mfo F G n i b s).1 (mfo F G n i b s).2
  | 0, i, b, s => by rw [Nat.zero_add]; rfl
  | n + 1, i, b, s => by
    rw [show n + 1 + m = (n + m) + 1 by omega, show i + (n + 1) = (i + 1) + n by omega]
    cases h : F i with
    | none => rw [mfo_n h, mfo_n h]; exact mfo_cat n (i + 1) b s
    | some f =>
      cases hb : mbt b (G f)
      · rw [mfo_f h hb, mfo_f h hb]; exact mfo_cat n (i + 1) b s
      · rw [mfo_t h hb, mfo_t h hb]; exact mfo_cat n (i + 1) _ f
theorem mfo_cg {F F' : Nat → Option Nat} {G G' : Nat → Nat} : ∀ (n i : Nat) (b : Option Nat) (s : Nat), (∀ j, i ≤ j → j < i + n → F j = F' j ∧ ∀ f, F j = some f → G f = G' f) → mfo F G n i b s = mfo F' G' n i b s
  | 0, _, _, _, _ => rfl
  | n + 1, i, b, s, h => by
    have ih := fun b s => mfo_cg n (i + 1) b s (fun j h1 h2 => h j (by omega) (by omega))
    obtain ⟨e1, e2⟩ := h i (Nat.le_refl _) (by omega)
    cases hF : F i with
    | none => rw [mfo_n hF, mfo_n (e1 ▸ hF)]; exact ih b s
    | some f =>
      have eg := e2 f hF
      cases hb : mbt b (G f)
      · rw [mfo_f hF hb, mfo_f (e1 ▸ hF) (by rw [← eg]; exact hb)]; exact ih b s
      · rw [mfo_t hF hb, mfo_t (e1 ▸ hF) (by rw [← eg]; exact hb), ← eg]; exact ih _ f
theorem mbt_mul {x v : Nat} {b : Option Nat} (hx : 0 < x) : mbt (b.map (x * ·)) (x * v) = mbt b v := by
  cases b with
  | none => rfl
  | some b => exact decide_eq_decide.mpr (Nat.mul_lt_mul_left hx)
theorem mfo_mul {F : Nat → Option Nat} {G : Nat → Nat} {x : Nat} (hx : 0 < x) : ∀ (n i : Nat) (b : Option Nat) (s : Nat), mfo F (fun f => x * G f) n i (b.map (x * ·)) s = ((mfo F G n i b s).1.map (x * ·), (mfo F G n i b s).2)
  | 0, _, _, _ => rfl
  | n + 1, i, b, s => by
    cases hF : F i with
    | none => rw [mfo_n hF, mfo_n hF]; exact mfo_mul hx n (i + 1) b s
    | some f =>
      cases hb : mbt b (G f)
      · rw [mfo_f hF (by rw [mbt_mul hx]; exact hb), mfo_f hF hb]; exact mfo_mul hx n (i + 1) b s
      · rw [mfo_t hF (by rw [mbt_mul hx]; exact hb), mfo_t hF hb]; exact mfo_mul hx n (i + 1) (some (G f)) f
theorem mfo_s {F : Nat → Option Nat} {G : Nat → Nat} : ∀ (n i : Nat) (b : Option Nat) (s s' : Nat), (mfo F G n i b s).1 = (mfo F G n i b s').1
  | 0, _, _, _, _ => rfl
  | n + 1, i, b, s, s' => by
    cases hF : F i with
    | none => rw [mfo_n hF, mfo_n hF]; exact mfo_s n (i + 1) b s s'
    | some f =>
      cases hb : mbt b (G f)
      · rw [mfo_f hF hb, mfo_f hF hb]; exact mfo_s n (i + 1) b s s'
      · rw [mfo_t hF hb, mfo_t hF hb]
theorem mfo_some {F : Nat → Option Nat} {G : Nat → Nat} : ∀ (n i v s : Nat), ∃ v' s', mfo F G n i (some v) s = (some v', s') ∧ v ≤ v'
  | 0, _, v, s => ⟨v, s, rfl, Nat.le_refl _⟩
  | n + 1, i, v, s => by
    cases hF : F i with
    | none => rw [mfo_n hF]; exact mfo_some n (i + 1) v s
    | some f =>
      cases hb : mbt (some v) (G f)
      · rw [mfo_f hF hb]; exact mfo_some n (i + 1) v s
      · rw [mfo_t hF hb]
        obtain ⟨v', s', h1, h2⟩ := mfo_some n (i + 1) (G f) f
        have : v < G f := of_decide_eq_true hb
        exact ⟨v', s', h1, by omega⟩
theorem mfo_le {F : Nat → Option Nat} {G : Nat → Nat} {M : Nat} : ∀ (n i : Nat) (b : Option Nat) (s : Nat), (∀ j f, i ≤ j → j < i + n → F j = some f → G f ≤ M) → (∀ v, b = some v → v ≤ M) → ∀ v, (mfo F G n i b s).1 = some v → v ≤ M
  | 0, _, _, _, _, h, v, e => h v e
  | n + 1, i, b, s, hG, h, v, e => by
    have ih := fun b s => mfo_le (G := G) n (i + 1) b s (fun j f h1 h2 => hG j f (by omega) (by omega))
    cases hF : F i with
    | none => rw [mfo_n hF] at e; exact ih b s h v e
    | some f =>
      cases hb : mbt b (G f)
      · rw [mfo_f hF hb] at e; exact ih b s h v e
      · rw [mfo_t hF hb] at e
        exact ih _ f (fun v q => by cases q; exact hG i f (Nat.le_refl _) (by omega) hF) v e
