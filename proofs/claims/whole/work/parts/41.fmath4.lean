def mG (D : fSD) (lf : (Nat → Nat) → Nat) (S : Nat → Nat) (f : Nat) : Nat := mby D lf f S * 4 ^ (3 - mon f 12 0)
/-- the most of the night that comes; the most of two nights, and its set -/
def mbn (D : fSD) (S : Nat → Nat) : Nat := ((mfo (mset D S) (mG D (lf0 D (S 151)) S) 8 0 (some 0) 0).1).getD 0
def lf1 (D : fSD) (a : Nat) (S : Nat → Nat) : Nat := 512 * (mend D S 151 - a) + if mend D S 155 = 30 then 0 else mbn D (mend D S)
def mft (D : fSD) (S : Nat → Nat) : Option Nat × Nat := mfo (mset D S) (mG D (lf1 D (S 151)) S) 8 0 none 0
/-! the class's side -/
def cF (D : fSD) (S : Nat → Nat) (i : Nat) : Option Nat := if mon (sqn (m3 (mbits D S)) i) 12 0 ≤ dT D 3 then some (sqn (m3 (mbits D S)) i) else none
def cSum (D : fSD) (lf : (Nat → Nat) → Nat) (S : Nat → Nat) (f : Nat) : Nat := 4 ^ (6 - mon f 12 0) * mby D lf f S
theorem mon_x {b m : Nat} : ∀ (n i : Nat), (∀ j, i + n ≤ j → b / 2 ^ j % 2 = 0) → mon b n i = mon b (n + m) i
  | 0, i, h => by
    have : ∀ m i, (∀ j, i ≤ j → b / 2 ^ j % 2 = 0) → mon b m i = 0 := by
      intro m
      induction m with
      | zero => intro i _; rfl
      | succ m ih =>
        intro i h
        show b / 2 ^ i % 2 + mon b m (i + 1) = 0
        rw [h i (Nat.le_refl _), ih (i + 1) (fun j hj => h j (by omega))]
    rw [this (0 + m) i (fun j hj => h j (by omega))]
    rfl
  | n + 1, i, h => by
    rw [show n + 1 + m = (n + m) + 1 by omega]
    show b / 2 ^ i % 2 + mon b n (i + 1) = b / 2 ^ i % 2 + mon b (n + m) (i + 1)
    rw [mon_x (m := m) n (i + 1) (fun j hj => h j (by omega))]
theorem mon_e {D : fSD} (hD : fWD D) {f : Nat} (h : ∀ j, dT D 1 ≤ j → f / 2 ^ j % 2 = 0) : mon f (dT D 1) 0 = mon f 12 0 := by
  have t := hD.1
  rw [mon_x (m := 12 - dT D 1) (dT D 1) 0 (fun j hj => h j (by omega)), show dT D 1 + (12 - dT D 1) = 12 by omega]
/-- what colds weighed together come to -/
theorem cs_e {D : fSD} {lf : (Nat → Nat) → Nat} {S : Nat → Nat} {f : Nat} (hD : fWD D) (hW : fWS D S) (hC : fWC D S) (hn : S 155 < 30) (hf : ∀ j, dT D 1 ≤ j → f / 2 ^ j % 2 = 0) (h6 : mon f 12 0 ≤ 6) : msm D S f (fun c => mtr D lf f c (dT D 1) 0 0 S) 10 0 0 0 = cSum D lf S f := by
  have hm := mon_e hD hf
  have hR : mR D S S := ⟨hW, hC, rfl, rfl, fun _ _ => rfl⟩
  have hV : (fun c => mtr D lf f c (dT D 1) 0 0 S) = fun c => 4 ^ (6 - mon f 12 0) * mbr D lf f c (dT D 1) 0 S := by
    funext c
    rw [mtr_br D lf f c (dT D 1) 0 0 S (by omega), hm]
  rw [hV, msm_e (fun c hc hk => ?_) 10 0 0 0 rfl (by omega)]
  · rw [Nat.zero_mul]
    unfold cSum
    rw [← mby_p hD]
    have : ∀ n i, msf (fun c => mP D (S 155) c * (4 ^ (6 - mon f 12 0) * mbr D lf f c (dT D 1) 0 S)) n i = 4 ^ (6 - mon f 12 0) * msf (fun c => mP D (S 155) c * mbr D lf f c (dT D 1) 0 S) n i := by
      intro n
      induction n with
      | zero => intro i; rfl
      | succ n ih =>
        intro i
        show _ * (_ * _) + msf _ n (i + 1) = _ * (_ * _ + msf _ n (i + 1))
        rw [ih (i + 1), Nat.mul_add, Nat.mul_left_comm]
    rw [this]
    omega
  · show _ * _ = _ * _
    rw [mbr_ak hD hn (fun j hj hb => mak_at hk j (by omega) (by omega) hb) (dT D 1) 0 S (by omega) hR (fun _ _ _ => rfl)]
theorem mset_e {D : fSD} {S : Nat → Nat} (hD : fWD D) {w f : Nat} (hw : w < 8) (h : mset D S w = some f) : f = mpd (mbits D S) w 12 0 0 ∧ mon f 12 0 = mon w 12 0 ∧ mon f 12 0 ≤ 3 ∧ mon f 12 0 ≤ dT D 3 := by
  unfold mset at h
  rw [mpd_e hD] at h
  split at h
  · next q =>
    cases h
    exact ⟨rfl, q.1, by rw [q.1]; exact mon_8 w hw, q.2⟩
  · cases h
theorem cF_e {D : fSD} {S : Nat → Nat} (hD : fWD D) {w : Nat} (hw : w < 8) : (w < 2 ^ mon (m3 (mbits D S)) 12 0 → cF D S w = mset D S w) ∧ (¬ w < 2 ^ mon (m3 (mbits D S)) 12 0 → mset D S w = none) := by
  have h := sq_at (mbits D S) hw
  unfold cF mset
  rw [mpd_e hD]
  constructor
  · intro hl
    by_cases e : mon (mpd (mbits D S) w 12 0 0) 12 0 = mon w 12 0
    · rw [if_pos e] at h
      rw [h.2]
      by_cases q : mon (mpd (mbits D S) w 12 0 0) 12 0 ≤ dT D 3
      · rw [if_pos q, if_pos ⟨e, q⟩]
      · rw [if_neg q, if_neg (fun z => q z.2)]
    · rw [if_neg e] at h
      exact absurd hl h
  · intro hl
    by_cases e : mon (mpd (mbits D S) w 12 0 0) 12 0 = mon w 12 0
    · rw [if_pos e] at h
      exact absurd h.1 hl
    · exact if_neg (fun z => e z.1)
theorem cSum_G {D : fSD} {lf : (Nat → Nat) → Nat} {S : Nat → Nat} {f : Nat} (h : mon f 12 0 ≤ 3) : cSum D lf S f = 64 * mG D lf S f := by
  unfold cSum mG
  rw [show 6 - mon f 12 0 = 3 + (3 - mon f 12 0) by omega, Nat.pow_add, Nat.mul_comm (mby D lf f S), ← Nat.mul_assoc]
theorem p2_8 {n : Nat} (h : n ≤ 3) : 2 ^ n ≤ 8 := Nat.le_trans (Nat.pow_le_pow_right (by decide) h) (by decide)
/-- the class's sets, and the reference's -/
theorem cm_e {D : fSD} {lf : (Nat → Nat) → Nat} {S : Nat → Nat} (hD : fWD D) : mfo (cF D S) (cSum D lf S) (2 ^ mon (m3 (mbits D S)) 12 0) 0 none 0 = ((mfo (mset D S) (mG D lf S) 8 0 none 0).1.map (64 * ·), (mfo (mset D S) (mG D lf S) 8 0 none 0).2) := by
  have h8 := p2_8 (m3_at (mbits D S))
  have e1 : mfo (mset D S) (mG D lf S) 8 0 none 0 = mfo (mset D S) (mG D lf S) (2 ^ mon (m3 (mbits D S)) 12 0) 0 none 0 := by
    have := mfo_cat (F := mset D S) (G := mG D lf S) (m := 8 - 2 ^ mon (m3 (mbits D S)) 12 0) (2 ^ mon (m3 (mbits D S)) 12 0) 0 none 0
    rw [show 2 ^ mon (m3 (mbits D S)) 12 0 + (8 - 2 ^ mon (m3 (mbits D S)) 12 0) = 8 by omega] at this
    rw [this, mfo_skip]
    intro j h1 h2
    exact (cF_e hD (by omega)).2 (by omega)
  rw [e1, ← mfo_mul (F := mset D S) (G := mG D lf S) (x := 64) (by decide)]
  refine mfo_cg _ _ _ _ (fun j h1 h2 => ?_)
  have q := (cF_e (S := S) hD (w := j) (by omega)).1 (by omega)
  refine ⟨q, fun f hf => ?_⟩
  rw [q] at hf
  exact cSum_G (mset_e hD (by omega) hf).2.2.1
theorem mset_0 {D : fSD} {S : Nat → Nat} (hD : fWD D) : mset D S 0 = some 0 := by
  have z : ∀ n i c, mpd (mbits D S) 0 n i c = 0 := by
    intro n
    induction n with
    | zero => intro i c; rfl
    | succ n ih =>
      intro i c
      unfold mpd
      rw [if_neg (show ¬ (c < 3 ∧ 0 / 2 ^ c % 2 = 1) from fun q => by rw [Nat.zero_div] at q; omega), ih, ih]
      split <;> rfl
  unfold mset
  rw [z]
  exact if_pos ⟨rfl, by show 0 ≤ _; omega⟩
/-- from 0 on, or from nothing on -/
theorem mfo_0 {D : fSD} {S : Nat → Nat} {G : Nat → Nat} (hD : fWD D) : (mfo (mset D S) G 8 0 none 0).1 = (mfo (mset D S) G 8 0 (some 0) 0).1 ∧ ∃ v, (mfo (mset D S) G 8 0 none 0).1 = some v := by
  have h0 := mset_0 (S := S) hD
  rw [mfo_t (n := 7) h0 (by rfl)]
  obtain ⟨v', s', h1, h2⟩ := mfo_some (F := mset D S) (G := G) 7 (0 + 1) (G 0) 0
  refine ⟨?_, v', by rw [h1]⟩
  cases hb : mbt (some 0) (G 0)
  · rw [mfo_f (n := 7) h0 hb]
    have : ¬ 0 < G 0 := of_decide_eq_false hb
    rw [show G 0 = 0 by omega]
  · rw [mfo_t (n := 7) h0 hb]
theorem mG_le {D : fSD} {lf : (Nat → Nat) → Nat} {S : Nat → Nat} {f B : Nat} (hD : fWD D) (hW : fWS D S) (hC : fWC D S) (hn : S 155 < 30) (hf : ∀ j, dT D 1 ≤ j → f / 2 ^ j % 2 = 0) (h3 : mon f 12 0 ≤ 3) (hl : ∀ S', mR D S S' → lf S' ≤ B) : mG D lf S f ≤ 512 * B := by
  have hR : mR D S S := ⟨hW, hC, rfl, rfl, fun _ _ => rfl⟩
  have h := mby_le (lf := lf) (fill := f) (S := S) (M := 4 ^ mon f 12 0 * B) hD (fun c => by rw [← mon_e hD hf]; exact mbr_le f c hD hn hl (dT D 1) 0 S (by omega) hR)
  unfold mG
  refine Nat.le_trans (Nat.mul_le_mul h (Nat.le_refl _)) (Nat.le_of_eq ?_)
  rw [show 8 * (4 ^ mon f 12 0 * B) * 4 ^ (3 - mon f 12 0) = 8 * (4 ^ mon f 12 0 * 4 ^ (3 - mon f 12 0)) * B by rw [Nat.mul_assoc, Nat.mul_assoc, Nat.mul_assoc, Nat.mul_comm B, Nat.mul_assoc], ← Nat.pow_add, show mon f 12 0 + (3 - mon f 12 0) = 3 by omega]
theorem mpd_hi {al w : Nat} : ∀ (n i c j : Nat), i + n ≤ j → mpd al w n i c / 2 ^ j % 2 = 0 ∧ mpd al w n i c + 2 ^ i ≤ 2 ^ (i + n)
  | 0, i, c, j, h => by
    refine ⟨?_, ?_⟩
    · show 0 / _ % 2 = 0
      rw [Nat.zero_div]
    · exact Nat.le_of_eq (Nat.zero_add _)
  | n + 1, i, c, j, h => by
    have a := (mpd_hi (al := al) (w := w) n (i + 1) (c + 1) (i + 1 + n) (Nat.le_refl _)).2
    have b := (mpd_hi (al := al) (w := w) n (i + 1) c (i + 1 + n) (Nat.le_refl _)).2
    have e : 2 ^ (i + 1) = 2 ^ i + 2 ^ i := by rw [Nat.pow_succ]; omega
    rw [show i + 1 + n = i + (n + 1) by omega] at a b
    have p := Nat.two_pow_pos i
    have k : mpd al w (n + 1) i c + 2 ^ i ≤ 2 ^ (i + (n + 1)) := by
      by_cases hf : al / 2 ^ i % 2 = 1
      · rw [mpd_t hf]
        split <;> omega
      · rw [mpd_n hf]; omega
    refine ⟨?_, k⟩
    have l : 2 ^ (i + (n + 1)) ≤ 2 ^ j := Nat.pow_le_pow_right (by decide) h
    rw [Nat.div_eq_of_lt (by omega)]
theorem mset_hi {D : fSD} {S : Nat → Nat} {w f : Nat} (h : mset D S w = some f) : (∀ j, dT D 1 ≤ j → f / 2 ^ j % 2 = 0) ∧ f < 2 ^ dT D 1 := by
  unfold mset at h
  split at h
  · cases h
    refine ⟨fun j hj => (mpd_hi (dT D 1) 0 0 j (by omega)).1, ?_⟩
    have := (mpd_hi (al := mbits D S) (w := w) (dT D 1) 0 0 _ (Nat.le_refl _)).2
    rw [Nat.zero_add] at this
    have e : (2 : Nat) ^ 0 = 1 := rfl
    omega
  · cases h
theorem mbn_le {D : fSD} {S : Nat → Nat} (hD : fWD D) (hW : fWS D S) (hC : fWC D S) (hn : S 155 < 30) : mbn D S ≤ 512 * 891 := by
  unfold mbn
  obtain ⟨e1, v, hv⟩ := mfo_0 (S := S) (G := mG D (lf0 D (S 151)) S) hD
  rw [← e1, hv]
  refine mfo_le (M := 512 * 891) 8 0 none 0 (fun j f h1 h2 hf => ?_) (fun v q => by cases q) v hv
  exact mG_le hD hW hC hn (mset_hi hf).1 (mset_e hD (by omega) hf).2.2.1 (fun S' hR => by
    have := mend_p hD hR.1 hR.2.1
    unfold lf0
    rw [hR.2.2.2.1] at this
    omega)
theorem lf1_le {D : fSD} {S S' : Nat → Nat} (hD : fWD D) (hn : S 155 < 30) (hR : mR D S S') : lf1 D (S 151) S' ≤ 512 * 891 + 512 * 891 := by
  have := mend_p hD hR.1 hR.2.1
  have w := fWS_end hD hR.1 hR.2.1 (by rw [hR.2.2.1]; exact hn)
  rw [hR.2.2.2.1] at this
  unfold lf1
  split
  · omega
  · have b := mbn_le hD w.1 w.2.1 (by have := w.1.2.2.2.2; omega)
    omega
theorem mft_le {D : fSD} {S : Nat → Nat} (hD : fWD D) (hW : fWS D S) (hC : fWC D S) (hn : S 155 < 30) : ∀ v, (mft D S).1 = some v → v ≤ 512 * (512 * 891 + 512 * 891) := fun v hv =>
  mfo_le 8 0 none 0 (fun j f h1 h2 hf => mG_le hD hW hC hn (mset_hi hf).1 (mset_e hD (by omega) hf).2.2.1 (fun S' hR => lf1_le hD hn hR)) (fun v q => by cases q) v hv
/-- nothing can be paid -/
theorem mbn_no {D : fSD} {S : Nat → Nat} (hD : fWD D) (hW : fWS D S) (hC : fWC D S) (hn : S 155 < 30) (hm : mmp D S = false) : mbn D S = 0 := by
  unfold mbn
  obtain ⟨e1, v, hv⟩ := mfo_0 (S := S) (G := mG D (lf0 D (S 151)) S) hD
  rw [← e1, hv]
  have := mfo_le (M := 0) 8 0 none 0 (fun j f h1 h2 hf => by
    have := mG_le (lf := lf0 D (S 151)) (B := 0) hD hW hC hn (mset_hi hf).1 (mset_e hD (by omega) hf).2.2.1 (fun S' hR => by
      unfold lf0
      rw [mpay_no hm hR, hR.2.2.2.1]
      omega)
    omega) (fun v q => by cases q) v hv
  show v = 0
  omega
/-- what the class finds for the night behind the first -/
def cM1 (D : fSD) (S : Nat → Nat) : Nat := if S 155 = 30 then 0 else 64 * mbn D S
theorem cM1_e {D : fSD} {S : Nat → Nat} (hD : fWD D) : ∃ s, mfo (cF D S) (cSum D (lf0 D (S 151)) S) (2 ^ mon (m3 (mbits D S)) 12 0) 0 none 0 = (some (64 * mbn D S), s) := by
  obtain ⟨e1, v, hv⟩ := mfo_0 (S := S) (G := mG D (lf0 D (S 151)) S) hD
  rw [cm_e hD, hv]
  have e2 : mbn D S = v := by
    unfold mbn
    rw [← e1, hv]
    rfl
  exact ⟨_, by rw [e2]; rfl⟩
def lf2 (D : fSD) (a : Nat) (S : Nat → Nat) : Nat := (mend D S 151 - a) * 32768 + cM1 D (mend D S)
theorem lf2_e {D : fSD} {a : Nat} : lf2 D a = fun S => 64 * lf1 D a S := by
  funext S
  unfold lf2 lf1 cM1
  split <;> omega
theorem cM2_e {D : fSD} {S : Nat → Nat} (hD : fWD D) : mfo (cF D S) (cSum D (lf2 D (S 151)) S) (2 ^ mon (m3 (mbits D S)) 12 0) 0 none 0 = ((mft D S).1.map (4096 * ·), (mft D S).2) := by
  rw [cm_e hD, lf2_e]
  have e : mG D (fun S' => 64 * lf1 D (S 151) S') S = fun f => 64 * mG D (lf1 D (S 151)) S f := by
    funext f
    unfold mG
    rw [mby_mul, Nat.mul_assoc]
  rw [e]
  have := mfo_mul (F := mset D S) (G := mG D (lf1 D (S 151)) S) (x := 64) (by decide) 8 0 none 0
  rw [show (Option.map (fun x => 64 * x) none : Option Nat) = none from rfl] at this
  rw [this]
  unfold mft
  rw [Option.map_map]
  congr 2
  funext x
  show 64 * (64 * x) = 4096 * x
  omega
theorem mft_some {D : fSD} {S : Nat → Nat} (hD : fWD D) : ∃ v, (mft D S).1 = some v := (mfo_0 (S := S) (G := mG D (lf1 D (S 151)) S) hD).2
