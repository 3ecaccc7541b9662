theorem dput_s (f : Nat → Nat → Nat) (i : Nat) (r : Nat → Nat) (b : Nat) : dput f i r i b = r b := if_pos rfl
theorem dput_n (f : Nat → Nat → Nat) {i a : Nat} (r : Nat → Nat) (b : Nat) (h : a ≠ i) : dput f i r a b = f a b := if_neg h
theorem msum_cg {f h : Nat → Nat} : ∀ n, (∀ i, i < n → f i = h i) → msum f n = msum h n
  | 0, _ => rfl
  | n + 1, e => by
    show msum f n + f n = msum h n + h n
    rw [msum_cg n (fun i hi => e i (by omega)), e n (by omega)]
theorem mall_AZ (D : fSD) (r : Nat → Nat) (t : Nat) : mall (dAZ D r) t = mall D t + if r 0 = t then r 2 else 0 := by
  show msum _ (dT D 6) + _ = _
  refine congr (congrArg _ (msum_cg _ (fun i hi => ?_))) ?_
  · show (if dput (dZ D) (dT D 6) r i 0 = t then dput (dZ D) (dT D 6) r i 2 else 0) = _
    rw [dput_n _ _ _ (by omega), dput_n _ _ _ (by omega)]
  · show (if dput (dZ D) (dT D 6) r (dT D 6) 0 = t then dput (dZ D) (dT D 6) r (dT D 6) 2 else 0) = _
    rw [dput_s, dput_s]
theorem mpart_AZ (D : fSD) (r : Nat → Nat) (t c : Nat) : mpart (dAZ D r) t c = mpart D t c + if r 0 = t ∧ r 1 = c then r 2 else 0 := by
  show msum _ (dT D 6) + _ = _
  refine congr (congrArg _ (msum_cg _ (fun i hi => ?_))) ?_
  · show (if dput (dZ D) (dT D 6) r i 0 = t ∧ dput (dZ D) (dT D 6) r i 1 = c then dput (dZ D) (dT D 6) r i 2 else 0) = _
    rw [dput_n _ _ _ (by omega), dput_n _ _ _ (by omega), dput_n _ _ _ (by omega)]
  · show (if dput (dZ D) (dT D 6) r (dT D 6) 0 = t ∧ dput (dZ D) (dT D 6) r (dT D 6) 1 = c then dput (dZ D) (dT D 6) r (dT D 6) 2 else 0) = _
    rw [dput_s, dput_s, dput_s]
set_option maxRecDepth 20000 in
theorem fGr.AB {σ : fAH} {D : fSD} {a b c : Nat} (h : fGr σ 9 D)  : fGr (fsI (fsI (fsI (fsI σ 10 (dT D 0 * 3) (nI a)) 10 (dT D 0 * 3 + 1) (nI b)) 10 (dT D 0 * 3 + 2) (nI c)) 9 5 (nI (dT D 0 + 1))) 9 (dAB D (mr3 a b c)) := by
  refine ⟨⟨?_, ?_, ?_, ?_, ?_, ?_, ?_⟩, ?_, ?_, ?_, ?_, ?_⟩
  · rw [fI_I, if_pos ⟨rfl, rfl⟩]; rfl
  · rw [fI_I, if_neg (by omega), fI_I, if_neg (by omega), fI_I, if_neg (by omega), fI_I, if_neg (by omega)]; exact h.1.2.1
  · rw [fI_I, if_neg (by omega), fI_I, if_neg (by omega), fI_I, if_neg (by omega), fI_I, if_neg (by omega)]; exact h.1.2.2.1
  · rw [fI_I, if_neg (by omega), fI_I, if_neg (by omega), fI_I, if_neg (by omega), fI_I, if_neg (by omega)]; exact h.1.2.2.2.1
  · rw [fI_I, if_neg (by omega), fI_I, if_neg (by omega), fI_I, if_neg (by omega), fI_I, if_neg (by omega)]; exact h.1.2.2.2.2.1
  · rw [fI_I, if_neg (by omega), fI_I, if_neg (by omega), fI_I, if_neg (by omega), fI_I, if_neg (by omega)]; exact h.1.2.2.2.2.2.1
  · rw [fI_I, if_neg (by omega), fI_I, if_neg (by omega), fI_I, if_neg (by omega), fI_I, if_neg (by omega)]; exact h.1.2.2.2.2.2.2
  · intro x hx y hy
    have hx : x < dT D 0 + 1 := hx
    show _ = nI (dput (dB D) (dT D 0) (mr3 a b c) x y)
    by_cases e : x = dT D 0
    · rw [e, dput_s]
      rcases (show y = 0 ∨ y = 1 ∨ y = 2 by omega) with rfl | rfl | rfl
      · rw [fI_I, if_neg (by omega), fI_I, if_neg (by omega), fI_I, if_neg (by omega), fI_I, if_pos ⟨rfl, rfl⟩]; rfl
      · rw [fI_I, if_neg (by omega), fI_I, if_neg (by omega), fI_I, if_pos ⟨rfl, rfl⟩]; rfl
      · rw [fI_I, if_neg (by omega), fI_I, if_pos ⟨rfl, rfl⟩]; rfl
    · rw [dput_n _ _ _ e, fI_I, if_neg (by omega), fI_I, if_neg (by omega), fI_I, if_neg (by omega), fI_I, if_neg (by omega)]; exact h.2.1 x (by omega) y hy
  · intro x hx y hy; rw [fI_I, if_neg (by omega), fI_I, if_neg (by omega), fI_I, if_neg (by omega), fI_I, if_neg (by omega)]; exact h.2.2.1 x hx y hy
  · intro x hx y hy; rw [fI_I, if_neg (by omega), fI_I, if_neg (by omega), fI_I, if_neg (by omega), fI_I, if_neg (by omega)]; exact h.2.2.2.1 x hx y hy
  · intro x hx y hy; rw [fI_I, if_neg (by omega), fI_I, if_neg (by omega), fI_I, if_neg (by omega), fI_I, if_neg (by omega)]; exact h.2.2.2.2.1 x hx y hy
  · intro x hx; refine ⟨?_, fun y h1 h2 => ?_⟩
    · rw [fI_I, if_neg (by omega), fI_I, if_neg (by omega), fI_I, if_neg (by omega), fI_I, if_neg (by omega)]; exact (h.2.2.2.2.2 x hx).1
    · rw [fI_I, if_neg (by omega), fI_I, if_neg (by omega), fI_I, if_neg (by omega), fI_I, if_neg (by omega)]; exact (h.2.2.2.2.2 x hx).2 y h1 h2
set_option maxRecDepth 20000 in
theorem fGr.AS {σ : fAH} {D : fSD} {a b c x4 x5 : Nat} (h : fGr σ 9 D)  : fGr (fsI (fsI (fsI (fsI (fsI (fsI σ 11 (dT D 1 * 5) (nI a)) 11 (dT D 1 * 5 + 1) (nI b)) 11 (dT D 1 * 5 + 2) (nI c)) 11 (dT D 1 * 5 + 3) (nI x4)) 11 (dT D 1 * 5 + 4) (nI x5)) 9 6 (nI (dT D 1 + 1))) 9 (dAS D (mr5 a b c x4 x5)) := by
  refine ⟨⟨?_, ?_, ?_, ?_, ?_, ?_, ?_⟩, ?_, ?_, ?_, ?_, ?_⟩
  · rw [fI_I, if_neg (by omega), fI_I, if_neg (by omega), fI_I, if_neg (by omega), fI_I, if_neg (by omega), fI_I, if_neg (by omega), fI_I, if_neg (by omega)]; exact h.1.1
  · rw [fI_I, if_pos ⟨rfl, rfl⟩]; rfl
  · rw [fI_I, if_neg (by omega), fI_I, if_neg (by omega), fI_I, if_neg (by omega), fI_I, if_neg (by omega), fI_I, if_neg (by omega), fI_I, if_neg (by omega)]; exact h.1.2.2.1
  · rw [fI_I, if_neg (by omega), fI_I, if_neg (by omega), fI_I, if_neg (by omega), fI_I, if_neg (by omega), fI_I, if_neg (by omega), fI_I, if_neg (by omega)]; exact h.1.2.2.2.1
  · rw [fI_I, if_neg (by omega), fI_I, if_neg (by omega), fI_I, if_neg (by omega), fI_I, if_neg (by omega), fI_I, if_neg (by omega), fI_I, if_neg (by omega)]; exact h.1.2.2.2.2.1
  · rw [fI_I, if_neg (by omega), fI_I, if_neg (by omega), fI_I, if_neg (by omega), fI_I, if_neg (by omega), fI_I, if_neg (by omega), fI_I, if_neg (by omega)]; exact h.1.2.2.2.2.2.1
  · rw [fI_I, if_neg (by omega), fI_I, if_neg (by omega), fI_I, if_neg (by omega), fI_I, if_neg (by omega), fI_I, if_neg (by omega), fI_I, if_neg (by omega)]; exact h.1.2.2.2.2.2.2
  · intro x hx y hy; rw [fI_I, if_neg (by omega), fI_I, if_neg (by omega), fI_I, if_neg (by omega), fI_I, if_neg (by omega), fI_I, if_neg (by omega), fI_I, if_neg (by omega)]; exact h.2.1 x hx y hy
  · intro x hx y hy
    have hx : x < dT D 1 + 1 := hx
    show _ = nI (dput (dS D) (dT D 1) (mr5 a b c x4 x5) x y)
    by_cases e : x = dT D 1
    · rw [e, dput_s]
      rcases (show y = 0 ∨ y = 1 ∨ y = 2 ∨ y = 3 ∨ y = 4 by omega) with rfl | rfl | rfl | rfl | rfl
      · rw [fI_I, if_neg (by omega), fI_I, if_neg (by omega), fI_I, if_neg (by omega), fI_I, if_neg (by omega), fI_I, if_neg (by omega), fI_I, if_pos ⟨rfl, rfl⟩]; rfl
      · rw [fI_I, if_neg (by omega), fI_I, if_neg (by omega), fI_I, if_neg (by omega), fI_I, if_neg (by omega), fI_I, if_pos ⟨rfl, rfl⟩]; rfl
      · rw [fI_I, if_neg (by omega), fI_I, if_neg (by omega), fI_I, if_neg (by omega), fI_I, if_pos ⟨rfl, rfl⟩]; rfl
      · rw [fI_I, if_neg (by omega), fI_I, if_neg (by omega), fI_I, if_pos ⟨rfl, rfl⟩]; rfl
      · rw [fI_I, if_neg (by omega), fI_I, if_pos ⟨rfl, rfl⟩]; rfl
    · rw [dput_n _ _ _ e, fI_I, if_neg (by omega), fI_I, if_neg (by omega), fI_I, if_neg (by omega), fI_I, if_neg (by omega), fI_I, if_neg (by omega), fI_I, if_neg (by omega)]; exact h.2.2.1 x (by omega) y hy
  · intro x hx y hy; rw [fI_I, if_neg (by omega), fI_I, if_neg (by omega), fI_I, if_neg (by omega), fI_I, if_neg (by omega), fI_I, if_neg (by omega), fI_I, if_neg (by omega)]; exact h.2.2.2.1 x hx y hy
  · intro x hx y hy; rw [fI_I, if_neg (by omega), fI_I, if_neg (by omega), fI_I, if_neg (by omega), fI_I, if_neg (by omega), fI_I, if_neg (by omega), fI_I, if_neg (by omega)]; exact h.2.2.2.2.1 x hx y hy
  · intro x hx; refine ⟨?_, fun y h1 h2 => ?_⟩
    · rw [fI_I, if_neg (by omega), fI_I, if_neg (by omega), fI_I, if_neg (by omega), fI_I, if_neg (by omega), fI_I, if_neg (by omega), fI_I, if_neg (by omega)]; exact (h.2.2.2.2.2 x hx).1
    · rw [fI_I, if_neg (by omega), fI_I, if_neg (by omega), fI_I, if_neg (by omega), fI_I, if_neg (by omega), fI_I, if_neg (by omega), fI_I, if_neg (by omega)]; exact (h.2.2.2.2.2 x hx).2 y h1 h2
set_option maxRecDepth 20000 in
theorem fGr.AO {σ : fAH} {D : fSD} {a b c x4 x5 : Nat} (h : fGr σ 9 D)  : fGr (fsI (fsI (fsI (fsI (fsI (fsI σ 12 (dT D 2 * 5) (nI a)) 12 (dT D 2 * 5 + 1) (nI b)) 12 (dT D 2 * 5 + 2) (nI c)) 12 (dT D 2 * 5 + 3) (nI x4)) 12 (dT D 2 * 5 + 4) (nI x5)) 9 7 (nI (dT D 2 + 1))) 9 (dAO D (mr5 a b c x4 x5)) := by
  refine ⟨⟨?_, ?_, ?_, ?_, ?_, ?_, ?_⟩, ?_, ?_, ?_, ?_, ?_⟩
  · rw [fI_I, if_neg (by omega), fI_I, if_neg (by omega), fI_I, if_neg (by omega), fI_I, if_neg (by omega), fI_I, if_neg (by omega), fI_I, if_neg (by omega)]; exact h.1.1
  · rw [fI_I, if_neg (by omega), fI_I, if_neg (by omega), fI_I, if_neg (by omega), fI_I, if_neg (by omega), fI_I, if_neg (by omega), fI_I, if_neg (by omega)]; exact h.1.2.1
  · rw [fI_I, if_pos ⟨rfl, rfl⟩]; rfl
  · rw [fI_I, if_neg (by omega), fI_I, if_neg (by omega), fI_I, if_neg (by omega), fI_I, if_neg (by omega), fI_I, if_neg (by omega), fI_I, if_neg (by omega)]; exact h.1.2.2.2.1
  · rw [fI_I, if_neg (by omega), fI_I, if_neg (by omega), fI_I, if_neg (by omega), fI_I, if_neg (by omega), fI_I, if_neg (by omega), fI_I, if_neg (by omega)]; exact h.1.2.2.2.2.1
  · rw [fI_I, if_neg (by omega), fI_I, if_neg (by omega), fI_I, if_neg (by omega), fI_I, if_neg (by omega), fI_I, if_neg (by omega), fI_I, if_neg (by omega)]; exact h.1.2.2.2.2.2.1
  · rw [fI_I, if_neg (by omega), fI_I, if_neg (by omega), fI_I, if_neg (by omega), fI_I, if_neg (by omega), fI_I, if_neg (by omega), fI_I, if_neg (by omega)]; exact h.1.2.2.2.2.2.2
  · intro x hx y hy; rw [fI_I, if_neg (by omega), fI_I, if_neg (by omega), fI_I, if_neg (by omega), fI_I, if_neg (by omega), fI_I, if_neg (by omega), fI_I, if_neg (by omega)]; exact h.2.1 x hx y hy
  · intro x hx y hy; rw [fI_I, if_neg (by omega), fI_I, if_neg (by omega), fI_I, if_neg (by omega), fI_I, if_neg (by omega), fI_I, if_neg (by omega), fI_I, if_neg (by omega)]; exact h.2.2.1 x hx y hy
  · intro x hx y hy
    have hx : x < dT D 2 + 1 := hx
    show _ = nI (dput (dO D) (dT D 2) (mr5 a b c x4 x5) x y)
    by_cases e : x = dT D 2
    · rw [e, dput_s]
      rcases (show y = 0 ∨ y = 1 ∨ y = 2 ∨ y = 3 ∨ y = 4 by omega) with rfl | rfl | rfl | rfl | rfl
      · rw [fI_I, if_neg (by omega), fI_I, if_neg (by omega), fI_I, if_neg (by omega), fI_I, if_neg (by omega), fI_I, if_neg (by omega), fI_I, if_pos ⟨rfl, rfl⟩]; rfl
      · rw [fI_I, if_neg (by omega), fI_I, if_neg (by omega), fI_I, if_neg (by omega), fI_I, if_neg (by omega), fI_I, if_pos ⟨rfl, rfl⟩]; rfl
      · rw [fI_I, if_neg (by omega), fI_I, if_neg (by omega), fI_I, if_neg (by omega), fI_I, if_pos ⟨rfl, rfl⟩]; rfl
      · rw [fI_I, if_neg (by omega), fI_I, if_neg (by omega), fI_I, if_pos ⟨rfl, rfl⟩]; rfl
      · rw [fI_I, if_neg (by omega), fI_I, if_pos ⟨rfl, rfl⟩]; rfl
    · rw [dput_n _ _ _ e, fI_I, if_neg (by omega), fI_I, if_neg (by omega), fI_I, if_neg (by omega), fI_I, if_neg (by omega), fI_I, if_neg (by omega), fI_I, if_neg (by omega)]; exact h.2.2.2.1 x (by omega) y hy
  · intro x hx y hy; rw [fI_I, if_neg (by omega), fI_I, if_neg (by omega), fI_I, if_neg (by omega), fI_I, if_neg (by omega), fI_I, if_neg (by omega), fI_I, if_neg (by omega)]; exact h.2.2.2.2.1 x hx y hy
  · intro x hx; refine ⟨?_, fun y h1 h2 => ?_⟩
    · rw [fI_I, if_neg (by omega), fI_I, if_neg (by omega), fI_I, if_neg (by omega), fI_I, if_neg (by omega), fI_I, if_neg (by omega), fI_I, if_neg (by omega)]; exact (h.2.2.2.2.2 x hx).1
    · rw [fI_I, if_neg (by omega), fI_I, if_neg (by omega), fI_I, if_neg (by omega), fI_I, if_neg (by omega), fI_I, if_neg (by omega), fI_I, if_neg (by omega)]; exact (h.2.2.2.2.2 x hx).2 y h1 h2
set_option maxRecDepth 20000 in
theorem fGr.AZ {σ : fAH} {D : fSD} {a b c : Nat} (h : fGr σ 9 D) (ha : a < 30) (hb : 1 ≤ b ∧ b < 10)  : fGr (fsI (fsI (fsI (fsI (fsI (fsI σ 13 (dT D 6 * 3) (nI a)) 13 (dT D 6 * 3 + 1) (nI b)) 13 (dT D 6 * 3 + 2) (nI c)) 9 8 (nI (dT D 6 + 1))) 14 (a * 10 + b) (nI (mpart D a b + c))) 14 (a * 10) (nI (8 - mall D a - c))) 9 (dAZ D (mr3 a b c)) := by
  refine ⟨⟨?_, ?_, ?_, ?_, ?_, ?_, ?_⟩, ?_, ?_, ?_, ?_, ?_⟩
  · rw [fI_I, if_neg (by omega), fI_I, if_neg (by omega), fI_I, if_neg (by omega), fI_I, if_neg (by omega), fI_I, if_neg (by omega), fI_I, if_neg (by omega)]; exact h.1.1
  · rw [fI_I, if_neg (by omega), fI_I, if_neg (by omega), fI_I, if_neg (by omega), fI_I, if_neg (by omega), fI_I, if_neg (by omega), fI_I, if_neg (by omega)]; exact h.1.2.1
  · rw [fI_I, if_neg (by omega), fI_I, if_neg (by omega), fI_I, if_neg (by omega), fI_I, if_neg (by omega), fI_I, if_neg (by omega), fI_I, if_neg (by omega)]; exact h.1.2.2.1
  · rw [fI_I, if_neg (by omega), fI_I, if_neg (by omega), fI_I, if_pos ⟨rfl, rfl⟩]; rfl
  · rw [fI_I, if_neg (by omega), fI_I, if_neg (by omega), fI_I, if_neg (by omega), fI_I, if_neg (by omega), fI_I, if_neg (by omega), fI_I, if_neg (by omega)]; exact h.1.2.2.2.2.1
  · rw [fI_I, if_neg (by omega), fI_I, if_neg (by omega), fI_I, if_neg (by omega), fI_I, if_neg (by omega), fI_I, if_neg (by omega), fI_I, if_neg (by omega)]; exact h.1.2.2.2.2.2.1
  · rw [fI_I, if_neg (by omega), fI_I, if_neg (by omega), fI_I, if_neg (by omega), fI_I, if_neg (by omega), fI_I, if_neg (by omega), fI_I, if_neg (by omega)]; exact h.1.2.2.2.2.2.2
  · intro x hx y hy; rw [fI_I, if_neg (by omega), fI_I, if_neg (by omega), fI_I, if_neg (by omega), fI_I, if_neg (by omega), fI_I, if_neg (by omega), fI_I, if_neg (by omega)]; exact h.2.1 x hx y hy
  · intro x hx y hy; rw [fI_I, if_neg (by omega), fI_I, if_neg (by omega), fI_I, if_neg (by omega), fI_I, if_neg (by omega), fI_I, if_neg (by omega), fI_I, if_neg (by omega)]; exact h.2.2.1 x hx y hy
  · intro x hx y hy; rw [fI_I, if_neg (by omega), fI_I, if_neg (by omega), fI_I, if_neg (by omega), fI_I, if_neg (by omega), fI_I, if_neg (by omega), fI_I, if_neg (by omega)]; exact h.2.2.2.1 x hx y hy
  · intro x hx y hy
    have hx : x < dT D 6 + 1 := hx
    show _ = nI (dput (dZ D) (dT D 6) (mr3 a b c) x y)
    by_cases e : x = dT D 6
    · rw [e, dput_s]
      rcases (show y = 0 ∨ y = 1 ∨ y = 2 by omega) with rfl | rfl | rfl
      · rw [fI_I, if_neg (by omega), fI_I, if_neg (by omega), fI_I, if_neg (by omega), fI_I, if_neg (by omega), fI_I, if_neg (by omega), fI_I, if_pos ⟨rfl, rfl⟩]; rfl
      · rw [fI_I, if_neg (by omega), fI_I, if_neg (by omega), fI_I, if_neg (by omega), fI_I, if_neg (by omega), fI_I, if_pos ⟨rfl, rfl⟩]; rfl
      · rw [fI_I, if_neg (by omega), fI_I, if_neg (by omega), fI_I, if_neg (by omega), fI_I, if_pos ⟨rfl, rfl⟩]; rfl
    · rw [dput_n _ _ _ e, fI_I, if_neg (by omega), fI_I, if_neg (by omega), fI_I, if_neg (by omega), fI_I, if_neg (by omega), fI_I, if_neg (by omega), fI_I, if_neg (by omega)]; exact h.2.2.2.2.1 x (by omega) y hy
  · intro x hx; refine ⟨?_, fun y h1 h2 => ?_⟩
    · rw [mall_AZ]
      show _ = nI (8 - (mall D x + if a = x then c else 0))
      by_cases e : x = a
      · subst e; rw [fI_I, if_pos ⟨rfl, rfl⟩, if_pos rfl, Nat.sub_sub]
      · rw [if_neg (fun q => e q.symm), fI_I, if_neg (by omega), fI_I, if_neg (by omega), fI_I, if_neg (by omega), fI_I, if_neg (by omega), fI_I, if_neg (by omega), fI_I, if_neg (by omega)]; exact (h.2.2.2.2.2 x hx).1
    · rw [mpart_AZ]
      show _ = nI (mpart D x y + if a = x ∧ b = y then c else 0)
      by_cases e : x = a ∧ y = b
      · obtain ⟨rfl, rfl⟩ := e; rw [fI_I, if_neg (by omega), fI_I, if_pos ⟨rfl, rfl⟩, if_pos ⟨rfl, rfl⟩]
      · rw [if_neg (fun q => e ⟨q.1.symm, q.2.symm⟩), fI_I, if_neg (by omega), fI_I, if_neg (by omega), fI_I, if_neg (by omega), fI_I, if_neg (by omega), fI_I, if_neg (by omega), fI_I, if_neg (by omega)]; exact (h.2.2.2.2.2 x hx).2 y h1 h2
set_option maxRecDepth 20000 in
theorem t_X3_addBlock {g : fGP} {d : Nat} {σ : fAH} {Q : fRes → fAH → Prop} {D : fSD} {a b c : Nat} (Ms : fMs g σ) (Gr : fGr σ 9 D) (hl : dT D 0 < 6) (h : ∀ σ', fSm (fun a => 9 ≤ a ∧ a < 15) σ σ' → fGr σ' 9 (dAB D (mr3 a b c)) → Q (.inl none) σ') : fEv g d mX3_addBlock 0 (fent [.ref 9, .int (nI a), .int (nI b), .int (nI c)] 5) [] σ Q := by
  show fEv g d mX3_addBlock 0 [some (.ref 9), some (.int (nI a)), some (.int (nI b)), some (.int (nI c)), none] [] σ Q
  refine e_aload_n dX3_addBlock_0 rfl rfl ?_
  refine e_getI dX3_addBlock_1 fl_RX3_30 (Ms.s 9 rfl) (Ms.n (by decide)) rfl ?_
  refine e_int (nI (dT D 0)) Gr.1.1 ?_
  refine e_bipush (nI 6) dX3_addBlock_4 (by decide) ?_
  refine e_icmp_ge 57 dX3_addBlock_6 (by decide) (fun c => absurd ((nI_le' (by omega) (by omega)).mp c) (by omega)) (fun _ => ?_)
  refine e_aload_n dX3_addBlock_9 rfl rfl ?_
  refine e_getI dX3_addBlock_10 fl_RX3_30 (Ms.s 9 rfl) (Ms.n (by decide)) rfl ?_
  refine e_int (nI (dT D 0)) Gr.1.1 ?_
  refine e_iconst (nI 3) dX3_addBlock_13 (by decide) ?_
  refine e_imul dX3_addBlock_14 ?_
  refine e_int (nI ((dT D 0) * 3)) (pk_mul (dT D 0) 3) ?_
  refine e_istore (L1 := [some (.ref 9), some (.int (nI a)), some (.int (nI b)), some (.int (nI c)), some (.int (nI ((dT D 0) * 3)))]) dX3_addBlock_15 (by decide) rfl ?_
  refine e_aload_n dX3_addBlock_17 rfl rfl ?_
  refine e_getR (q := 10) dX3_addBlock_18 fl_RX3_9 (Ms.s 9 rfl) (Ms.n (by decide)) rfl (Ms.r 9 0 rfl) (by unfold fscr; omega) ?_
  refine e_iload dX3_addBlock_21 rfl ?_
  refine e_iconst (nI 0) dX3_addBlock_23 (by decide) ?_
  refine e_iadd dX3_addBlock_24 ?_
  refine e_int (nI ((dT D 0) * 3)) (nI_add ((dT D 0) * 3) 0) ?_
  refine e_iload_n dX3_addBlock_25 rfl rfl ?_
  refine e_iastore ((dT D 0) * 3) dX3_addBlock_26 (Ms.s 10 rfl) (Ms.n (by decide)) rfl (by omega) (by decide) ?_
  refine e_aload_n dX3_addBlock_27 rfl rfl ?_
  refine e_getR (q := 10) dX3_addBlock_28 fl_RX3_9 (Ms.s 9 rfl) (Ms.n (by decide)) rfl (Ms.r 9 0 rfl) (by unfold fscr; omega) ?_
  refine e_iload dX3_addBlock_31 rfl ?_
  refine e_iconst (nI 1) dX3_addBlock_33 (by decide) ?_
  refine e_iadd dX3_addBlock_34 ?_
  refine e_int (nI ((dT D 0) * 3 + 1)) (nI_add ((dT D 0) * 3) 1) ?_
  refine e_iload_n dX3_addBlock_35 rfl rfl ?_
  refine e_iastore ((dT D 0) * 3 + 1) dX3_addBlock_36 (Ms.s 10 rfl) (Ms.n (by decide)) rfl (by omega) (by decide) ?_
  refine e_aload_n dX3_addBlock_37 rfl rfl ?_
  refine e_getR (q := 10) dX3_addBlock_38 fl_RX3_9 (Ms.s 9 rfl) (Ms.n (by decide)) rfl (Ms.r 9 0 rfl) (by unfold fscr; omega) ?_
  refine e_iload dX3_addBlock_41 rfl ?_
  refine e_iconst (nI 2) dX3_addBlock_43 (by decide) ?_
  refine e_iadd dX3_addBlock_44 ?_
  refine e_int (nI ((dT D 0) * 3 + 2)) (nI_add ((dT D 0) * 3) 2) ?_
  refine e_iload_n dX3_addBlock_45 rfl rfl ?_
  refine e_iastore ((dT D 0) * 3 + 2) dX3_addBlock_46 (Ms.s 10 rfl) (Ms.n (by decide)) rfl (by omega) (by decide) ?_
  refine e_aload_n dX3_addBlock_47 rfl rfl ?_
  refine e_dup dX3_addBlock_48 rfl ?_
  refine e_getI dX3_addBlock_49 fl_RX3_30 (Ms.s 9 rfl) (Ms.n (by decide)) rfl ?_
  refine e_int (nI (dT D 0)) (by rw [fI_I, if_neg (by omega), fI_I, if_neg (by omega), fI_I, if_neg (by omega)]; exact Gr.1.1) ?_
  refine e_iconst (nI 1) dX3_addBlock_52 (by decide) ?_
  refine e_iadd dX3_addBlock_53 ?_
  refine e_int (nI (dT D 0 + 1)) (nI_add (dT D 0) 1) ?_
  refine e_putI dX3_addBlock_54 fl_RX3_30 (Ms.s 9 rfl) (Ms.n (by decide)) rfl rfl ?_
  exact e_return dX3_addBlock_57 rfl (h _ ((((fSm_I (A := fun a => 9 ≤ a ∧ a < 15) (by omega)).tr (fSm_I (A := fun a => 9 ≤ a ∧ a < 15) (by omega))).tr (fSm_I (A := fun a => 9 ≤ a ∧ a < 15) (by omega))).tr (fSm_I (A := fun a => 9 ≤ a ∧ a < 15) (by omega))) (Gr.AB))
set_option maxRecDepth 20000 in
theorem t_X3_addSlot {g : fGP} {d : Nat} {σ : fAH} {Q : fRes → fAH → Prop} {D : fSD} {a b c x4 x5 : Nat} (Ms : fMs g σ) (Gr : fGr σ 9 D) (hl : dT D 1 < 12) (h : ∀ σ', fSm (fun a => 9 ≤ a ∧ a < 15) σ σ' → fGr σ' 9 (dAS D (mr5 a b c x4 x5)) → Q (.inl none) σ') : fEv g d mX3_addSlot 0 (fent [.ref 9, .int (nI a), .int (nI b), .int (nI c), .int (nI x4), .int (nI x5)] 7) [] σ Q := by
  show fEv g d mX3_addSlot 0 [some (.ref 9), some (.int (nI a)), some (.int (nI b)), some (.int (nI c)), some (.int (nI x4)), some (.int (nI x5)), none] [] σ Q
  refine e_aload_n dX3_addSlot_0 rfl rfl ?_
  refine e_getI dX3_addSlot_1 fl_RX3_34 (Ms.s 9 rfl) (Ms.n (by decide)) rfl ?_
  refine e_int (nI (dT D 1)) Gr.1.2.1 ?_
  refine e_bipush (nI 12) dX3_addSlot_4 (by decide) ?_
  refine e_icmp_ge 79 dX3_addSlot_6 (by decide) (fun c => absurd ((nI_le' (by omega) (by omega)).mp c) (by omega)) (fun _ => ?_)
  refine e_aload_n dX3_addSlot_9 rfl rfl ?_
  refine e_getI dX3_addSlot_10 fl_RX3_34 (Ms.s 9 rfl) (Ms.n (by decide)) rfl ?_
  refine e_int (nI (dT D 1)) Gr.1.2.1 ?_
  refine e_iconst (nI 5) dX3_addSlot_13 (by decide) ?_
  refine e_imul dX3_addSlot_14 ?_
  refine e_int (nI ((dT D 1) * 5)) (pk_mul (dT D 1) 5) ?_
  refine e_istore (L1 := [some (.ref 9), some (.int (nI a)), some (.int (nI b)), some (.int (nI c)), some (.int (nI x4)), some (.int (nI x5)), some (.int (nI ((dT D 1) * 5)))]) dX3_addSlot_15 (by decide) rfl ?_
  refine e_aload_n dX3_addSlot_17 rfl rfl ?_
  refine e_getR (q := 11) dX3_addSlot_18 fl_RX3_15 (Ms.s 9 rfl) (Ms.n (by decide)) rfl (Ms.r 9 1 rfl) (by unfold fscr; omega) ?_
  refine e_iload dX3_addSlot_21 rfl ?_
  refine e_iconst (nI 0) dX3_addSlot_23 (by decide) ?_
  refine e_iadd dX3_addSlot_24 ?_
  refine e_int (nI ((dT D 1) * 5)) (nI_add ((dT D 1) * 5) 0) ?_
  refine e_iload_n dX3_addSlot_25 rfl rfl ?_
  refine e_iastore ((dT D 1) * 5) dX3_addSlot_26 (Ms.s 11 rfl) (Ms.n (by decide)) rfl (by omega) (by decide) ?_
  refine e_aload_n dX3_addSlot_27 rfl rfl ?_
  refine e_getR (q := 11) dX3_addSlot_28 fl_RX3_15 (Ms.s 9 rfl) (Ms.n (by decide)) rfl (Ms.r 9 1 rfl) (by unfold fscr; omega) ?_
  refine e_iload dX3_addSlot_31 rfl ?_
  refine e_iconst (nI 1) dX3_addSlot_33 (by decide) ?_
  refine e_iadd dX3_addSlot_34 ?_
  refine e_int (nI ((dT D 1) * 5 + 1)) (nI_add ((dT D 1) * 5) 1) ?_
  refine e_iload_n dX3_addSlot_35 rfl rfl ?_
  refine e_iastore ((dT D 1) * 5 + 1) dX3_addSlot_36 (Ms.s 11 rfl) (Ms.n (by decide)) rfl (by omega) (by decide) ?_
  refine e_aload_n dX3_addSlot_37 rfl rfl ?_
  refine e_getR (q := 11) dX3_addSlot_38 fl_RX3_15 (Ms.s 9 rfl) (Ms.n (by decide)) rfl (Ms.r 9 1 rfl) (by unfold fscr; omega) ?_
  refine e_iload dX3_addSlot_41 rfl ?_
  refine e_iconst (nI 2) dX3_addSlot_43 (by decide) ?_
  refine e_iadd dX3_addSlot_44 ?_
  refine e_int (nI ((dT D 1) * 5 + 2)) (nI_add ((dT D 1) * 5) 2) ?_
  refine e_iload_n dX3_addSlot_45 rfl rfl ?_
  refine e_iastore ((dT D 1) * 5 + 2) dX3_addSlot_46 (Ms.s 11 rfl) (Ms.n (by decide)) rfl (by omega) (by decide) ?_
  refine e_aload_n dX3_addSlot_47 rfl rfl ?_
  refine e_getR (q := 11) dX3_addSlot_48 fl_RX3_15 (Ms.s 9 rfl) (Ms.n (by decide)) rfl (Ms.r 9 1 rfl) (by unfold fscr; omega) ?_
  refine e_iload dX3_addSlot_51 rfl ?_
  refine e_iconst (nI 3) dX3_addSlot_53 (by decide) ?_
  refine e_iadd dX3_addSlot_54 ?_
  refine e_int (nI ((dT D 1) * 5 + 3)) (nI_add ((dT D 1) * 5) 3) ?_
  refine e_iload dX3_addSlot_55 rfl ?_
  refine e_iastore ((dT D 1) * 5 + 3) dX3_addSlot_57 (Ms.s 11 rfl) (Ms.n (by decide)) rfl (by omega) (by decide) ?_
  refine e_aload_n dX3_addSlot_58 rfl rfl ?_
  refine e_getR (q := 11) dX3_addSlot_59 fl_RX3_15 (Ms.s 9 rfl) (Ms.n (by decide)) rfl (Ms.r 9 1 rfl) (by unfold fscr; omega) ?_
  refine e_iload dX3_addSlot_62 rfl ?_
  refine e_iconst (nI 4) dX3_addSlot_64 (by decide) ?_
  refine e_iadd dX3_addSlot_65 ?_
  refine e_int (nI ((dT D 1) * 5 + 4)) (nI_add ((dT D 1) * 5) 4) ?_
  refine e_iload dX3_addSlot_66 rfl ?_
  refine e_iastore ((dT D 1) * 5 + 4) dX3_addSlot_68 (Ms.s 11 rfl) (Ms.n (by decide)) rfl (by omega) (by decide) ?_
  refine e_aload_n dX3_addSlot_69 rfl rfl ?_
  refine e_dup dX3_addSlot_70 rfl ?_
  refine e_getI dX3_addSlot_71 fl_RX3_34 (Ms.s 9 rfl) (Ms.n (by decide)) rfl ?_
  refine e_int (nI (dT D 1)) (by rw [fI_I, if_neg (by omega), fI_I, if_neg (by omega), fI_I, if_neg (by omega), fI_I, if_neg (by omega), fI_I, if_neg (by omega)]; exact Gr.1.2.1) ?_
  refine e_iconst (nI 1) dX3_addSlot_74 (by decide) ?_
  refine e_iadd dX3_addSlot_75 ?_
  refine e_int (nI (dT D 1 + 1)) (nI_add (dT D 1) 1) ?_
  refine e_putI dX3_addSlot_76 fl_RX3_34 (Ms.s 9 rfl) (Ms.n (by decide)) rfl rfl ?_
  exact e_return dX3_addSlot_79 rfl (h _ ((((((fSm_I (A := fun a => 9 ≤ a ∧ a < 15) (by omega)).tr (fSm_I (A := fun a => 9 ≤ a ∧ a < 15) (by omega))).tr (fSm_I (A := fun a => 9 ≤ a ∧ a < 15) (by omega))).tr (fSm_I (A := fun a => 9 ≤ a ∧ a < 15) (by omega))).tr (fSm_I (A := fun a => 9 ≤ a ∧ a < 15) (by omega))).tr (fSm_I (A := fun a => 9 ≤ a ∧ a < 15) (by omega))) (Gr.AS))
set_option maxRecDepth 20000 in
theorem t_X3_addOrder {g : fGP} {d : Nat} {σ : fAH} {Q : fRes → fAH → Prop} {D : fSD} {a b c x4 x5 : Nat} (Ms : fMs g σ) (Gr : fGr σ 9 D) (hl : dT D 2 < 6) (h : ∀ σ', fSm (fun a => 9 ≤ a ∧ a < 15) σ σ' → fGr σ' 9 (dAO D (mr5 a b c x4 x5)) → Q (.inl none) σ') : fEv g d mX3_addOrder 0 (fent [.ref 9, .int (nI a), .int (nI b), .int (nI c), .int (nI x4), .int (nI x5)] 7) [] σ Q := by
  show fEv g d mX3_addOrder 0 [some (.ref 9), some (.int (nI a)), some (.int (nI b)), some (.int (nI c)), some (.int (nI x4)), some (.int (nI x5)), none] [] σ Q
  refine e_aload_n dX3_addOrder_0 rfl rfl ?_
  refine e_getI dX3_addOrder_1 fl_RX3_37 (Ms.s 9 rfl) (Ms.n (by decide)) rfl ?_
  refine e_int (nI (dT D 2)) Gr.1.2.2.1 ?_
  refine e_bipush (nI 6) dX3_addOrder_4 (by decide) ?_
  refine e_icmp_ge 79 dX3_addOrder_6 (by decide) (fun c => absurd ((nI_le' (by omega) (by omega)).mp c) (by omega)) (fun _ => ?_)
  refine e_aload_n dX3_addOrder_9 rfl rfl ?_
  refine e_getI dX3_addOrder_10 fl_RX3_37 (Ms.s 9 rfl) (Ms.n (by decide)) rfl ?_
  refine e_int (nI (dT D 2)) Gr.1.2.2.1 ?_
  refine e_iconst (nI 5) dX3_addOrder_13 (by decide) ?_
  refine e_imul dX3_addOrder_14 ?_
  refine e_int (nI ((dT D 2) * 5)) (pk_mul (dT D 2) 5) ?_
  refine e_istore (L1 := [some (.ref 9), some (.int (nI a)), some (.int (nI b)), some (.int (nI c)), some (.int (nI x4)), some (.int (nI x5)), some (.int (nI ((dT D 2) * 5)))]) dX3_addOrder_15 (by decide) rfl ?_
  refine e_aload_n dX3_addOrder_17 rfl rfl ?_
  refine e_getR (q := 12) dX3_addOrder_18 fl_RX3_18 (Ms.s 9 rfl) (Ms.n (by decide)) rfl (Ms.r 9 2 rfl) (by unfold fscr; omega) ?_
  refine e_iload dX3_addOrder_21 rfl ?_
  refine e_iconst (nI 0) dX3_addOrder_23 (by decide) ?_
  refine e_iadd dX3_addOrder_24 ?_
  refine e_int (nI ((dT D 2) * 5)) (nI_add ((dT D 2) * 5) 0) ?_
  refine e_iload_n dX3_addOrder_25 rfl rfl ?_
  refine e_iastore ((dT D 2) * 5) dX3_addOrder_26 (Ms.s 12 rfl) (Ms.n (by decide)) rfl (by omega) (by decide) ?_
  refine e_aload_n dX3_addOrder_27 rfl rfl ?_
  refine e_getR (q := 12) dX3_addOrder_28 fl_RX3_18 (Ms.s 9 rfl) (Ms.n (by decide)) rfl (Ms.r 9 2 rfl) (by unfold fscr; omega) ?_
  refine e_iload dX3_addOrder_31 rfl ?_
  refine e_iconst (nI 1) dX3_addOrder_33 (by decide) ?_
  refine e_iadd dX3_addOrder_34 ?_
  refine e_int (nI ((dT D 2) * 5 + 1)) (nI_add ((dT D 2) * 5) 1) ?_
  refine e_iload_n dX3_addOrder_35 rfl rfl ?_
  refine e_iastore ((dT D 2) * 5 + 1) dX3_addOrder_36 (Ms.s 12 rfl) (Ms.n (by decide)) rfl (by omega) (by decide) ?_
  refine e_aload_n dX3_addOrder_37 rfl rfl ?_
  refine e_getR (q := 12) dX3_addOrder_38 fl_RX3_18 (Ms.s 9 rfl) (Ms.n (by decide)) rfl (Ms.r 9 2 rfl) (by unfold fscr; omega) ?_
  refine e_iload dX3_addOrder_41 rfl ?_
  refine e_iconst (nI 2) dX3_addOrder_43 (by decide) ?_
  refine e_iadd dX3_addOrder_44 ?_
  refine e_int (nI ((dT D 2) * 5 + 2)) (nI_add ((dT D 2) * 5) 2) ?_
  refine e_iload_n dX3_addOrder_45 rfl rfl ?_
  refine e_iastore ((dT D 2) * 5 + 2) dX3_addOrder_46 (Ms.s 12 rfl) (Ms.n (by decide)) rfl (by omega) (by decide) ?_
  refine e_aload_n dX3_addOrder_47 rfl rfl ?_
  refine e_getR (q := 12) dX3_addOrder_48 fl_RX3_18 (Ms.s 9 rfl) (Ms.n (by decide)) rfl (Ms.r 9 2 rfl) (by unfold fscr; omega) ?_
  refine e_iload dX3_addOrder_51 rfl ?_
  refine e_iconst (nI 3) dX3_addOrder_53 (by decide) ?_
  refine e_iadd dX3_addOrder_54 ?_
  refine e_int (nI ((dT D 2) * 5 + 3)) (nI_add ((dT D 2) * 5) 3) ?_
  refine e_iload dX3_addOrder_55 rfl ?_
  refine e_iastore ((dT D 2) * 5 + 3) dX3_addOrder_57 (Ms.s 12 rfl) (Ms.n (by decide)) rfl (by omega) (by decide) ?_
  refine e_aload_n dX3_addOrder_58 rfl rfl ?_
  refine e_getR (q := 12) dX3_addOrder_59 fl_RX3_18 (Ms.s 9 rfl) (Ms.n (by decide)) rfl (Ms.r 9 2 rfl) (by unfold fscr; omega) ?_
  refine e_iload dX3_addOrder_62 rfl ?_
  refine e_iconst (nI 4) dX3_addOrder_64 (by decide) ?_
  refine e_iadd dX3_addOrder_65 ?_
  refine e_int (nI ((dT D 2) * 5 + 4)) (nI_add ((dT D 2) * 5) 4) ?_
  refine e_iload dX3_addOrder_66 rfl ?_
  refine e_iastore ((dT D 2) * 5 + 4) dX3_addOrder_68 (Ms.s 12 rfl) (Ms.n (by decide)) rfl (by omega) (by decide) ?_
  refine e_aload_n dX3_addOrder_69 rfl rfl ?_
  refine e_dup dX3_addOrder_70 rfl ?_
  refine e_getI dX3_addOrder_71 fl_RX3_37 (Ms.s 9 rfl) (Ms.n (by decide)) rfl ?_
  refine e_int (nI (dT D 2)) (by rw [fI_I, if_neg (by omega), fI_I, if_neg (by omega), fI_I, if_neg (by omega), fI_I, if_neg (by omega), fI_I, if_neg (by omega)]; exact Gr.1.2.2.1) ?_
  refine e_iconst (nI 1) dX3_addOrder_74 (by decide) ?_
  refine e_iadd dX3_addOrder_75 ?_
  refine e_int (nI (dT D 2 + 1)) (nI_add (dT D 2) 1) ?_
  refine e_putI dX3_addOrder_76 fl_RX3_37 (Ms.s 9 rfl) (Ms.n (by decide)) rfl rfl ?_
  exact e_return dX3_addOrder_79 rfl (h _ ((((((fSm_I (A := fun a => 9 ≤ a ∧ a < 15) (by omega)).tr (fSm_I (A := fun a => 9 ≤ a ∧ a < 15) (by omega))).tr (fSm_I (A := fun a => 9 ≤ a ∧ a < 15) (by omega))).tr (fSm_I (A := fun a => 9 ≤ a ∧ a < 15) (by omega))).tr (fSm_I (A := fun a => 9 ≤ a ∧ a < 15) (by omega))).tr (fSm_I (A := fun a => 9 ≤ a ∧ a < 15) (by omega))) (Gr.AO))
set_option maxRecDepth 20000 in
theorem t_X3_addOdds {g : fGP} {d : Nat} {σ : fAH} {Q : fRes → fAH → Prop} {D : fSD} {a b c : Nat} (Ms : fMs g σ) (Gr : fGr σ 9 D) (hl : dT D 6 < 24) (hp : a < 30) (hb : 1 ≤ b ∧ b < 10) (hc : c ≤ 8 - mall D a) (h : ∀ σ', fSm (fun a => 9 ≤ a ∧ a < 15) σ σ' → fGr σ' 9 (dAZ D (mr3 a b c)) → Q (.inl none) σ') : fEv g d mX3_addOdds 0 (fent [.ref 9, .int (nI a), .int (nI b), .int (nI c)] 5) [] σ Q := by
  show fEv g d mX3_addOdds 0 [some (.ref 9), some (.int (nI a)), some (.int (nI b)), some (.int (nI c)), none] [] σ Q
  refine e_aload_n dX3_addOdds_0 rfl rfl ?_
  refine e_getI dX3_addOdds_1 fl_RX3_40 (Ms.s 9 rfl) (Ms.n (by decide)) rfl ?_
  refine e_int (nI (dT D 6)) Gr.1.2.2.2.1 ?_
  refine e_bipush (nI 24) dX3_addOdds_4 (by decide) ?_
  refine e_icmp_ge 83 dX3_addOdds_6 (by decide) (fun c => absurd ((nI_le' (by omega) (by omega)).mp c) (by omega)) (fun _ => ?_)
  refine e_aload_n dX3_addOdds_9 rfl rfl ?_
  refine e_getI dX3_addOdds_10 fl_RX3_40 (Ms.s 9 rfl) (Ms.n (by decide)) rfl ?_
  refine e_int (nI (dT D 6)) Gr.1.2.2.2.1 ?_
  refine e_iconst (nI 3) dX3_addOdds_13 (by decide) ?_
  refine e_imul dX3_addOdds_14 ?_
  refine e_int (nI ((dT D 6) * 3)) (pk_mul (dT D 6) 3) ?_
  refine e_istore (L1 := [some (.ref 9), some (.int (nI a)), some (.int (nI b)), some (.int (nI c)), some (.int (nI ((dT D 6) * 3)))]) dX3_addOdds_15 (by decide) rfl ?_
  refine e_aload_n dX3_addOdds_17 rfl rfl ?_
  refine e_getR (q := 13) dX3_addOdds_18 fl_RX3_21 (Ms.s 9 rfl) (Ms.n (by decide)) rfl (Ms.r 9 3 rfl) (by unfold fscr; omega) ?_
  refine e_iload dX3_addOdds_21 rfl ?_
  refine e_iload_n dX3_addOdds_23 rfl rfl ?_
  refine e_iastore ((dT D 6) * 3) dX3_addOdds_24 (Ms.s 13 rfl) (Ms.n (by decide)) rfl (by omega) (by decide) ?_
  refine e_aload_n dX3_addOdds_25 rfl rfl ?_
  refine e_getR (q := 13) dX3_addOdds_26 fl_RX3_21 (Ms.s 9 rfl) (Ms.n (by decide)) rfl (Ms.r 9 3 rfl) (by unfold fscr; omega) ?_
  refine e_iload dX3_addOdds_29 rfl ?_
  refine e_iconst (nI 1) dX3_addOdds_31 (by decide) ?_
  refine e_iadd dX3_addOdds_32 ?_
  refine e_int (nI ((dT D 6) * 3 + 1)) (nI_add ((dT D 6) * 3) 1) ?_
  refine e_iload_n dX3_addOdds_33 rfl rfl ?_
  refine e_iastore ((dT D 6) * 3 + 1) dX3_addOdds_34 (Ms.s 13 rfl) (Ms.n (by decide)) rfl (by omega) (by decide) ?_
  refine e_aload_n dX3_addOdds_35 rfl rfl ?_
  refine e_getR (q := 13) dX3_addOdds_36 fl_RX3_21 (Ms.s 9 rfl) (Ms.n (by decide)) rfl (Ms.r 9 3 rfl) (by unfold fscr; omega) ?_
  refine e_iload dX3_addOdds_39 rfl ?_
  refine e_iconst (nI 2) dX3_addOdds_41 (by decide) ?_
  refine e_iadd dX3_addOdds_42 ?_
  refine e_int (nI ((dT D 6) * 3 + 2)) (nI_add ((dT D 6) * 3) 2) ?_
  refine e_iload_n dX3_addOdds_43 rfl rfl ?_
  refine e_iastore ((dT D 6) * 3 + 2) dX3_addOdds_44 (Ms.s 13 rfl) (Ms.n (by decide)) rfl (by omega) (by decide) ?_
  refine e_aload_n dX3_addOdds_45 rfl rfl ?_
  refine e_dup dX3_addOdds_46 rfl ?_
  refine e_getI dX3_addOdds_47 fl_RX3_40 (Ms.s 9 rfl) (Ms.n (by decide)) rfl ?_
  refine e_int (nI (dT D 6)) (by rw [fI_I, if_neg (by omega), fI_I, if_neg (by omega), fI_I, if_neg (by omega)]; exact Gr.1.2.2.2.1) ?_
  refine e_iconst (nI 1) dX3_addOdds_50 (by decide) ?_
  refine e_iadd dX3_addOdds_51 ?_
  refine e_int (nI (dT D 6 + 1)) (nI_add (dT D 6) 1) ?_
  refine e_putI dX3_addOdds_52 fl_RX3_40 (Ms.s 9 rfl) (Ms.n (by decide)) rfl rfl ?_
  refine e_aload_n dX3_addOdds_55 rfl rfl ?_
  refine e_getR (q := 14) dX3_addOdds_56 fl_RX3_24 (Ms.s 9 rfl) (Ms.n (by decide)) rfl (Ms.r 9 4 rfl) (by unfold fscr; omega) ?_
  refine e_iload_n dX3_addOdds_59 rfl rfl ?_
  refine e_bipush (nI 10) dX3_addOdds_60 (by decide) ?_
  refine e_imul dX3_addOdds_62 ?_
  refine e_int (nI (a * 10)) (pk_mul a 10) ?_
  refine e_iload_n dX3_addOdds_63 rfl rfl ?_
  refine e_iadd dX3_addOdds_64 ?_
  refine e_int (nI (a * 10 + b)) (nI_add (a * 10) b) ?_
  refine e_dup2 dX3_addOdds_65 rfl rfl ?_
  refine e_iaload (a * 10 + b) dX3_addOdds_66 (Ms.s 14 rfl) (Ms.n (by decide)) rfl (by omega) (by decide) ?_
  refine e_int (nI (mpart D a b)) (by rw [fI_I, if_neg (by omega), fI_I, if_neg (by omega), fI_I, if_neg (by omega), fI_I, if_neg (by omega)]; exact ((Gr.2.2.2.2.2 a (by omega)).2 b (by omega) (by omega))) ?_
  refine e_iload_n dX3_addOdds_67 rfl rfl ?_
  refine e_iadd dX3_addOdds_68 ?_
  refine e_int (nI (mpart D a b + c)) (nI_add (mpart D a b) c) ?_
  refine e_iastore (a * 10 + b) dX3_addOdds_69 (Ms.s 14 rfl) (Ms.n (by decide)) rfl (by omega) (by decide) ?_
  refine e_aload_n dX3_addOdds_70 rfl rfl ?_
  refine e_getR (q := 14) dX3_addOdds_71 fl_RX3_24 (Ms.s 9 rfl) (Ms.n (by decide)) rfl (Ms.r 9 4 rfl) (by unfold fscr; omega) ?_
  refine e_iload_n dX3_addOdds_74 rfl rfl ?_
  refine e_bipush (nI 10) dX3_addOdds_75 (by decide) ?_
  refine e_imul dX3_addOdds_77 ?_
  refine e_int (nI (a * 10)) (pk_mul a 10) ?_
  refine e_dup2 dX3_addOdds_78 rfl rfl ?_
  refine e_iaload (a * 10) dX3_addOdds_79 (Ms.s 14 rfl) (Ms.n (by decide)) rfl (by omega) (by decide) ?_
  refine e_int (nI (8 - mall D a)) (by rw [fI_I, if_neg (by omega), fI_I, if_neg (by omega), fI_I, if_neg (by omega), fI_I, if_neg (by omega), fI_I, if_neg (by omega)]; exact (Gr.2.2.2.2.2 a (by omega)).1) ?_
  refine e_iload_n dX3_addOdds_80 rfl rfl ?_
  refine e_isub dX3_addOdds_81 ?_
  refine e_int (nI (8 - mall D a - c)) (pk_sub (by omega)) ?_
  refine e_iastore (a * 10) dX3_addOdds_82 (Ms.s 14 rfl) (Ms.n (by decide)) rfl (by omega) (by decide) ?_
  exact e_return dX3_addOdds_83 rfl (h _ ((((((fSm_I (A := fun a => 9 ≤ a ∧ a < 15) (by omega)).tr (fSm_I (A := fun a => 9 ≤ a ∧ a < 15) (by omega))).tr (fSm_I (A := fun a => 9 ≤ a ∧ a < 15) (by omega))).tr (fSm_I (A := fun a => 9 ≤ a ∧ a < 15) (by omega))).tr (fSm_I (A := fun a => 9 ≤ a ∧ a < 15) (by omega))).tr (fSm_I (A := fun a => 9 ≤ a ∧ a < 15) (by omega))) (Gr.AZ (by omega) (by omega)))
