/-! what keeps a state one that may be -/
def fsp (S : Nat → Nat) : Nat → Bool := fun j => decide (0 < S (133 + j))
def fWC (D : fSD) (S : Nat → Nat) : Prop := S 152 = mct (fsp S) (dT D 1) 0 ∧ ∀ i, dT D 1 ≤ i → i < 12 → S (133 + i) = 0
theorem mct_le (f : Nat → Bool) : ∀ n i, mct f n i ≤ n
  | 0, _ => Nat.le_refl _
  | n + 1, i => by
    have := mct_le f n (i + 1)
    have := bn_le (f i)
    show bn (f i) + mct f n (i + 1) ≤ n + 1
    omega
theorem mct_cg {f g : Nat → Bool} : ∀ {n i : Nat}, (∀ j, i ≤ j → j < i + n → f j = g j) → mct f n i = mct g n i
  | 0, _, _ => rfl
  | n + 1, i, h => by
    show bn (f i) + mct f n (i + 1) = bn (g i) + mct g n (i + 1)
    rw [h i (Nat.le_refl _) (by omega), mct_cg (fun j h1 h2 => h j (by omega) (by omega))]
theorem mct_lt {f : Nat → Bool} {k : Nat} (hf : f k = false) : ∀ {n i : Nat}, i ≤ k → k < i + n → mct f n i < n
  | 0, i, h1, h2 => by omega
  | n + 1, i, h1, h2 => by
    show bn (f i) + mct f n (i + 1) < n + 1
    by_cases e : i = k
    · have := mct_le f n (i + 1)
      rw [e, hf]
      rw [e] at this
      show 0 + _ < _
      omega
    · have := mct_lt hf (n := n) (i := i + 1) (by omega) (by omega)
      have := bn_le (f i)
      omega
theorem mct_up {f g : Nat → Bool} {k : Nat} (hf : f k = false) (hg : g k = true) : ∀ {n i : Nat}, (∀ j, i ≤ j → j < i + n → j ≠ k → g j = f j) → i ≤ k → k < i + n → mct g n i = mct f n i + 1
  | 0, i, _, h1, h2 => by omega
  | n + 1, i, hn, h1, h2 => by
    show bn (g i) + mct g n (i + 1) = bn (f i) + mct f n (i + 1) + 1
    by_cases e : i = k
    · rw [e, hf, hg, mct_cg (f := g) (g := f) (fun j h3 h4 => hn j (by omega) (by omega) (by omega))]
      show 1 + _ = 0 + _ + 1
      omega
    · rw [hn i (by omega) (by omega) e, mct_up hf hg (n := n) (i := i + 1) (fun j h3 h4 => hn j (by omega) (by omega)) (by omega) (by omega)]
      omega
theorem fWC.lt {D : fSD} {S : Nat → Nat} (h : fWC D S) {k : Nat} (hk : k < dT D 1) (hz : S (133 + k) = 0) : S 152 < dT D 1 := by
  rw [h.1]
  exact mct_lt (k := k) (by show decide (0 < S (133 + k)) = false; rw [hz]; rfl) (by omega) (by omega)
def mdv (D : fSD) (S : Nat → Nat) (k p line : Nat) : Nat → Nat :=
  let q := S 120
  let i := 1 + 2 * dS D k 1
  let S1 := mcp S p q
  let S2 := mup S1 (p * 6 + i + 1) line
  let S3 := mup S2 (q * 6 + i) line
  mup S3 120 (S3 120 + 1)
theorem mdv_o {D : fSD} {S : Nat → Nat} {k p line j : Nat} (hk : dS D k 1 ≤ 1) (hp : p < 18) (hS : S 120 < 18) (hj : 120 < j) : mdv D S k p line j = S j := by
  show mup (mup (mup (mcp S p (S 120)) _ _) _ _) _ _ j = _
  rw [mup_n _ _ (by omega), mup_n _ _ (by omega), mup_n _ _ (by omega)]
  exact if_neg (by omega)
theorem mdv_120 {D : fSD} {S : Nat → Nat} {k p line : Nat} (hk : dS D k 1 ≤ 1) (hp : p < 18) (hS : S 120 < 18) : mdv D S k p line 120 = S 120 + 1 := by
  show mup (mup (mup (mcp S p (S 120)) _ _) _ _) _ _ 120 = _
  rw [mup_s, mup_n _ _ (by omega), mup_n _ _ (by omega)]
  rw [show mcp S p (S 120) 120 = S 120 from if_neg (by omega)]
/-- the pieces behind a split -/
theorem mdv_p {D : fSD} {S : Nat → Nat} {k p line : Nat} (hk : dS D k 1 ≤ 1) (hp : p < S 120) (hS : S 120 < 18) {x c : Nat} (hx : x < S 120 + 1) (hc : c < 6) : mdv D S k p line (x * 6 + c) = if x = S 120 then (if c = 1 + 2 * dS D k 1 then line else S (p * 6 + c)) else if x = p ∧ c = 2 + 2 * dS D k 1 then line else S (x * 6 + c) := by
  show mup (mup (mup (mcp S p (S 120)) _ _) _ _) _ _ (x * 6 + c) = _
  rw [mup_n _ _ (by omega)]
  unfold mup mcp
  by_cases e : x = S 120
  · rw [if_pos e]
    subst e
    by_cases e2 : c = 1 + 2 * dS D k 1
    · rw [if_pos e2, if_pos (by omega)]
    · rw [if_neg e2, if_neg (by omega), if_neg (by omega), if_pos (by omega), show S 120 * 6 + c - S 120 * 6 = c by omega]
  · rw [if_neg e, if_neg (by omega)]
    by_cases e2 : x = p ∧ c = 2 + 2 * dS D k 1
    · rw [if_pos e2, if_pos (by omega)]
    · rw [if_neg e2, if_neg (by omega), if_neg (by omega)]
theorem mspl_e {D : fSD} {S : Nat → Nat} {k p line : Nat} (hpc : mpc D S k = some p) : mspl D S k line = mup (mup (mup (mdv D S k p line) (133 + k) (mdv D S k p line 155 + 1)) 152 (mup (mdv D S k p line) (133 + k) (mdv D S k p line 155 + 1) 152 + 1)) 153 (mup (mup (mdv D S k p line) (133 + k) (mdv D S k p line 155 + 1)) 152 (mup (mdv D S k p line) (133 + k) (mdv D S k p line 155 + 1) 152 + 1) 153 + if line = dS D k 2 then 0 else 1) := by
  unfold mspl
  rw [hpc]
  rfl
section MSPL
variable {D : fSD} {S : Nat → Nat} {k p line : Nat}
theorem mspl_120 (hpc : mpc D S k = some p) (hk : dS D k 1 ≤ 1) (hk2 : k < 12) (hp : p < 18) (hS : S 120 < 18) : mspl D S k line 120 = S 120 + 1 := by
  rw [mspl_e hpc, mup_n _ _ (by omega), mup_n _ _ (by omega), mup_n _ _ (by omega), mdv_120 hk hp hS]
theorem mspl_p (hpc : mpc D S k = some p) (hk : dS D k 1 ≤ 1) (hk2 : k < 12) (hp : p < S 120) (hS : S 120 < 18) {x c : Nat} (hx : x < S 120 + 1) (hc : c < 6) : mspl D S k line (x * 6 + c) = if x = S 120 then (if c = 1 + 2 * dS D k 1 then line else S (p * 6 + c)) else if x = p ∧ c = 2 + 2 * dS D k 1 then line else S (x * 6 + c) := by
  rw [mspl_e hpc, mup_n _ _ (by omega), mup_n _ _ (by omega), mup_n _ _ (by omega), mdv_p hk hp hS hx hc]
theorem mspl_o (hpc : mpc D S k = some p) (hk : dS D k 1 ≤ 1) (hk2 : k < 12) (hp : p < 18) (hS : S 120 < 18) {j : Nat} (hj : 120 < j) (h1 : j ≠ 133 + k) (h2 : j ≠ 152) (h3 : j ≠ 153) : mspl D S k line j = S j := by
  rw [mspl_e hpc, mup_n _ _ h3, mup_n _ _ h2, mup_n _ _ h1, mdv_o hk hp hS hj]
theorem mspl_k (hpc : mpc D S k = some p) (hk : dS D k 1 ≤ 1) (hk2 : k < 12) (hp : p < 18) (hS : S 120 < 18) : mspl D S k line (133 + k) = S 155 + 1 := by
  rw [mspl_e hpc, mup_n _ _ (by omega), mup_n _ _ (by omega), mup_s, mdv_o hk hp hS (by omega)]
theorem mspl_152 (hpc : mpc D S k = some p) (hk : dS D k 1 ≤ 1) (hk2 : k < 12) (hp : p < 18) (hS : S 120 < 18) : mspl D S k line 152 = S 152 + 1 := by
  rw [mspl_e hpc, mup_n _ _ (by omega), mup_s, mup_n _ _ (by omega), mdv_o hk hp hS (by omega)]
theorem mspl_153 (hpc : mpc D S k = some p) (hk : dS D k 1 ≤ 1) (hk2 : k < 12) (hp : p < 18) (hS : S 120 < 18) : mspl D S k line 153 = S 153 + if line = dS D k 2 then 0 else 1 := by
  rw [mspl_e hpc, mup_s, mup_n _ _ (by omega), mup_n _ _ (by omega), mdv_o hk hp hS (by omega)]
end MSPL
theorem fWS_spl {D : fSD} {S : Nat → Nat} {k p line : Nat} (hD : fWD D) (hW : fWS D S) (hC : fWC D S) (hk : k < dT D 1) (hpc : mpc D S k = some p) (hz : S (133 + k) = 0) (hin : mins D S k p line = true) (hn : S 155 < 30) : fWS D (mspl D S k line) ∧ fWC D (mspl D S k line) := by
  have hlt := hC.lt hk hz
  obtain ⟨⟨w1, w2⟩, w3, w4, w5, w6⟩ := id hW
  obtain ⟨t0, t1, t2, t3, t4, t5, t6⟩ := id hD.1
  obtain ⟨s0, s1, s2, s3, s4, s5, s6⟩ := hD.2.2.1 k hk
  have hp := (mpc_lt hpc).1
  have hS : S 120 < 18 := by omega
  have hin := of_decide_eq_true hin
  have k2 : k < 12 := by omega
  have p2 : p < 18 := by omega
  refine ⟨⟨⟨?_, ?_⟩, fun x hx => ?_, fun j hj => ?_, fun o ho => ?_, ?_⟩, ?_, fun i h1 h2 => ?_⟩
  · rw [mspl_120 hpc s1 k2 p2 hS, mspl_152 hpc s1 k2 p2 hS]; omega
  · rw [mspl_152 hpc s1 k2 p2 hS]; omega
  · rw [mspl_120 hpc s1 k2 p2 hS] at hx
    have e0 := mspl_p (line := line) hpc s1 k2 hp hS hx (c := 0) (by omega)
    rw [Nat.add_zero] at e0
    rw [e0, mspl_p hpc s1 k2 hp hS hx (by omega), mspl_p hpc s1 k2 hp hS hx (by omega), mspl_p hpc s1 k2 hp hS hx (by omega), mspl_p hpc s1 k2 hp hS hx (by omega), mspl_p hpc s1 k2 hp hS hx (by omega)]
    have wp := w3 p hp
    rw [Nat.add_zero]
    rcases (show dS D k 1 = 0 ∨ dS D k 1 = 1 by omega) with e | e
    · rw [e] at hin
      rw [e]
      have hin : S (p * 6 + 1) < line ∧ line < S (p * 6 + 2) := hin
      by_cases ex : x = S 120
      · simp only [if_pos ex]
        refine ⟨by simpa using wp.1, ?_, ?_, ?_, ?_, ?_⟩ <;> simp <;> omega
      · simp only [if_neg ex]
        by_cases ep : x = p
        · subst ep
          simp
          omega
        · have wx := w3 x (by omega)
          simp [ep]
          omega
    · rw [e] at hin
      rw [e]
      have hin : S (p * 6 + 3) < line ∧ line < S (p * 6 + 4) := hin
      by_cases ex : x = S 120
      · simp only [if_pos ex]
        refine ⟨by simpa using wp.1, ?_, ?_, ?_, ?_, ?_⟩ <;> simp <;> omega
      · simp only [if_neg ex]
        by_cases ep : x = p
        · subst ep
          simp
          omega
        · have wx := w3 x (by omega)
          simp [ep]
          omega
  · have := w4 j hj
    rw [mspl_o hpc s1 k2 p2 hS (by omega) (by omega) (by omega) (by omega)]
    by_cases e : j = k
    · subst e
      rw [mspl_k hpc s1 k2 p2 hS]
      omega
    · rw [mspl_o hpc s1 k2 p2 hS (by omega) (by omega) (by omega) (by omega)]
      exact this
  · rw [mspl_o hpc s1 k2 p2 hS (by omega) (by omega) (by omega) (by omega)]
    exact w5 o ho
  · rw [mspl_o hpc s1 k2 p2 hS (by omega) (by omega) (by omega) (by omega)]
    exact w6
  · rw [mspl_152 hpc s1 k2 p2 hS, hC.1]
    refine (mct_up (k := k) ?_ ?_ (fun j _ hj2 hj => ?_) (by omega) (by omega)).symm
    · show decide (0 < S (133 + k)) = false
      rw [hz]; rfl
    · show decide (0 < mspl D S k line (133 + k)) = true
      rw [mspl_k hpc s1 k2 p2 hS]
      exact decide_eq_true (by omega)
    · show decide (0 < mspl D S k line (133 + j)) = decide (0 < S (133 + j))
      rw [mspl_o hpc s1 k2 p2 hS (by omega) (by omega) (by omega) (by omega)]
  · rw [mspl_o hpc s1 k2 p2 hS (by omega) (by omega) (by omega) (by omega)]
    exact hC.2 i h1 h2
/-! bruises, deliveries -/
theorem mbru_o {S : Nat → Nat} {k j : Nat} (h1 : j ≠ 121 + k) (h2 : j ≠ 154) : mbru S k j = S j := by
  show mup (mup S _ _) _ _ j = _
  rw [mup_n _ _ h2, mup_n _ _ h1]
theorem mbru_d {S : Nat → Nat} {k : Nat} (h : k < 12) : mbru S k (121 + k) = if 1 < S (121 + k) then S (121 + k) - 1 else 1 := by
  show mup (mup S _ _) _ _ (121 + k) = _
  rw [mup_n _ _ (by omega), mup_s]
theorem mbru_b {S : Nat → Nat} {k : Nat} (h : k < 12) : mbru S k 154 = S 154 + 1 := by
  show mup (mup S _ _) _ _ 154 = _
  rw [mup_s, mup_n _ _ (by omega)]
theorem fWS_bru {D : fSD} {S : Nat → Nat} {k : Nat} (hD : fWD D) (hW : fWS D S) (hC : fWC D S) (hk : k < dT D 1) : fWS D (mbru S k) ∧ fWC D (mbru S k) := by
  obtain ⟨⟨w1, w2⟩, w3, w4, w5, w6⟩ := id hW
  obtain ⟨t0, t1, t2, t3, t4, t5, t6⟩ := id hD.1
  refine ⟨⟨⟨?_, ?_⟩, fun x hx => ?_, fun j hj => ?_, fun o ho => ?_, ?_⟩, ?_, fun i h1 h2 => ?_⟩
  · rw [mbru_o (by omega) (by omega), mbru_o (by omega) (by omega)]; exact w1
  · rw [mbru_o (by omega) (by omega)]; exact w2
  · rw [mbru_o (by omega) (by omega)] at hx
    rw [mbru_o (by omega) (by omega), mbru_o (by omega) (by omega), mbru_o (by omega) (by omega), mbru_o (by omega) (by omega), mbru_o (by omega) (by omega), mbru_o (by omega) (by omega)]
    exact w3 x hx
  · have := w4 j hj
    rw [mbru_o (j := 133 + j) (by omega) (by omega)]
    by_cases e : j = k
    · subst e
      rw [mbru_d (by omega)]
      split <;> omega
    · rw [mbru_o (by omega) (by omega)]
      exact this
  · rw [mbru_o (by omega) (by omega)]
    exact w5 o ho
  · rw [mbru_o (by omega) (by omega)]
    exact w6
  · rw [mbru_o (by omega) (by omega), hC.1]
    refine mct_cg (fun j _ hj => ?_)
    show decide (0 < S (133 + j)) = decide (0 < mbru S k (133 + j))
    rw [mbru_o (by omega) (by omega)]
  · rw [mbru_o (by omega) (by omega)]
    exact hC.2 i h1 h2
theorem mtk_o {D : fSD} {S : Nat → Nat} {o p j : Nat} (h1 : j ≠ p * 6 + 5) (h2 : j ≠ 145 + o) (h3 : j ≠ 151) : mtk D S o p j = S j := by
  show mup (mup (mup S _ _) _ _) _ _ j = _
  rw [mup_n _ _ h3, mup_n _ _ h2, mup_n _ _ h1]
theorem mtk_l {D : fSD} {S : Nat → Nat} {o p : Nat} (hp : p < 18) : mtk D S o p (p * 6 + 5) = 0 := by
  show mup (mup (mup S _ _) _ _) _ _ (p * 6 + 5) = _
  rw [mup_n _ _ (by omega), mup_n _ _ (by omega), mup_s]
theorem mtk_h {D : fSD} {S : Nat → Nat} {o p : Nat} (hp : p < 18) (ho : o < 6) : mtk D S o p (145 + o) = S (145 + o) + 1 := by
  show mup (mup (mup S _ _) _ _) _ _ (145 + o) = _
  rw [mup_n _ _ (by omega), mup_s, mup_n _ _ (by omega)]
theorem mtk_b {D : fSD} {S : Nat → Nat} {o p : Nat} (hp : p < 18) (ho : o < 6) : mtk D S o p 151 = S 151 + dO D o 4 := by
  show mup (mup (mup S _ _) _ _) _ _ 151 = _
  rw [mup_s, mup_n _ _ (by omega), mup_n _ _ (by omega)]
theorem fWS_tk {D : fSD} {S : Nat → Nat} {o p : Nat} (hD : fWD D) (hW : fWS D S) (hC : fWC D S) (ho : o < dT D 2) (hp : p < S 120) (hm : S (145 + o) < dO D o 2) : fWS D (mtk D S o p) ∧ fWC D (mtk D S o p) := by
  obtain ⟨⟨w1, w2⟩, w3, w4, w5, w6⟩ := id hW
  obtain ⟨t0, t1, t2, t3, t4, t5, t6⟩ := id hD.1
  have p2 : p < 18 := by omega
  refine ⟨⟨⟨?_, ?_⟩, fun x hx => ?_, fun j hj => ?_, fun o9 ho9 => ?_, ?_⟩, ?_, fun i h1 h2 => ?_⟩
  · rw [mtk_o (by omega) (by omega) (by omega), mtk_o (by omega) (by omega) (by omega)]; exact w1
  · rw [mtk_o (by omega) (by omega) (by omega)]; exact w2
  · rw [mtk_o (by omega) (by omega) (by omega)] at hx
    have wx := w3 x hx
    rw [mtk_o (j := x * 6) (by omega) (by omega) (by omega), mtk_o (j := x * 6 + 1) (by omega) (by omega) (by omega), mtk_o (j := x * 6 + 2) (by omega) (by omega) (by omega), mtk_o (j := x * 6 + 3) (by omega) (by omega) (by omega), mtk_o (j := x * 6 + 4) (by omega) (by omega) (by omega)]
    refine ⟨wx.1, wx.2.1, wx.2.2.1, wx.2.2.2.1, wx.2.2.2.2.1, ?_⟩
    by_cases e : x = p
    · subst e
      rw [mtk_l p2]; omega
    · rw [mtk_o (by omega) (by omega) (by omega)]; exact wx.2.2.2.2.2
  · rw [mtk_o (by omega) (by omega) (by omega), mtk_o (by omega) (by omega) (by omega)]
    exact w4 j hj
  · by_cases e : o9 = o
    · subst e
      rw [mtk_h p2 (by omega)]
      omega
    · rw [mtk_o (by omega) (by omega) (by omega)]
      exact w5 o9 ho9
  · rw [mtk_o (by omega) (by omega) (by omega)]
    exact w6
  · rw [mtk_o (by omega) (by omega) (by omega), hC.1]
    refine mct_cg (fun j _ hj => ?_)
    show decide (0 < S (133 + j)) = decide (0 < mtk D S o p (133 + j))
    rw [mtk_o (by omega) (by omega) (by omega)]
  · rw [mtk_o (by omega) (by omega) (by omega)]
    exact hC.2 i h1 h2
/-- what holds of a night's deliveries: P is kept by each -/
theorem mdo_k {D : fSD} {o : Nat} (P : (Nat → Nat) → Nat → Prop) (hP : ∀ S c p, P S c → p < S 120 → c < dT D 4 → S (145 + o) < dO D o 2 → S (p * 6 + 5) = 1 → msz D o (mwd S p) (mhg S p) = true → P (mtk D S o p) (c + 1) ∧ mtk D S o p 120 = S 120) : ∀ (n p c : Nat) (S : Nat → Nat), p + n = S 120 → P S c → P (mdo D o n p c S).1 (mdo D o n p c S).2
  | 0, _, _, _, _, h => h
  | n + 1, p, c, S, e, h => by
    unfold mdo
    split
    · next q =>
      split
      · next r =>
        have k := hP S c p h (by omega) q.1 q.2 r.1 r.2
        exact mdo_k P hP n (p + 1) (c + 1) _ (by rw [k.2]; omega) k.1
      · exact mdo_k P hP n (p + 1) c _ (by omega) h
    · exact h
theorem mdl_k {D : fSD} (P : (Nat → Nat) → Nat → Prop) (hP : ∀ o, o < dT D 2 → ∀ S c p, P S c → p < S 120 → c < dT D 4 → S (145 + o) < dO D o 2 → S (p * 6 + 5) = 1 → msz D o (mwd S p) (mhg S p) = true → P (mtk D S o p) (c + 1) ∧ mtk D S o p 120 = S 120) : ∀ (n o c : Nat) (S : Nat → Nat), o + n = dT D 2 → P S c → P (mdl D n o c S).1 (mdl D n o c S).2
  | 0, _, _, _, _, h => h
  | n + 1, o, c, S, e, h => by
    unfold mdl
    split
    · exact mdl_k P hP n (o + 1) _ _ (by omega) (mdo_k P (hP o (by omega)) (S 120) 0 c S (by omega) h)
    · exact mdl_k P hP n (o + 1) _ _ (by omega) h
theorem mdo_done {D : fSD} {o c : Nat} {S : Nat → Nat} (h : ¬ (c < dT D 4 ∧ S (145 + o) < dO D o 2)) : ∀ (n p : Nat), mdo D o n p c S = (S, c)
  | 0, _ => rfl
  | n + 1, p => by
    unfold mdo
    rw [if_neg h]
theorem mdl_full {D : fSD} {c : Nat} (h : ¬ c < dT D 4) : ∀ (n o : Nat) (S : Nat → Nat), mdl D n o c S = (S, c)
  | 0, _, _ => rfl
  | n + 1, o, S => by
    unfold mdl
    rw [mdo_done (fun q => h q.1)]
    split
    · exact mdl_full h n (o + 1) S
    · exact mdl_full h n (o + 1) S
theorem fWS_sl {D : fSD} {S : Nat → Nat} (hD : fWD D) (hW : fWS D S) (hC : fWC D S) : fWS D (mslg D S) ∧ fWC D (mslg D S) ∧ mslg D S 155 = S 155 ∧ mslg D S 120 = S 120 ∧ mslg D S 152 = S 152 := by
  unfold mslg
  split
  · refine mdl_k (fun S1 _ => fWS D S1 ∧ fWC D S1 ∧ S1 155 = S 155 ∧ S1 120 = S 120 ∧ S1 152 = S 152) ?_ _ _ _ _ (by omega) ⟨hW, hC, rfl, rfl, rfl⟩
    intro o ho S1 c p h hp _ hm _ _
    have np := h.1.n hD
    have := hD.1
    have k := fWS_tk hD h.1 h.2.1 ho hp hm
    refine ⟨⟨k.1, k.2, ?_, ?_, ?_⟩, ?_⟩
    · rw [mtk_o (by omega) (by omega) (by omega)]; exact h.2.2.1
    · rw [mtk_o (by omega) (by omega) (by omega)]; exact h.2.2.2.1
    · rw [mtk_o (by omega) (by omega) (by omega)]; exact h.2.2.2.2
    · rw [mtk_o (by omega) (by omega) (by omega)]
  · exact ⟨hW, hC, rfl, rfl, rfl⟩
theorem fWS_end {D : fSD} {S : Nat → Nat} (hD : fWD D) (hW : fWS D S) (hC : fWC D S) (hn : S 155 < 30) : fWS D (mend D S) ∧ fWC D (mend D S) ∧ mend D S 155 = S 155 + 1 ∧ mend D S 120 = S 120 ∧ mend D S 152 = S 152 := by
  obtain ⟨hW, hC, e1, e2, e3⟩ := fWS_sl hD hW hC
  obtain ⟨⟨w1, w2⟩, w3, w4, w5, w6⟩ := id hW
  obtain ⟨t0, t1, t2, t3, t4, t5, t6⟩ := id hD.1
  have o : ∀ j, j ≠ 155 → mend D S j = mslg D S j := fun j hj => mup_n _ _ hj
  have e : mend D S 155 = S 155 + 1 := by
    unfold mend
    rw [mup_s, e1]
  refine ⟨⟨⟨?_, ?_⟩, fun x hx => ?_, fun j hj => ?_, fun o9 ho9 => ?_, ?_⟩, ⟨?_, fun i h1 h2 => ?_⟩, e, ?_, ?_⟩
  · rw [o _ (by omega), o _ (by omega)]; exact w1
  · rw [o _ (by omega)]; exact w2
  · rw [o _ (by omega)] at hx
    have := w3 x hx
    rw [o _ (by omega), o _ (by omega), o _ (by omega), o _ (by omega), o _ (by omega), o _ (by omega)]
    exact this
  · rw [o _ (by omega), o _ (by omega)]; exact w4 j hj
  · rw [o _ (by omega)]; exact w5 o9 ho9
  · rw [e]; omega
  · rw [o _ (by omega), hC.1]
    refine mct_cg (fun j _ hj => ?_)
    show decide (0 < mslg D S (133 + j)) = decide (0 < mend D S (133 + j))
    rw [o _ (by omega)]
  · rw [o _ (by omega)]; exact hC.2 i h1 h2
  · rw [o _ (by omega)]; exact e2
  · rw [o _ (by omega)]; exact e3
/-! the freezing -/
theorem mins_ln {D : fSD} {S : Nat → Nat} {k p v : Nat} (hpc : mpc D S k = some p) (hi : mins D S k p (dS D k 2) = true) : mins D S k p (mln D S k v) = true := by
  unfold mln
  rw [hpc]
  show mins D S k p (if mins D S k p _ = true then _ else _) = true
  split
  · assumption
  · exact hi
theorem fWS_st {Z : Type} {dr : Z → Nat × Z} {D : fSD} {fill cold k : Nat} {x : fX Z} (hD : fWD D) (hW : fWS D x.1) (hC : fWC D x.1) (hk : k < dT D 1) (hn : x.1 155 < 30) : fWS D (mst dr D fill cold k x).1 ∧ fWC D (mst dr D fill cold k x).1 ∧ (mst dr D fill cold k x).1 155 = x.1 155 := by
  have t1 := hD.1.2.1
  have np := hW.n hD
  have s1 := (hD.2.2.1 k hk).2.1
  unfold mst
  split
  · next h =>
    obtain ⟨p, hpc, hp, hz, hi⟩ := mal_pc h.2
    have hl := hC.lt hk hz
    have h18 : x.1 120 < 18 := by have := hW.1; have := hD.1.1; omega
    split
    · split
      · have := fWS_spl hD hW hC hk hpc hz (mins_ln (v := (dr x.2.2).1) hpc hi) hn
        exact ⟨this.1, this.2, mspl_o (j := 155) hpc s1 (by omega) (by omega) h18 (by omega) (by omega) (by omega) (by omega)⟩
      · have := fWS_spl hD hW hC hk hpc hz hi hn
        exact ⟨this.1, this.2, mspl_o (j := 155) hpc s1 (by omega) (by omega) h18 (by omega) (by omega) (by omega) (by omega)⟩
    · split
      · have := fWS_bru hD hW hC hk
        exact ⟨this.1, this.2, mbru_o (j := 155) (by omega) (by omega)⟩
      · exact ⟨hW, hC, rfl⟩
  · exact ⟨hW, hC, rfl⟩
theorem fWS_frz {Z : Type} {dr : Z → Nat × Z} {D : fSD} {fill cold : Nat} (hD : fWD D) : ∀ (n k : Nat) (x : fX Z), k + n = dT D 1 → fWS D x.1 → fWC D x.1 → x.1 155 < 30 → fWS D (mfrz dr D fill cold n k x).1 ∧ fWC D (mfrz dr D fill cold n k x).1 ∧ (mfrz dr D fill cold n k x).1 155 = x.1 155
  | 0, _, _, _, hW, hC, _ => ⟨hW, hC, rfl⟩
  | n + 1, k, x, e, hW, hC, hn => by
    have h1 := fWS_st (dr := dr) (fill := fill) (cold := cold) (k := k) hD hW hC (by omega) hn
    have h2 := fWS_frz (dr := dr) (fill := fill) (cold := cold) hD n (k + 1) _ (by omega) h1.1 h1.2.1 (by rw [h1.2.2]; exact hn)
    exact ⟨h2.1, h2.2.1, h2.2.2.trans h1.2.2⟩
theorem mst_0 {Z : Type} {dr : Z → Nat × Z} {D : fSD} {fill cold k : Nat} {x : fX Z} (h : ¬ (fill / 2 ^ k % 2 = 1 ∧ mal D x.1 k = true)) : mst dr D fill cold k x = x := if_neg h
theorem mfrz_0 {Z : Type} {dr : Z → Nat × Z} {D : fSD} {fill cold : Nat} : ∀ (n k : Nat) (x : fX Z), fill / 2 ^ k = 0 → mfrz dr D fill cold n k x = x
  | 0, _, _, _ => rfl
  | n + 1, k, x, h => by
    unfold mfrz
    rw [mst_0 (by rw [h]; intro q; exact absurd q.1 (by decide))]
    exact mfrz_0 n (k + 1) x (dv0 h)
