/-! ===== all is made: the references are those of the layout ===== -/
theorem frl_len : frl.length = 301 := by decide +kernel
theorem frl_row : ∀ r ∈ frl, r.length ≤ 64 := by decide +kernel
theorem frft_hi {k j : Nat} (h : 301 ≤ k ∨ 64 ≤ j) : frft k j = none := by
  unfold frft
  rw [List.getD_eq_getElem?_getD, List.getD_eq_getElem?_getD]
  cases hk : frl[k]? with
  | none => rfl
  | some r =>
    have hr := frl_row r (List.mem_of_getElem? hk)
    have hl : k < frl.length := (List.getElem?_eq_some_iff.mp hk).1
    rw [frl_len] at hl
    show (r[j]?).getD none = none
    rw [List.getElem?_eq_none (by omega)]
    rfl
def fSb (R : Nat → Nat → Option Nat) : Prop := ∀ a j v, R a j = some v → frft a j = some v
theorem fSb.up {R : Nat → Nat → Option Nat} {k i v : Nat} (h : fSb R) (hk : frft k i = some v) : fSb (fup R k i (some v)) := fun a j w e => by
  by_cases q : a = k ∧ j = i
  · obtain ⟨rfl, rfl⟩ := q
    rw [fup_s] at e
    exact hk.trans e
  · rw [fup_o q] at e
    exact h a j w e
theorem fSb.mR {R : Nat → Nat → Option Nat} {n N : Nat} (h : fSb R) (hk : ∀ i, i < N → frft n i = some (n + 1 + i)) : fSb (fmR R n N) := fun a j w e => by
  by_cases q : a = n
  · subst q
    have e : (if a = a then (if j < N then some (a + 1 + j) else none) else R a j) = some w := e
    rw [if_pos rfl] at e
    by_cases hj : j < N
    · rw [if_pos hj] at e
      exact (hk j hj).trans e
    · rw [if_neg hj] at e
      cases e
  · rw [fmR_o q] at e
    exact h a j w e
def fR0 : Nat → Nat → Option Nat := fun _ _ => none
def fI00 : Nat → Nat → Int32 := fun _ _ => 0
def fJ00 : Nat → Nat → Int64 := fun _ _ => 0
theorem fZ0 : fZ 0 fR0 fI00 fJ00 := fun _ _ _ => ⟨rfl, rfl, rfl⟩
theorem fSb0 : fSb fR0 := fun _ _ _ e => by cases e
set_option maxRecDepth 20000 in
theorem fSb_x : fSb (xRf fR0) := by
  unfold xRf oRf rRf yRf dRf wRf tRf gRf
  repeat' first | exact fSb0 | refine fSb.up ?_ rfl
set_option maxRecDepth 20000 in
theorem fSb_z : fSb (zRf (xRf fR0)) := by
  unfold zRf
  repeat' first | exact fSb_x | refine fSb.up ?_ rfl | refine fSb.mR ?_ frf_readBlock | refine fSb.mR ?_ frf_block | refine fSb.mR ?_ frf_readSlot | refine fSb.mR ?_ frf_slot | refine fSb.mR ?_ frf_readOrder | refine fSb.mR ?_ frf_order | refine fSb.mR ?_ frf_readOdds | refine fSb.mR ?_ frf_odds | refine fSb.mR ?_ frf_aside | refine fSb.mR ?_ frf_record | refine fSb.mR ?_ frf_trace | refine fSb.mR ?_ frf_kept
set_option maxRecDepth 100000 in
theorem R_in : ∀ a, a < 301 → ∀ j, j < (frl.getD a []).length → (zRf (xRf fR0) a j).isSome = true ∨ frft a j = none := by decide +kernel
theorem R_end : zRf (xRf fR0) = frft := by
  funext a j
  cases hR : zRf (xRf fR0) a j with
  | some v => exact (fSb_z a j v hR).symm
  | none =>
    by_cases h : a < 301
    · by_cases hj : j < (frl.getD a []).length
      · rcases R_in a h j hj with e | e
        · rw [hR] at e; cases e
        · exact e.symm
      · unfold frft
        rw [List.getD_eq_getElem?_getD, List.getElem?_eq_none (by omega)]
        rfl
    · exact (frft_hi (by omega)).symm
/-! the first state -/
theorem mS0_0 (j : Nat) : mS0 D0 j = 0 := by
  show mup (fun _ => 0) 120 0 j = 0
  unfold mup
  split <;> rfl
def i0 : fIm := (mS0 D0, fun _ => 0, 0, 0, fun _ => 0, 0, fun _ => 0)
def x0 : fXS := (D0, i0, fun _ => 0, 0, -1, 0, fun _ => i0)
theorem fOK0 : fOK x0 := by
  refine ⟨fWD0, ⟨fWS0 fWD0, fWC0 fWD0, fWN0 fWD0, Nat.zero_le _, fun _ => (show (0 : Nat) < 4096 by decide), Nat.zero_le _, fun _ => (show (0 : Nat) < 4 by decide)⟩, fun _ => (show (0 : Nat) < 256 by decide), Nat.zero_le _, Nat.zero_le _, fun j hj => absurd hj (Nat.not_lt_zero _)⟩
section FX0
variable {σ : fAH}
theorem sb_0 : (0 : Int32) = sb 0 := by decide
theorem fYf0 {k : Nat} (h : ∀ a, k ≤ a → a < k + 7 → ∀ j, fI σ a j = 0) : fYf σ k D0 (mS0 D0) (fun _ => 0) 0 := by
  have e : ∀ a, k ≤ a → a < k + 7 → ∀ j n, mS0 D0 n = 0 → fI σ a j = nI (mS0 D0 n) := fun a h1 h2 j n hn => by rw [hn]; exact h a h1 h2 j
  refine ⟨⟨0, ⟨⟨e _ (by omega) (by omega) _ _ (mS0_0 _), h _ (by omega) (by omega) _, e _ (by omega) (by omega) _ _ (mS0_0 _), e _ (by omega) (by omega) _ _ (mS0_0 _), e _ (by omega) (by omega) _ _ (mS0_0 _), e _ (by omega) (by omega) _ _ (mS0_0 _), e _ (by omega) (by omega) _ _ (mS0_0 _), h _ (by omega) (by omega) _⟩, fun p _ c _ => e _ (by omega) (by omega) _ _ (mS0_0 _), fun i _ => e _ (by omega) (by omega) _ _ (mS0_0 _), fun o _ => e _ (by omega) (by omega) _ _ (mS0_0 _), by decide, fun i _ => ?_⟩⟩, fun i _ c _ => h _ (by omega) (by omega) _, fun t _ => h _ (by omega) (by omega) _⟩
  rw [mS0_0, Nat.zero_testBit]
  rfl
theorem fIc0 (g2 : fGr σ 2 D0) (h0 : ∀ j, fI σ 0 j = if j = 2 then -1 else 0) (h : ∀ a, a < 89 → ¬ (a = 0 ∨ (2 ≤ a ∧ a < 15)) → ∀ j, fI σ a j = 0) : fIc σ x0 := by
  refine ⟨g2, fYf0 (fun a h1 h2 => h a (by omega) (by omega)), ⟨h 29 (by omega) (by omega) 1, fun j hj => absurd hj (Nat.not_lt_zero _), fun c _ => h 31 (by omega) (by omega) c⟩, ⟨h0 1, fun i _ => (h 1 (by omega) (by omega) i).trans sb_0, h0 2, h0 10⟩, fun j hj => absurd hj (Nat.not_lt_zero _), Or.inl (h0 14), ⟨(0, 0, fun _ => 0), ⟨h 44 (by omega) (by omega) _, h 44 (by omega) (by omega) _⟩, fun i _ => h 45 (by omega) (by omega) i, (show (0 : Nat) ≤ 12 by decide), (show (0 : Nat) ≤ 12 by decide), fun _ => (show (0 : Nat) < 100 by decide)⟩, ⟨(0, 0, fun _ => 0), ⟨h 53 (by omega) (by omega) _, h 53 (by omega) (by omega) _⟩, fun i _ => h 54 (by omega) (by omega) i, (show (0 : Nat) ≤ 12 by decide), (show (0 : Nat) ≤ 12 by decide), fun _ => (show (0 : Nat) < 100 by decide)⟩⟩
theorem fIr0 (h2 : ∀ j, j < 7 → fI σ 92 j = nI (dT D0 j)) (h9 : ∀ j, fI σ 89 j = if j = 3 then -1 else 0) (h : ∀ a, 89 ≤ a → ¬ (a = 89 ∨ a = 91 ∨ a = 92) → ∀ j, fI σ a j = 0) : fIr σ x0 := by
  refine ⟨⟨h2, fun b hb => absurd hb (Nat.not_lt_zero _), fun b hb => absurd hb (Nat.not_lt_zero _), fun b hb => absurd hb (Nat.not_lt_zero _), fun b hb => absurd hb (Nat.not_lt_zero _), fun i _ => ⟨?_, ?_⟩, h 197 (by omega) (by omega) _⟩, ⟨fun i _ c _ => h _ (by omega) (by omega) c, fun t _ => h 220 (by omega) (by omega) t⟩, ⟨h9 21, h9 31, h9 33, h9 1, h9 3, h9 24⟩, fun i _ => h 90 (by omega) (by omega) i, ⟨h9 22, fun j hj => absurd hj (Nat.not_lt_zero _), h9 23, fun r hr => absurd hr (Nat.not_lt_zero _)⟩, fun j hj => absurd hj (Nat.not_lt_zero _)⟩
  · show fI σ 197 i = nI (mS0 D0 i)
    rw [mS0_0]
    exact h 197 (by omega) (by omega) i
  · show mS0 D0 i < 100000
    rw [mS0_0]
    decide
end FX0
