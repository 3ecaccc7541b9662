theorem fyl {k : Nat} (h : k ∈ [15, 22, 37, 46, 59, 69, 79]) : 7 < k ∧ k + 6 < 89 := by
  simp only [List.mem_cons, List.not_mem_nil, or_false] at h
  rcases h with rfl | rfl | rfl | rfl | rfl | rfl | rfl <;> decide
theorem fGr.y {σ σ1 : fAH} {k : Nat} {D : fSD} (h : fGr σ 2 D) (s : fSm (fYA k) σ σ1) (hY : k ∈ [15, 22, 37, 46, 59, 69, 79]) : fGr σ1 2 D := h.sm s (fun i hi => by have := fyl hY; unfold fYA; omega)
theorem fYt.cg {σ σ' : fAH} {k : Nat} {S S' : Nat → Nat} {T : Nat → Int32} (h : fYt σ k S T) (e4 : fI σ' (k + 4) = fI σ (k + 4)) (e5 : fI σ' (k + 5) = fI σ (k + 5)) (e : S' 152 = S 152) (e' : S' 155 = S 155) : fYt σ' k S' T := by
  unfold fYt
  rw [e4, e5, e, e']
  exact h
theorem fI_ne {σ : fAH} {k j a : Nat} {v : Int32} (h : a ≠ k) : fI (fsI σ k j v) a = fI σ a := fup_ne _ _ _ h
theorem mup_id (S : Nat → Nat) (i : Nat) : mup S i (S i) = S := by
  funext j
  unfold mup
  split
  · next e => rw [e]
  · rfl
theorem fYr.sdx {σ : fAH} {k : Nat} {D : fSD} {S : Nat → Nat} {m : Nat} {sd : Int32} (h : fYr σ k D S m sd) (v : Int32) : fYr (fsI σ (k + 6) 0 v) k D S m v := by
  obtain ⟨⟨a1, a2, a3, a4, a5, a6, a7, a8⟩, b, c, e, f, w⟩ := h
  refine ⟨⟨?_, ?_, ?_, ?_, ?_, ?_, ?_, ?_⟩, fun p hp c9 hc => ?_, fun i hi => ?_, fun o ho => ?_, f, w⟩
  all_goals rw [fI_I]
  · rw [if_neg (by omega)]; exact a1
  · rw [if_neg (by omega)]; exact a2
  · rw [if_neg (by omega)]; exact a3
  · rw [if_neg (by omega)]; exact a4
  · rw [if_neg (by omega)]; exact a5
  · rw [if_neg (by omega)]; exact a6
  · rw [if_neg (by omega)]; exact a7
  · rw [if_pos ⟨rfl, rfl⟩]
  · rw [if_neg (by omega)]; exact b p hp c9 hc
  · rw [if_neg (by omega)]; exact c i hi
  · rw [if_neg (by omega)]; exact e o ho
theorem fYr.f9 {σ : fAH} {k : Nat} {D : fSD} {S : Nat → Nat} {m v : Nat} {sd : Int32} (h : fYr σ k D S m sd) (hD : fWD D) (np : S 120 ≤ 18) : fYr (fsI σ k 9 (nI v)) k D (mup S 155 v) m sd := by
  obtain ⟨t0, t1, t2, t3, t4, t5, t6⟩ := id hD.1
  obtain ⟨⟨a1, a2, a3, a4, a5, a6, a7, a8⟩, b, c, e, f, w⟩ := h
  refine ⟨⟨?_, ?_, ?_, ?_, ?_, ?_, ?_, ?_⟩, fun p hp c9 hc => ?_, fun i hi => ?_, fun o ho => ?_, f, fun i hi => ?_⟩
  · rw [fI_I, if_neg (by omega), mup_n _ _ (by omega)]; exact a1
  · rw [fI_I, if_neg (by omega)]; exact a2
  · rw [fI_I, if_pos ⟨rfl, rfl⟩, mup_s]
  · rw [fI_I, if_neg (by omega), mup_n _ _ (by omega)]; exact a4
  · rw [fI_I, if_neg (by omega), mup_n _ _ (by omega)]; exact a5
  · rw [fI_I, if_neg (by omega), mup_n _ _ (by omega)]; exact a6
  · rw [fI_I, if_neg (by omega), mup_n _ _ (by omega)]; exact a7
  · rw [fI_I, if_neg (by omega)]; exact a8
  · rw [mup_n _ _ (by omega)] at hp
    rw [fI_I, if_neg (by omega), mup_n _ _ (by omega)]; exact b p hp c9 hc
  · rw [fI_I, if_neg (by omega), mup_n _ _ (by omega)]; exact c i hi
  · rw [fI_I, if_neg (by omega), mup_n _ _ (by omega)]; exact e o ho
  · rw [mup_n _ _ (by omega)]; exact w i hi
theorem fYr.f10 {σ : fAH} {k : Nat} {D : fSD} {S : Nat → Nat} {m v : Nat} {sd : Int32} (h : fYr σ k D S m sd) (hD : fWD D) (np : S 120 ≤ 18) : fYr (fsI σ k 10 (nI v)) k D (mup S 151 v) m sd := by
  obtain ⟨t0, t1, t2, t3, t4, t5, t6⟩ := id hD.1
  obtain ⟨⟨a1, a2, a3, a4, a5, a6, a7, a8⟩, b, c, e, f, w⟩ := h
  refine ⟨⟨?_, ?_, ?_, ?_, ?_, ?_, ?_, ?_⟩, fun p hp c9 hc => ?_, fun i hi => ?_, fun o ho => ?_, f, fun i hi => ?_⟩
  · rw [fI_I, if_neg (by omega), mup_n _ _ (by omega)]; exact a1
  · rw [fI_I, if_neg (by omega)]; exact a2
  · rw [fI_I, if_neg (by omega), mup_n _ _ (by omega)]; exact a3
  · rw [fI_I, if_pos ⟨rfl, rfl⟩, mup_s]
  · rw [fI_I, if_neg (by omega), mup_n _ _ (by omega)]; exact a5
  · rw [fI_I, if_neg (by omega), mup_n _ _ (by omega)]; exact a6
  · rw [fI_I, if_neg (by omega), mup_n _ _ (by omega)]; exact a7
  · rw [fI_I, if_neg (by omega)]; exact a8
  · rw [mup_n _ _ (by omega)] at hp
    rw [fI_I, if_neg (by omega), mup_n _ _ (by omega)]; exact b p hp c9 hc
  · rw [fI_I, if_neg (by omega), mup_n _ _ (by omega)]; exact c i hi
  · rw [fI_I, if_neg (by omega), mup_n _ _ (by omega)]; exact e o ho
  · rw [mup_n _ _ (by omega)]; exact w i hi
theorem fYr.f11 {σ : fAH} {k : Nat} {D : fSD} {S : Nat → Nat} {m v : Nat} {sd : Int32} (h : fYr σ k D S m sd) (hD : fWD D) (np : S 120 ≤ 18) : fYr (fsI σ k 11 (nI v)) k D (mup S 152 v) m sd := by
  obtain ⟨t0, t1, t2, t3, t4, t5, t6⟩ := id hD.1
  obtain ⟨⟨a1, a2, a3, a4, a5, a6, a7, a8⟩, b, c, e, f, w⟩ := h
  refine ⟨⟨?_, ?_, ?_, ?_, ?_, ?_, ?_, ?_⟩, fun p hp c9 hc => ?_, fun i hi => ?_, fun o ho => ?_, f, fun i hi => ?_⟩
  · rw [fI_I, if_neg (by omega), mup_n _ _ (by omega)]; exact a1
  · rw [fI_I, if_neg (by omega)]; exact a2
  · rw [fI_I, if_neg (by omega), mup_n _ _ (by omega)]; exact a3
  · rw [fI_I, if_neg (by omega), mup_n _ _ (by omega)]; exact a4
  · rw [fI_I, if_pos ⟨rfl, rfl⟩, mup_s]
  · rw [fI_I, if_neg (by omega), mup_n _ _ (by omega)]; exact a6
  · rw [fI_I, if_neg (by omega), mup_n _ _ (by omega)]; exact a7
  · rw [fI_I, if_neg (by omega)]; exact a8
  · rw [mup_n _ _ (by omega)] at hp
    rw [fI_I, if_neg (by omega), mup_n _ _ (by omega)]; exact b p hp c9 hc
  · rw [fI_I, if_neg (by omega), mup_n _ _ (by omega)]; exact c i hi
  · rw [fI_I, if_neg (by omega), mup_n _ _ (by omega)]; exact e o ho
  · rw [mup_n _ _ (by omega)]; exact w i hi
theorem fYr.f12 {σ : fAH} {k : Nat} {D : fSD} {S : Nat → Nat} {m v : Nat} {sd : Int32} (h : fYr σ k D S m sd) (hD : fWD D) (np : S 120 ≤ 18) : fYr (fsI σ k 12 (nI v)) k D (mup S 153 v) m sd := by
  obtain ⟨t0, t1, t2, t3, t4, t5, t6⟩ := id hD.1
  obtain ⟨⟨a1, a2, a3, a4, a5, a6, a7, a8⟩, b, c, e, f, w⟩ := h
  refine ⟨⟨?_, ?_, ?_, ?_, ?_, ?_, ?_, ?_⟩, fun p hp c9 hc => ?_, fun i hi => ?_, fun o ho => ?_, f, fun i hi => ?_⟩
  · rw [fI_I, if_neg (by omega), mup_n _ _ (by omega)]; exact a1
  · rw [fI_I, if_neg (by omega)]; exact a2
  · rw [fI_I, if_neg (by omega), mup_n _ _ (by omega)]; exact a3
  · rw [fI_I, if_neg (by omega), mup_n _ _ (by omega)]; exact a4
  · rw [fI_I, if_neg (by omega), mup_n _ _ (by omega)]; exact a5
  · rw [fI_I, if_pos ⟨rfl, rfl⟩, mup_s]
  · rw [fI_I, if_neg (by omega), mup_n _ _ (by omega)]; exact a7
  · rw [fI_I, if_neg (by omega)]; exact a8
  · rw [mup_n _ _ (by omega)] at hp
    rw [fI_I, if_neg (by omega), mup_n _ _ (by omega)]; exact b p hp c9 hc
  · rw [fI_I, if_neg (by omega), mup_n _ _ (by omega)]; exact c i hi
  · rw [fI_I, if_neg (by omega), mup_n _ _ (by omega)]; exact e o ho
  · rw [mup_n _ _ (by omega)]; exact w i hi
theorem fYr.f13 {σ : fAH} {k : Nat} {D : fSD} {S : Nat → Nat} {m v : Nat} {sd : Int32} (h : fYr σ k D S m sd) (hD : fWD D) (np : S 120 ≤ 18) : fYr (fsI σ k 13 (nI v)) k D (mup S 154 v) m sd := by
  obtain ⟨t0, t1, t2, t3, t4, t5, t6⟩ := id hD.1
  obtain ⟨⟨a1, a2, a3, a4, a5, a6, a7, a8⟩, b, c, e, f, w⟩ := h
  refine ⟨⟨?_, ?_, ?_, ?_, ?_, ?_, ?_, ?_⟩, fun p hp c9 hc => ?_, fun i hi => ?_, fun o ho => ?_, f, fun i hi => ?_⟩
  · rw [fI_I, if_neg (by omega), mup_n _ _ (by omega)]; exact a1
  · rw [fI_I, if_neg (by omega)]; exact a2
  · rw [fI_I, if_neg (by omega), mup_n _ _ (by omega)]; exact a3
  · rw [fI_I, if_neg (by omega), mup_n _ _ (by omega)]; exact a4
  · rw [fI_I, if_neg (by omega), mup_n _ _ (by omega)]; exact a5
  · rw [fI_I, if_neg (by omega), mup_n _ _ (by omega)]; exact a6
  · rw [fI_I, if_pos ⟨rfl, rfl⟩, mup_s]
  · rw [fI_I, if_neg (by omega)]; exact a8
  · rw [mup_n _ _ (by omega)] at hp
    rw [fI_I, if_neg (by omega), mup_n _ _ (by omega)]; exact b p hp c9 hc
  · rw [fI_I, if_neg (by omega), mup_n _ _ (by omega)]; exact c i hi
  · rw [fI_I, if_neg (by omega), mup_n _ _ (by omega)]; exact e o ho
  · rw [mup_n _ _ (by omega)]; exact w i hi
theorem fYr.dep {σ : fAH} {k : Nat} {D : fSD} {S : Nat → Nat} {m v : Nat} {sd : Int32} {s : Nat} (hs : s < 12) (h : fYr σ k D S m sd) (hD : fWD D) (np : S 120 ≤ 18) : fYr (fsI σ (k + 2) s (nI v)) k D (mup S (121 + s) v) m sd := by
  obtain ⟨t0, t1, t2, t3, t4, t5, t6⟩ := id hD.1
  obtain ⟨⟨a1, a2, a3, a4, a5, a6, a7, a8⟩, b, c, e, f, w⟩ := h
  refine ⟨⟨?_, ?_, ?_, ?_, ?_, ?_, ?_, ?_⟩, fun p hp c9 hc => ?_, fun i hi => ?_, fun o ho => ?_, f, fun i hi => ?_⟩
  · rw [fI_I, if_neg (by omega), mup_n _ _ (by omega)]; exact a1
  · rw [fI_I, if_neg (by omega)]; exact a2
  · rw [fI_I, if_neg (by omega), mup_n _ _ (by omega)]; exact a3
  · rw [fI_I, if_neg (by omega), mup_n _ _ (by omega)]; exact a4
  · rw [fI_I, if_neg (by omega), mup_n _ _ (by omega)]; exact a5
  · rw [fI_I, if_neg (by omega), mup_n _ _ (by omega)]; exact a6
  · rw [fI_I, if_neg (by omega), mup_n _ _ (by omega)]; exact a7
  · rw [fI_I, if_neg (by omega)]; exact a8
  · rw [mup_n _ _ (by omega)] at hp
    rw [fI_I, if_neg (by omega), mup_n _ _ (by omega)]; exact b p hp c9 hc
  · by_cases e9 : i = s
    · rw [e9, fI_I, if_pos ⟨rfl, rfl⟩, mup_s]
    · rw [fI_I, if_neg (by omega), mup_n _ _ (by omega)]; exact c i hi
  · rw [fI_I, if_neg (by omega), mup_n _ _ (by omega)]; exact e o ho
  · rw [mup_n _ _ (by omega)]; exact w i hi
theorem fYr.has {σ : fAH} {k : Nat} {D : fSD} {S : Nat → Nat} {m v : Nat} {sd : Int32} {s : Nat} (hs : s < 6) (h : fYr σ k D S m sd) (hD : fWD D) (np : S 120 ≤ 18) : fYr (fsI σ (k + 3) s (nI v)) k D (mup S (145 + s) v) m sd := by
  obtain ⟨t0, t1, t2, t3, t4, t5, t6⟩ := id hD.1
  obtain ⟨⟨a1, a2, a3, a4, a5, a6, a7, a8⟩, b, c, e, f, w⟩ := h
  refine ⟨⟨?_, ?_, ?_, ?_, ?_, ?_, ?_, ?_⟩, fun p hp c9 hc => ?_, fun i hi => ?_, fun o ho => ?_, f, fun i hi => ?_⟩
  · rw [fI_I, if_neg (by omega), mup_n _ _ (by omega)]; exact a1
  · rw [fI_I, if_neg (by omega)]; exact a2
  · rw [fI_I, if_neg (by omega), mup_n _ _ (by omega)]; exact a3
  · rw [fI_I, if_neg (by omega), mup_n _ _ (by omega)]; exact a4
  · rw [fI_I, if_neg (by omega), mup_n _ _ (by omega)]; exact a5
  · rw [fI_I, if_neg (by omega), mup_n _ _ (by omega)]; exact a6
  · rw [fI_I, if_neg (by omega), mup_n _ _ (by omega)]; exact a7
  · rw [fI_I, if_neg (by omega)]; exact a8
  · rw [mup_n _ _ (by omega)] at hp
    rw [fI_I, if_neg (by omega), mup_n _ _ (by omega)]; exact b p hp c9 hc
  · rw [fI_I, if_neg (by omega), mup_n _ _ (by omega)]; exact c i hi
  · by_cases e9 : o = s
    · rw [e9, fI_I, if_pos ⟨rfl, rfl⟩, mup_s]
    · rw [fI_I, if_neg (by omega), mup_n _ _ (by omega)]; exact e o ho
  · rw [mup_n _ _ (by omega)]; exact w i hi
theorem fYr.pcs {σ : fAH} {k : Nat} {D : fSD} {S : Nat → Nat} {m v : Nat} {sd : Int32} {s : Nat} (hs : s < 108) (h : fYr σ k D S m sd) (hD : fWD D) (np : S 120 ≤ 18) : fYr (fsI σ (k + 1) s (nI v)) k D (mup S s v) m sd := by
  obtain ⟨t0, t1, t2, t3, t4, t5, t6⟩ := id hD.1
  obtain ⟨⟨a1, a2, a3, a4, a5, a6, a7, a8⟩, b, c, e, f, w⟩ := h
  refine ⟨⟨?_, ?_, ?_, ?_, ?_, ?_, ?_, ?_⟩, fun p hp c9 hc => ?_, fun i hi => ?_, fun o ho => ?_, f, fun i hi => ?_⟩
  · rw [fI_I, if_neg (by omega), mup_n _ _ (by omega)]; exact a1
  · rw [fI_I, if_neg (by omega)]; exact a2
  · rw [fI_I, if_neg (by omega), mup_n _ _ (by omega)]; exact a3
  · rw [fI_I, if_neg (by omega), mup_n _ _ (by omega)]; exact a4
  · rw [fI_I, if_neg (by omega), mup_n _ _ (by omega)]; exact a5
  · rw [fI_I, if_neg (by omega), mup_n _ _ (by omega)]; exact a6
  · rw [fI_I, if_neg (by omega), mup_n _ _ (by omega)]; exact a7
  · rw [fI_I, if_neg (by omega)]; exact a8
  · rw [mup_n _ _ (by omega)] at hp
    by_cases e9 : p * 6 + c9 = s
    · rw [fI_I, if_pos ⟨rfl, e9⟩, e9, mup_s]
    · rw [fI_I, if_neg (by omega), mup_n _ _ (by omega)]; exact b p hp c9 hc
  · rw [fI_I, if_neg (by omega), mup_n _ _ (by omega)]; exact c i hi
  · rw [fI_I, if_neg (by omega), mup_n _ _ (by omega)]; exact e o ho
  · rw [mup_n _ _ (by omega)]; exact w i hi
theorem fYr.msk {σ : fAH} {k : Nat} {D : fSD} {S : Nat → Nat} {m v s : Nat} {sd : Int32} (hs : s < 12) (hv : 0 < v) (h : fYr σ k D S m sd) (hD : fWD D) (np : S 120 ≤ 18) : fYr (fsI σ k 4 (nI (m ||| 2 ^ s))) k D (mup S (133 + s) v) (m ||| 2 ^ s) sd := by
  obtain ⟨t0, t1, t2, t3, t4, t5, t6⟩ := id hD.1
  obtain ⟨⟨a1, a2, a3, a4, a5, a6, a7, a8⟩, b, c, e, f, w⟩ := h
  refine ⟨⟨?_, ?_, ?_, ?_, ?_, ?_, ?_, ?_⟩, fun p hp c9 hc => ?_, fun i hi => ?_, fun o ho => ?_, ?_, fun i hi => ?_⟩
  · rw [fI_I, if_neg (by omega), mup_n _ _ (by omega)]; exact a1
  · rw [fI_I, if_pos ⟨rfl, rfl⟩]
  · rw [fI_I, if_neg (by omega), mup_n _ _ (by omega)]; exact a3
  · rw [fI_I, if_neg (by omega), mup_n _ _ (by omega)]; exact a4
  · rw [fI_I, if_neg (by omega), mup_n _ _ (by omega)]; exact a5
  · rw [fI_I, if_neg (by omega), mup_n _ _ (by omega)]; exact a6
  · rw [fI_I, if_neg (by omega), mup_n _ _ (by omega)]; exact a7
  · rw [fI_I, if_neg (by omega)]; exact a8
  · rw [mup_n _ _ (by omega)] at hp
    rw [fI_I, if_neg (by omega), mup_n _ _ (by omega)]; exact b p hp c9 hc
  · rw [fI_I, if_neg (by omega), mup_n _ _ (by omega)]; exact c i hi
  · rw [fI_I, if_neg (by omega), mup_n _ _ (by omega)]; exact e o ho
  · exact Nat.or_lt_two_pow (n := 12) f (Nat.pow_lt_pow_right (by decide) hs)
  · rw [Nat.testBit_or, Nat.testBit_two_pow]
    by_cases e9 : i = s
    · rw [e9, mup_s, decide_eq_true hv, decide_eq_true rfl, Bool.or_true]
    · have e8 : decide (s = i) = false := decide_eq_false (fun q => e9 q.symm)
      rw [mup_n _ _ (by omega), w i hi, e8, Bool.or_false]
theorem fYr.dvd {σ : fAH} {k : Nat} {D : fSD} {S : Nat → Nat} {m s p ln : Nat} {sd : Int32} (h : fYr σ k D S m sd) (hD : fWD D) (h18 : S 120 < 18) (hp0 : p < S 120) (hw : dS D s 1 ≤ 1) : fYr (fsI (fsI (fsI (fcpy σ (k + 1) (k + 1) (p * 6) (S 120 * 6) 6) (k + 1) (p * 6 + (2 + 2 * dS D s 1)) (nI ln)) (k + 1) (S 120 * 6 + (1 + 2 * dS D s 1)) (nI ln)) k 2 (nI (S 120 + 1))) k D (mdv D S s p ln) m sd := by
  obtain ⟨t0, t1, t2, t3, t4, t5, t6⟩ := id hD.1
  obtain ⟨⟨a1, a2, a3, a4, a5, a6, a7, a8⟩, b, c, e, f, w⟩ := h
  have p18 : p < 18 := by omega
  refine ⟨⟨?_, ?_, ?_, ?_, ?_, ?_, ?_, ?_⟩, fun x hx c9 hc => ?_, fun i hi => ?_, fun o ho => ?_, f, fun i hi => ?_⟩
  · rw [fI_I, if_pos ⟨rfl, rfl⟩, mdv_120 hw p18 h18]
  · rw [fI_I, if_neg (by omega), fI_I, if_neg (by omega), fI_I, if_neg (by omega), fI_C, if_neg (by omega)]; exact a2
  · rw [fI_I, if_neg (by omega), fI_I, if_neg (by omega), fI_I, if_neg (by omega), fI_C, if_neg (by omega), mdv_o hw p18 h18 (by omega)]; exact a3
  · rw [fI_I, if_neg (by omega), fI_I, if_neg (by omega), fI_I, if_neg (by omega), fI_C, if_neg (by omega), mdv_o hw p18 h18 (by omega)]; exact a4
  · rw [fI_I, if_neg (by omega), fI_I, if_neg (by omega), fI_I, if_neg (by omega), fI_C, if_neg (by omega), mdv_o hw p18 h18 (by omega)]; exact a5
  · rw [fI_I, if_neg (by omega), fI_I, if_neg (by omega), fI_I, if_neg (by omega), fI_C, if_neg (by omega), mdv_o hw p18 h18 (by omega)]; exact a6
  · rw [fI_I, if_neg (by omega), fI_I, if_neg (by omega), fI_I, if_neg (by omega), fI_C, if_neg (by omega), mdv_o hw p18 h18 (by omega)]; exact a7
  · rw [fI_I, if_neg (by omega), fI_I, if_neg (by omega), fI_I, if_neg (by omega), fI_C, if_neg (by omega)]; exact a8
  · rw [mdv_120 hw p18 h18] at hx
    rw [mdv_p hw hp0 h18 hx hc, fI_I, if_neg (by omega)]
    by_cases ex : x = S 120
    · rw [if_pos ex, ex]
      by_cases e2 : c9 = 1 + 2 * dS D s 1
      · rw [if_pos e2, fI_I, if_pos ⟨rfl, by omega⟩]
      · rw [if_neg e2, fI_I, if_neg (by omega), fI_I, if_neg (by omega), fI_C, if_pos rfl, if_pos (by omega), show p * 6 + (S 120 * 6 + c9 - S 120 * 6) = p * 6 + c9 by omega]
        exact b p hp0 c9 hc
    · rw [if_neg ex, fI_I, if_neg (by omega)]
      by_cases e2 : x = p ∧ c9 = 2 + 2 * dS D s 1
      · rw [if_pos e2, fI_I, if_pos ⟨rfl, by omega⟩]
      · rw [if_neg e2, fI_I, if_neg (by omega), fI_C, if_pos rfl, if_neg (by omega)]
        exact b x (by omega) c9 hc
  · rw [fI_I, if_neg (by omega), fI_I, if_neg (by omega), fI_I, if_neg (by omega), fI_C, if_neg (by omega), mdv_o hw p18 h18 (by omega)]; exact c i hi
  · rw [fI_I, if_neg (by omega), fI_I, if_neg (by omega), fI_I, if_neg (by omega), fI_C, if_neg (by omega), mdv_o hw p18 h18 (by omega)]; exact e o ho
  · rw [mdv_o hw p18 h18 (by omega)]; exact w i hi
theorem fI_Cn {σ : fAH} {ks kd sp dp n a : Nat} (h : a ≠ kd) : fI (fcpy σ ks kd sp dp n) a = fI σ a := if_neg h
/-- draws out of a row of ways: how many are asked, how many are settled, the row -/
abbrev fZW : Type := Nat × Nat × (Nat → Nat)
def wdr (z : fZW) : Nat × fZW := if 12 ≤ z.1 then (2, z) else if z.2.1 ≤ z.1 then (0, (z.1 + 1, z.1 + 1, mup z.2.2 z.1 0)) else (z.2.2 z.1, (z.1 + 1, z.2.1, z.2.2))
def fWr (σ : fAH) (w : Nat) (z : fZW) : Prop := (fI σ w 2 = nI z.1 ∧ fI σ w 1 = nI z.2.1) ∧ (∀ i, i < 12 → fI σ (w + 1) i = nI (z.2.2 i)) ∧ z.1 ≤ 12 ∧ z.2.1 ≤ 12 ∧ ∀ i, z.2.2 i < 100
def fWs (g : fGP) (σ : fAH) (w : Nat) : Prop := (gsh g w = .inl 6 ∧ gsh g (w + 1) = .inr (0, 12)) ∧ (w + 1 < fnx σ ∧ fnx σ ≤ 1000) ∧ fR σ w 0 = some (w + 1)
theorem fMs.ways {g : fGP} {σ : fAH} (h : fMs g σ) {w : Nat} (hw : w ∈ [44, 53]) : fWs g σ w := by
  simp only [List.mem_cons, List.not_mem_nil, or_false] at hw
  rcases hw with rfl | rfl <;> exact ⟨⟨h.s _ rfl, h.s _ rfl⟩, ⟨h.n (by decide), by rw [h.2.1]; decide⟩, h.r _ _ rfl⟩
def fWA (w : Nat) : Nat → Prop := fun a => a = w ∨ a = w + 1
theorem fWr.sm {A : Nat → Prop} {σ σ1 : fAH} {w : Nat} {z : fZW} (h : fWr σ w z) (s : fSm A σ σ1) (n0 : ¬ A w) (n1 : ¬ A (w + 1)) : fWr σ1 w z := by
  unfold fWr
  rw [(s.2.2 _ n0).1, (s.2.2 _ n1).1]
  exact h
theorem qd_sm : Cond.sameMethod RX1 RX1 "quarter" "()I" ∈ lw_tbl := List.mem_of_getElem? (i := 1005) (by decide +kernel)
theorem qd_dc : Cond.declares ⟨RX1, "quarter", "()I"⟩ ∈ lw_tbl := List.mem_of_getElem? (i := 1004) (by decide +kernel)
theorem qd_s4 : Cond.selects (fKC 3) ⟨RX1, "quarter", "()I"⟩ mX4_quarter.1 ∈ lw_tbl := List.mem_of_getElem? (i := 1006) (by decide +kernel)
theorem qd_s7 : Cond.selects (fKC 6) ⟨RX1, "quarter", "()I"⟩ mX7_quarter.1 ∈ lw_tbl := List.mem_of_getElem? (i := 1009) (by decide +kernel)
