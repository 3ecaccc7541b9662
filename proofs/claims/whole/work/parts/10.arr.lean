/-! ===== rules of fEv: arrays, new cells, library members ===== -/
section FAR
variable {g : fGP} {d : Nat} {M : fMT} {pc : Nat} {L L1 : List (Option Value)} {st : List Value} {σ : fAH} {Q : fRes → fAH → Prop}
theorem fce_arr {k t n : Nat} (hs : gsh g k = .inr (t, n)) : fce g σ k = .inl (gA g t, n, fct g σ t k) := by unfold fce; rw [hs]
theorem fws_arr {k t n : Nat} (hs : gsh g k = .inr (t, n)) (hk : k < fnx σ) : (fws g σ)[k]? = some (gz g + k, .inl (gA g t, n, fct g σ t k)) := by rw [fws_at g σ hk, fce_arr hs]
theorem e_iaload {k n : Nat} {i : Int32} (j : Nat) (hd : decode M.2.1 pc = .ok (.iaload, 1)) (hs : gsh g k = .inr (0, n)) (hk : k < fnx σ) (hi : i = nI j) (hj : j < n) (hn : n < 2147483648) (h : fEv g d M (pc + 1) L (.int (fI σ k j) :: st) σ Q) : fEv g d M pc L (.int i :: .ref k :: st) σ Q := by
  subst hi
  intro p e R s m args below meth c H locs cells slots ls C hl
  show W p (gl g) e R s m args below meth c H locs cells slots _ (F0 m pc ls (.int (nI j) :: .ref (fad g k) :: st.map (fvm g)))
  rw [C.k hk]
  refine va_iald C.1 C.2.1 C.2.2.1.2.2.1 C.2.2.2.2.2.2.2.2.2.2.2.1.1 k 0 (fws_arr hs hk) (ftys_at g (by decide)) (vp_in_nI hj hn) hd ?_
  rw [nI_clamp (by omega)]
  exact h p e R s m args below meth c H locs cells slots ls C hl
theorem e_baload {k n : Nat} {i : Int32} (j : Nat) (hd : decode M.2.1 pc = .ok (.baload, 1)) (hs : gsh g k = .inr (1, n)) (hk : k < fnx σ) (hi : i = nI j) (hj : j < n) (hn : n < 2147483648) (h : fEv g d M (pc + 1) L (.int (fI σ k j) :: st) σ Q) : fEv g d M pc L (.int i :: .ref k :: st) σ Q := by
  subst hi
  intro p e R s m args below meth c H locs cells slots ls C hl
  show W p (gl g) e R s m args below meth c H locs cells slots _ (F0 m pc ls (.int (nI j) :: .ref (fad g k) :: st.map (fvm g)))
  rw [C.k hk]
  refine va_bald C.1 C.2.1 C.2.2.1.2.2.1 C.2.2.2.2.2.2.2.2.2.2.2.1.1 k 1 (fws_arr hs hk) (ftys_at g (by decide)) (vp_in_nI hj hn) hd ?_
  rw [nI_clamp (by omega)]
  exact h p e R s m args below meth c H locs cells slots ls C hl
theorem e_laload {k n : Nat} {i : Int32} (j : Nat) (hd : decode M.2.1 pc = .ok (.laload, 1)) (hs : gsh g k = .inr (2, n)) (hk : k < fnx σ) (hi : i = nI j) (hj : j < n) (hn : n < 2147483648) (h : fEv g d M (pc + 1) L (.long (fJ σ k j) :: st) σ Q) : fEv g d M pc L (.int i :: .ref k :: st) σ Q := by
  subst hi
  intro p e R s m args below meth c H locs cells slots ls C hl
  show W p (gl g) e R s m args below meth c H locs cells slots _ (F0 m pc ls (.int (nI j) :: .ref (fad g k) :: st.map (fvm g)))
  rw [C.k hk]
  refine va_lald C.1 C.2.1 C.2.2.1.2.2.1 C.2.2.2.2.2.2.2.2.2.2.2.1.1 k 2 (fws_arr hs hk) (ftys_at g (by decide)) (vp_in_nI hj hn) hd ?_
  rw [nI_clamp (by omega)]
  exact h p e R s m args below meth c H locs cells slots ls C hl
theorem e_aaload {k t n q : Nat} {i : Int32} (j : Nat) (hd : decode M.2.1 pc = .ok (.aaload, 1)) (hs : gsh g k = .inr (t, n)) (ht : 3 ≤ t ∧ t < 7) (hk : k < fnx σ) (hi : i = nI j) (hj : j < n) (hn : n < 2147483648) (hr : fR σ k j = some q) (hq : q < fscr) (h : fEv g d M (pc + 1) L (.ref q :: st) σ Q) : fEv g d M pc L (.int i :: .ref k :: st) σ Q := by
  subst hi
  intro p e R s m args below meth c H locs cells slots ls C hl
  show W p (gl g) e R s m args below meth c H locs cells slots _ (F0 m pc ls (.int (nI j) :: .ref (fad g k) :: st.map (fvm g)))
  rw [C.k hk]
  have hct : fct g σ t k = .inr (.inr (.inr (.inr (fun j => (fR σ k j).map fun q => gz g + q)))) := by
    obtain ⟨h3, h7⟩ := ht
    rcases (show t = 3 ∨ t = 4 ∨ t = 5 ∨ t = 6 by omega) with rfl | rfl | rfl | rfl <;> rfl
  have ha := fws_arr (σ := σ) hs hk
  rw [hct] at ha
  have hty : (fTy t).isReference = true := by
    obtain ⟨h3, h7⟩ := ht
    rcases (show t = 3 ∨ t = 4 ∨ t = 5 ∨ t = 6 by omega) with rfl | rfl | rfl | rfl <;> rfl
  have hP := C.2.2.2.2.2.2.2.2.2.2.2.1.1
  have hK := C.2.2.1.2.2.1
  have hin := vp_in_nI hj hn
  refine W.aald (v := .ref (gz g + q)) (ty := fTy t) C.1 C.2.1 (hP k _ ha) ((hK.2 t _ (ftys_at g ht.2)).1 n (fun j => va_rf ((fR σ k j).map fun q => gz g + q))) hty (fun q => by cases q) (by show ¬ (nI j < 0 ∨ (arrV _ _ _).slots.size ≤ _); rw [arrV_size]; exact hin) (by show (arrV _ _ _).slots[_]? = _; rw [nI_clamp (by omega), arrV_read _ _ hj]; show some (va_rf ((fR σ k j).map fun q => gz g + q)) = _; rw [hr]; rfl) rfl rfl hd ?_
  have e1 : fad g q = gz g + q := by unfold fad; rw [if_neg (by omega)]
  have h2 := h p e R s m args below meth c H locs cells slots ls C hl
  have h3 : W p (gl g) e R s m args below meth c H locs cells slots (fEQ g s R below Q) (F0 m (pc + 1) ls (.ref (fad g q) :: st.map (fvm g))) := h2
  rw [e1] at h3
  exact h3
theorem e_alen {k t n : Nat} (hd : decode M.2.1 pc = .ok (.arraylength, 1)) (hs : gsh g k = .inr (t, n)) (ht : t < 7) (hk : k < fnx σ) (h : fEv g d M (pc + 1) L (.int (nI n) :: st) σ Q) : fEv g d M pc L (.ref k :: st) σ Q := by
  intro p e R s m args below meth c H locs cells slots ls C hl
  show W p (gl g) e R s m args below meth c H locs cells slots _ (F0 m pc ls (.ref (fad g k) :: st.map (fvm g)))
  rw [C.k hk]
  exact va_alen C.1 C.2.1 C.2.2.1.2.2.1 C.2.2.2.2.2.2.2.2.2.2.2.1.1 k t (fws_arr hs hk) (ftys_at g ht) rfl hd (h p e R s m args below meth c H locs cells slots ls C hl)
/-- the law's script -/
theorem e_sld {i : Int32} (j : Nat) (hd : decode M.2.1 pc = .ok (.iaload, 1)) (hi : i = nI j) (hj : j < gLL g) (hn : gLL g < 2147483648) (h : fEv g d M (pc + 1) L (.int (gxs g j) :: st) σ Q) : fEv g d M pc L (.int i :: .ref fscr :: st) σ Q := by
  subst hi
  intro p e R s m args below meth c H locs cells slots ls C hl
  show W p (gl g) e R s m args below meth c H locs cells slots _ (F0 m pc ls (.int (nI j) :: .ref (fad g fscr) :: st.map (fvm g)))
  have e1 : fad g fscr = gbb g := by unfold fad; rw [if_pos (Nat.le_refl _), if_pos rfl]
  rw [e1]
  obtain ⟨-, -, -, -, -, -, -, -, hX, hb, hz, -⟩ := C.2.2.1
  refine va_sld C.1 C.2.1 hX (by omega) (show ¬ gz g ≤ gbb g by omega) C.2.2.2.2.2.2.2.2.2.2.2.2 (vp_in_nI hj hn) hd ?_
  rw [nI_clamp (by omega)]
  exact h p e R s m args below meth c H locs cells slots ls C hl
theorem e_slen (hd : decode M.2.1 pc = .ok (.arraylength, 1)) (h : fEv g d M (pc + 1) L (.int (nI (gLL g)) :: st) σ Q) : fEv g d M pc L (.ref fscr :: st) σ Q := by
  intro p e R s m args below meth c H locs cells slots ls C hl
  show W p (gl g) e R s m args below meth c H locs cells slots _ (F0 m pc ls (.ref (fad g fscr) :: st.map (fvm g)))
  have e1 : fad g fscr = gbb g := by unfold fad; rw [if_pos (Nat.le_refl _), if_pos rfl]
  rw [e1]
  obtain ⟨-, -, -, -, -, -, -, -, hX, hb, hz, -⟩ := C.2.2.1
  exact va_slen C.1 C.2.1 hX (by omega) (show ¬ gz g ≤ gbb g by omega) C.2.2.2.2.2.2.2.2.2.2.2.2 hd (h p e R s m args below meth c H locs cells slots ls C hl)
/-- behind a store into the array k -/
theorem fst_go {k t n : Nat} {σ' : fAH} {p : Program} {R : Room} {s : State} {m : MethodId} {meth : Method} {c : Code} {H H1 : Heap} {locs : List Loc} {cells slots : Nat} {lc : Loc} (C : fCX g d M σ p R s m meth c H locs cells slots) (hs : gsh g k = .inr (t, n)) (hk : k < fnx σ) (h0 : σ'.1 = σ.1) (hc1 : ∀ i, i ≠ k → fce g σ' i = fce g σ i) (hlc : lc.base = gz g + k)
    (e1 : H1[gz g + k]? = some (vp_cell (gA g t) (n, fct g σ' t k))) (e2 : H1.size = H.size) (e3 : ∀ q : Nat, q ≠ gz g + k → H1[q]? = H[q]?) : fCX g d M σ' p R s m meth c H1 (locs ++ [lc]) cells slots := by
  obtain ⟨-, -, -, -, -, -, -, -, -, -, hroom, hRP, hS⟩ := id C
  have hP1 : va_P (gD g) vwCl ((fws g σ).set k (gz g + k, .inl (gA g t, n, fct g σ' t k))) H1 := hRP.1.set (fD g σ) (fws_arr hs hk) e1 e3
  have hset : (fws g σ).set k (gz g + k, .inl (gA g t, n, fct g σ' t k)) = fws g σ' := by
    rw [← fce_arr (σ := σ') hs]
    exact (fws_set g (show fnx σ' = fnx σ by unfold fnx; rw [h0]) (fun i _ hi => hc1 i hi)).symm
  rw [hset] at hP1
  obtain ⟨ba, sl⟩ := lc
  cases hlc
  refine C.to ?_ ⟨hP1, ?_⟩ (hS.put e2 e3 (show gz g ≤ gz g + k by omega))
  · unfold fnx fgb fsu at *
    rw [h0]
    exact hroom
  · unfold fnx fgb at *
    rw [h0, e2]
    exact hRP.2
theorem e_iastore {k n : Nat} {i x : Int32} (j : Nat) (hd : decode M.2.1 pc = .ok (.iastore, 1)) (hs : gsh g k = .inr (0, n)) (hk : k < fnx σ) (hi : i = nI j) (hj : j < n) (hn : n < 2147483648) (h : fEv g d M (pc + 1) L st (fsI σ k j x) Q) : fEv g d M pc L (.int x :: .int i :: .ref k :: st) σ Q := by
  subst hi
  intro p e R s m args below meth c H locs cells slots ls C hl
  show W p (gl g) e R s m args below meth c H locs cells slots _ (F0 m pc ls (.int x :: .int (nI j) :: .ref (fad g k) :: st.map (fvm g)))
  rw [C.k hk]
  have hin := vp_in_nI hj hn
  refine W.iast C.1 C.2.1 (C.2.2.2.2.2.2.2.2.2.2.2.1.1 k _ (fws_arr hs hk)) ((C.2.2.1.2.2.1.2 0 _ (ftys_at g (by decide))).1 n (fun j => .int (fI σ k j))) (fun q => by cases q) (by show ¬ (nI j < 0 ∨ (arrV _ _ _).slots.size ≤ _); rw [arrV_size]; exact hin) rfl rfl hd fun H1 e1 e2 e3 => ?_
  refine h p e R s m args below meth c H1 _ cells slots ls (fst_go C hs hk rfl (fun i hi => fce_I_ne g σ j x hi) rfl ?_ e2 e3) hl
  rw [e1]
  show some ((vp_cell (gA g 0) (n, .inl (fI σ k))).setSlot (nI j).toNatClampNeg (.int x)) = some (vp_cell (gA g 0) (n, .inl (fI (fsI σ k j x) k)))
  rw [vp_cell_i, vp_cell_i, arrV_store, nI_clamp (by omega)]
  congr 2
  funext q
  by_cases hq : q = j
  · subst hq
    simp [updV, fI, fsI, fup]
  · simp [updV, fI, fsI, fup, hq]
theorem e_bastore {k n : Nat} {i x : Int32} (j : Nat) (hd : decode M.2.1 pc = .ok (.bastore, 1)) (hs : gsh g k = .inr (1, n)) (hk : k < fnx σ) (hi : i = nI j) (hj : j < n) (hn : n < 2147483648) (hx : vp_nar .byte x = x) (h : fEv g d M (pc + 1) L st (fsI σ k j x) Q) : fEv g d M pc L (.int x :: .int i :: .ref k :: st) σ Q := by
  subst hi
  intro p e R s m args below meth c H locs cells slots ls C hl
  show W p (gl g) e R s m args below meth c H locs cells slots _ (F0 m pc ls (.int x :: .int (nI j) :: .ref (fad g k) :: st.map (fvm g)))
  rw [C.k hk]
  have hin := vp_in_nI hj hn
  refine W.bast C.1 C.2.1 (C.2.2.2.2.2.2.2.2.2.2.2.1.1 k _ (fws_arr hs hk)) ((C.2.2.1.2.2.1.2 1 _ (ftys_at g (by decide))).1 n (fun j => .int (fI σ k j))) (fun q => by cases q) (by show ¬ (nI j < 0 ∨ (arrV _ _ _).slots.size ≤ _); rw [arrV_size]; exact hin) rfl rfl hd fun H1 e1 e2 e3 => ?_
  refine h p e R s m args below meth c H1 _ cells slots ls (fst_go C hs hk rfl (fun i hi => fce_I_ne g σ j x hi) rfl ?_ e2 e3) hl
  rw [e1]
  have hnx : narrow .byte (.int x) = .int x := by
    rw [vp_nar_byte] at hx
    rw [← hx]
    exact pk_nb x
  show some ((vp_cell (gA g 1) (n, .inl (fI σ k))).setSlot (nI j).toNatClampNeg (narrow .byte (.int x))) = some (vp_cell (gA g 1) (n, .inl (fI (fsI σ k j x) k)))
  rw [hnx, vp_cell_i, vp_cell_i, arrV_store, nI_clamp (by omega)]
  congr 2
  funext q
  by_cases hq : q = j
  · subst hq
    simp [updV, fI, fsI, fup]
  · simp [updV, fI, fsI, fup, hq]
theorem e_lastore {k n : Nat} {i : Int32} {x : Int64} (j : Nat) (hd : decode M.2.1 pc = .ok (.lastore, 1)) (hs : gsh g k = .inr (2, n)) (hk : k < fnx σ) (hi : i = nI j) (hj : j < n) (hn : n < 2147483648) (h : fEv g d M (pc + 1) L st (fsJ σ k j x) Q) : fEv g d M pc L (.long x :: .int i :: .ref k :: st) σ Q := by
  subst hi
  intro p e R s m args below meth c H locs cells slots ls C hl
  show W p (gl g) e R s m args below meth c H locs cells slots _ (F0 m pc ls (.long x :: .int (nI j) :: .ref (fad g k) :: st.map (fvm g)))
  rw [C.k hk]
  have hin := vp_in_nI hj hn
  refine W.last C.1 C.2.1 (C.2.2.2.2.2.2.2.2.2.2.2.1.1 k _ (fws_arr hs hk)) ((C.2.2.1.2.2.1.2 2 _ (ftys_at g (by decide))).1 n (fun j => .long (fJ σ k j))) (fun q => by cases q) (by show ¬ (nI j < 0 ∨ (arrV _ _ _).slots.size ≤ _); rw [arrV_size]; exact hin) rfl rfl hd fun H1 e1 e2 e3 => ?_
  refine h p e R s m args below meth c H1 _ cells slots ls (fst_go C hs hk rfl (fun i hi => fce_J_ne g σ j x hi) rfl ?_ e2 e3) hl
  rw [e1]
  show some ((vp_cell (gA g 2) (n, .inr (.inl (fJ σ k)))).setSlot (nI j).toNatClampNeg (.long x)) = some (vp_cell (gA g 2) (n, .inr (.inl (fJ (fsJ σ k j x) k))))
  rw [vp_cell_l, vp_cell_l, arrV_store, nI_clamp (by omega)]
  congr 2
  funext q
  by_cases hq : q = j
  · subst hq
    simp [updV, fJ, fsJ, fup]
  · simp [updV, fJ, fsJ, fup, hq]
theorem e_aastore {k t n q cq : Nat} {i : Int32} (j : Nat) (hd : decode M.2.1 pc = .ok (.aastore, 1)) (hs : gsh g k = .inr (t, n)) (ht : 3 ≤ t ∧ t < 6) (hk : k < fnx σ) (hi : i = nI j) (hj : j < n) (hn : n < 2147483648) (hq : q < fnx σ) (hsq : gsh g q = .inl cq) (hcq : cq < 10) (htq : fTy t = .object (fKC cq)) (h : fEv g d M (pc + 1) L st (fsR σ k j (some q)) Q) : fEv g d M pc L (.ref q :: .int i :: .ref k :: st) σ Q := by
  subst hi
  intro p e R s m args below meth c H locs cells slots ls C hl
  show W p (gl g) e R s m args below meth c H locs cells slots _ (F0 m pc ls (.ref (fad g q) :: .int (nI j) :: .ref (fad g k) :: st.map (fvm g)))
  rw [C.k hk, C.k hq]
  have hct : ∀ σ : fAH, fct g σ t k = .inr (.inr (.inr (.inr (fun j => (fR σ k j).map fun q => gz g + q)))) := fun σ => by
    obtain ⟨h3, h7⟩ := ht
    rcases (show t = 3 ∨ t = 4 ∨ t = 5 by omega) with rfl | rfl | rfl <;> rfl
  have hP := C.2.2.2.2.2.2.2.2.2.2.2.1.1
  have hK := C.2.2.1.2.2.1
  have hwq : (fws g σ)[q]? = some (gz g + q, .inr (cq, (List.range (fKN cq)).map (ffv g σ cq q))) := by
    rw [fws_at g σ hq]
    unfold fce
    rw [hsq]
  have hlt : (nI j).toNatClampNeg < n := by rw [nI_clamp (by omega)]; exact hj
  obtain ⟨r', hr', cellV, g1, g2, g3, -⟩ := hP q _ hwq
  have hcls := (hK.1 cq _ (fcl_at hcq)).2
  have hRA := (hK.2 t _ (ftys_at g (by omega))).2
  have hRA : va_RA s (gA g t) (.object (fKC cq)) := by rw [← htq]; exact hRA
  obtain ⟨kA, comp, k1, k2, k3, -⟩ := hRA
  have hcomp : comp = (gD g).1 cq := Option.some.inj (k3.symm.trans hcls.1)
  subst hcomp
  obtain ⟨kC, hkC, -⟩ := hcls.2
  have ha := fws_arr (σ := σ) hs hk
  refine W.aast C.1 C.2.1 (hP k _ ha) (fun q h => by rw [hct] at h; cases h) (fun h => by rw [hct] at h; cases h) (by rw [hct]; exact k1) k2 rfl hkC ⟨nI_pos (by omega), by rw [hct]; show _ < (arrV _ _ _).slots.size; rw [arrV_size]; exact hlt⟩ g1 (fun q h => by rw [g3] at h; cases h) (by rw [g2]; exact hkC) (by rw [g2]; exact va_assign hcls) rfl rfl hd fun H1 e1 e2 e3 => ?_
  refine h p e R s m args below meth c H1 _ cells slots ls (fst_go C hs hk rfl (fun i hi => fce_R_ne g σ j (some q) hi) rfl ?_ e2 e3) hl
  rw [e1]
  rw [hct, hct]
  show some ((vp_cell (gA g t) (n, .inr (.inr (.inr (.inr (fun j => (fR σ k j).map fun q => gz g + q)))))).setSlot (nI j).toNatClampNeg (.ref (gz g + q))) = some (vp_cell (gA g t) (n, .inr (.inr (.inr (.inr (fun j_1 => (fR (fsR σ k j (some q)) k j_1).map fun q => gz g + q))))))
  rw [vp_cell_q, vp_cell_q, arrV_store, nI_clamp (by omega)]
  congr 2
  funext b
  by_cases hb : b = j
  · subst hb
    simp [updV, fR, fsR, fup, va_rf]
  · simp [updV, fR, fsR, fup, hb]
/-- from now on the heap's size is told by a bound alone -/
theorem e_loose (h : fEv g d M pc L st ((σ.1.1, σ.1.2.1 + 1, σ.1.2.2), σ.2) Q) : fEv g d M pc L st σ Q := by
  intro p e R s m args below meth c H locs cells slots ls C hl
  obtain ⟨-, -, -, -, -, -, -, -, -, -, hroom, hRP, hS⟩ := id C
  refine h p e R s m args below meth c H locs cells slots ls (C.to ?_ ⟨hRP.1, hRP.2.1, fun h => ?_, hRP.2.2.2⟩ hS) hl
  · unfold fnx fgb fsu at *
    exact ⟨by have := hroom.1; show cells + (601024 - (σ.1.1 + (σ.1.2.1 + 1))) ≤ R.cells; omega, hroom.2⟩
  · cases h
theorem fsz {H : Heap} (hP : va_P (gD g) vwCl (fws g σ) H) (h0 : 0 < fnx σ) : gz g + fnx σ ≤ H.size := by
  have hlt := (hP (fnx σ - 1) _ (fws_at g σ (by omega))).lt
  have : gz g + (fnx σ - 1) < H.size := hlt
  omega
/-- the ints of the array kd behind a copy out of ks -/
def fcpy (σ : fAH) (ks kd sp dp n : Nat) : fAH := (σ.1, σ.2.1, fun a => if a = kd then va_cpy (σ.2.2.1 ks) (σ.2.2.1 kd) sp dp n else σ.2.2.1 a, σ.2.2.2)
theorem e_copy {idx ks kd ns nd : Nat} {a b n : Int32} (sp dp m9 : Nat) (hd : decode M.2.1 pc = .ok (.invokestatic idx, 3)) (hw : Cond.methodLink M.1.cls idx arraycopyName ∈ lw_tbl) (hss : gsh g ks = .inr (0, ns)) (hsd : gsh g kd = .inr (0, nd)) (hks : ks < fnx σ) (hkd : kd < fnx σ) (hg : 0 < fgb σ) (ha : a = nI sp) (hb9 : b = nI dp) (hn : n = nI m9) (h1 : sp + m9 ≤ ns) (h2 : dp + m9 ≤ nd) (hns : ns < 2147483648) (hnd : nd < 2147483648) (hst : (st.map fun v => v.category).sum ≤ 8) (hwn : Cond.native arraycopyName ∈ lw_tbl ∧ Cond.static arraycopyName ∈ lw_tbl ∧ Cond.initialized "java/lang/System" ∈ lw_tbl)
    (h : fEv g d M (pc + 3) L st (fcpy σ ks kd sp dp m9) Q) : fEv g d M pc L (.int n :: .int b :: .ref kd :: .int a :: .ref ks :: st) σ Q := by
  subst ha hb9 hn
  intro p e R s m args below meth c H locs cells slots ls C hl
  show W p (gl g) e R s m args below meth c H locs cells slots _ (F0 m pc ls (.int (nI m9) :: .int (nI dp) :: .ref (fad g kd) :: .int (nI sp) :: .ref (fad g ks) :: st.map (fvm g)))
  rw [C.k hks, C.k hkd]
  obtain ⟨hx, hb, hE, hown, hml, -, -, -, -, hrm, hroom, hRP, hS⟩ := id C
  have hcat : ((st.map (fvm g)).map fun v => v.category).sum = (st.map fun v => v.category).sum := by
    rw [List.map_map]
    congr 1
    exact List.map_congr_left (fun v _ => fvm_cat g v)
  have hnf : nativeFrameWords "java/lang/System" "arraycopy" 5 ≤ 200 := by decide +kernel
  have hfl : ((st.map (fvm g)).map fun v => v.category).sum + (nativeFrameWords "java/lang/System" "arraycopy" 5 + 11) ≤ R.locals := by
    rw [hcat]
    have := hrm.2
    omega
  have e1 : (nI sp).toNatClampNeg = sp := nI_clamp (by omega)
  have e2 : (nI dp).toNatClampNeg = dp := nI_clamp (by omega)
  have e3 : (nI m9).toNatClampNeg = m9 := nI_clamp (by omega)
  refine va_copyi (ty := .int) (sp := nI sp) (dp := nI dp) (n := nI m9) hx hb (by rw [hml]; exact hl.1.symm) hown (hE.1 _ hw rfl args) (hE.1 _ hwn.1 rfl args) (hE.1 _ hwn.2.1 rfl args) (hE.1 _ hwn.2.2 rfl args) hE.2.2.1 hRP.1 (fD g σ) hS ks kd 0 0 (fws_arr hss hks) (fws_arr hsd hkd) (ftys_at g (by decide)) (ftys_at g (by decide)) rfl (nI_pos (by omega)) (nI_pos (by omega)) (nI_pos (by omega)) (by rw [e1, e3]; exact h1) (by rw [e2, e3]; exact h2) (fun i _ => rfl) (by have := hrm.1; omega) hfl hd fun H1 locs1 hP1 _ hS1 => ?_
  rw [e1, e2, e3] at hP1
  have hce : fce g (fcpy σ ks kd sp dp m9) kd = .inl (gA g 0, nd, .inl (va_cpy (fI σ ks) (fI σ kd) sp dp m9)) := by
    rw [fce_arr hsd]
    show Sum.inl (gA g 0, nd, Sum.inl (fI (fcpy σ ks kd sp dp m9) kd)) = _
    unfold fI fcpy
    simp
  have hset : (fws g σ).set kd (gz g + kd, .inl (gA g 0, nd, .inl (va_cpy (fI σ ks) (fI σ kd) sp dp m9))) = fws g (fcpy σ ks kd sp dp m9) := by
    rw [← hce]
    refine (fws_set g (σ := σ) (σ' := fcpy σ ks kd sp dp m9) rfl (fun i _ hi => fce_congr g ?_ rfl rfl)).symm
    show (if i = kd then _ else _) = _
    rw [if_neg hi]
  have hP2 : va_P (gD g) vwCl (fws g (fcpy σ ks kd sp dp m9)) H1 := by rw [← hset]; exact hP1
  refine h p e R s m args below meth c H1 locs1 cells slots ls (C.to hroom ⟨hP2, fsz hP2 (Nat.lt_of_le_of_lt (Nat.zero_le _) hkd), fun h0 => absurd (show fgb σ = 0 from h0) (by omega), hRP.2.2.2⟩ hS1) hl
theorem e_max {idx : Nat} {x y : Int32} (hd : decode M.2.1 pc = .ok (.invokestatic idx, 3)) (hw : Cond.methodLink M.1.cls idx Lib.Math.max.name ∈ lw_tbl) (hwn : Cond.static Lib.Math.max.name ∈ lw_tbl ∧ Cond.initialized "java/lang/Math" ∈ lw_tbl ∧ Cond.code Lib.Math.max.name Lib.Math.max.code 2 (some .int) ∈ lw_tbl) (hst : (st.map fun v => v.category).sum ≤ 8) (h : fEv g d M (pc + 3) L (.int (if x < y then y else x) :: st) σ Q) : fEv g d M pc L (.int y :: .int x :: st) σ Q := by
  intro p e R s m args below meth c H locs cells slots ls C hl
  obtain ⟨hx, hb, hE, hown, hml, -, -, -, -, hrm, hroom, hRP, hS⟩ := id C
  have hcat : ((st.map (fvm g)).map fun v => v.category).sum = (st.map fun v => v.category).sum := by
    rw [List.map_map]
    congr 1
    exact List.map_congr_left (fun v _ => fvm_cat g v)
  exact va_mmax hx hb (by rw [hml]; exact hl.1.symm) hown (hE.1 _ hw rfl args) (hE.1 _ hwn.1 rfl args) (hE.1 _ hwn.2.1 rfl args) (hE.1 _ hwn.2.2 rfl args) (by have := hrm.1; omega) (by rw [hcat]; have := hrm.2; omega) (by have := hroom.1; omega) (by have := hroom.2; omega) hd (h p e R s m args below meth c H locs cells slots ls C hl)
theorem e_min {idx : Nat} {x y : Int32} (hd : decode M.2.1 pc = .ok (.invokestatic idx, 3)) (hw : Cond.methodLink M.1.cls idx Lib.Math.min.name ∈ lw_tbl) (hwn : Cond.static Lib.Math.min.name ∈ lw_tbl ∧ Cond.initialized "java/lang/Math" ∈ lw_tbl ∧ Cond.code Lib.Math.min.name Lib.Math.min.code 2 (some .int) ∈ lw_tbl) (hst : (st.map fun v => v.category).sum ≤ 8) (h : fEv g d M (pc + 3) L (.int (if y < x then y else x) :: st) σ Q) : fEv g d M pc L (.int y :: .int x :: st) σ Q := by
  intro p e R s m args below meth c H locs cells slots ls C hl
  obtain ⟨hx, hb, hE, hown, hml, -, -, -, -, hrm, hroom, hRP, hS⟩ := id C
  have hcat : ((st.map (fvm g)).map fun v => v.category).sum = (st.map fun v => v.category).sum := by
    rw [List.map_map]
    congr 1
    exact List.map_congr_left (fun v _ => fvm_cat g v)
  exact va_mmin hx hb (by rw [hml]; exact hl.1.symm) hown (hE.1 _ hw rfl args) (hE.1 _ hwn.1 rfl args) (hE.1 _ hwn.2.1 rfl args) (hE.1 _ hwn.2.2 rfl args) (by have := hrm.1; omega) (by rw [hcat]; have := hrm.2; omega) (by have := hroom.1; omega) (by have := hroom.2; omega) hd (h p e R s m args below meth c H locs cells slots ls C hl)
theorem e_objInit {idx k : Nat} (hd : decode M.2.1 pc = .ok (.invokespecial idx, 3)) (hw : Cond.methodLink M.1.cls idx Lib.objectInit ∈ lw_tbl) (hwn : Cond.instanceMethod Lib.objectInit ∈ lw_tbl ∧ Cond.code Lib.objectInit ⟨#[0xb1]⟩ 1 none ∈ lw_tbl) (hst : (st.map fun v => v.category).sum ≤ 8) (h : fEv g d M (pc + 3) L st σ Q) : fEv g d M pc L (.ref k :: st) σ Q := by
  intro p e R s m args below meth c H locs cells slots ls C hl
  obtain ⟨hx, hb, hE, hown, hml, -, -, -, -, hrm, hroom, hRP, hS⟩ := id C
  have hcat : ((st.map (fvm g)).map fun v => v.category).sum = (st.map fun v => v.category).sum := by
    rw [List.map_map]
    congr 1
    exact List.map_congr_left (fun v _ => fvm_cat g v)
  refine W.objInit (a := fad g k) (rest := st.map (fvm g)) hx hb hown (hE.1 _ hw rfl args) (hE.1 _ hwn.1 rfl args) (hE.1 _ hwn.2 rfl args) rfl (by rw [hml]; exact hl.1) rfl hd (by have := hrm.1; omega) ?_ (h p e R s m args below meth c H locs cells slots ls C hl)
  have h8 := lv_room (m := m) (pc := pc) (ls := ls) (rest := Value.ref (fad g k) :: st.map (fvm g)) (st := st.map (fvm g)) (by rw [hcat]; exact hst)
  have := hrm.2
  have h9 : 2 * (F0 m pc ls (Value.ref (fad g k) :: st.map (fvm g))).monitorRoom + ((st.map (fvm g)).map fun v => v.category).sum ≤ 8 := h8
  show 2 * (F0 m pc ls (Value.ref (fad g k) :: st.map (fvm g))).monitorRoom + ((st.map (fvm g)).map fun v => v.category).sum + 12 ≤ R.locals
  omega
end FAR
