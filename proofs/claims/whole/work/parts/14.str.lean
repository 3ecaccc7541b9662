/-! ===== rules of fEv: texts ===== -/
section FSTR
variable {g : fGP} {d : Nat} {M : fMT} {pc : Nat} {L : List (Option Value)} {st : List Value} {σ : fAH} {Q : fRes → fAH → Prop}
theorem fad_s (g : fGP) (i : Nat) : fad g (fscr + (1 + i)) = gst g (1 + i) := by
  unfold fad
  rw [if_pos (by omega), if_neg (by omega), show fscr + (1 + i) - fscr = 1 + i by omega]
theorem fad_v (g : fGP) (i : Nat) : fad g (fscr + (8 + i)) = gst g (8 + i) := by
  unfold fad
  rw [if_pos (by omega), if_neg (by omega), show fscr + (8 + i) - fscr = 8 + i by omega]
theorem fad_15 (g : fGP) : fad g (fscr + 15) = gst g 15 := by
  unfold fad
  rw [if_pos (by omega), if_neg (by omega), show fscr + 15 - fscr = 15 by omega]
theorem e_ldcW {idx : Nat} (i : Nat) (hi : i < 7) (hM : M.1.cls = RX5) (hx : idx = fsix i) (hd : decode M.2.1 pc = .ok (.ldc idx, 2)) (h : fEv g d M (pc + 2) L (.ref (fscr + (1 + i)) :: st) σ Q) : fEv g d M pc L st σ Q := by
  intro p e R s m args below meth c H locs cells slots ls C hl
  have k := h p e R s m args below meth c H locs cells slots ls C hl
  have k : W p (gl g) e R s m args below meth c H locs cells slots (fEQ g s R below Q) (F0 m (pc + 2) ls (.ref (fad g (fscr + (1 + i))) :: st.map (fvm g))) := k
  rw [fad_s] at k
  have hE := C.2.2.1
  refine va_ldcS C.1 C.2.1 (own := RX5) (tx := fstx i) (index := fsix i) (by have := C.2.2.2.1; rw [hM] at this; exact this) (hE.2.2.2.2.1.2.2.1 i hi) (by rw [← hx]; exact hd) k
theorem e_wval {idx : Nat} (i : Nat) (hi : i < 7) (hM : Cond.fieldLink M.1.cls idx RJ0 "value" "[B" ∈ lw_tbl) (hd : decode M.2.1 pc = .ok (.getfield idx, 3)) (h : fEv g d M (pc + 3) L (.ref (fscr + (8 + i)) :: st) σ Q) : fEv g d M pc L (.ref (fscr + (1 + i)) :: st) σ Q := by
  intro p e R s m args below meth c H locs cells slots ls C hl
  have k := h p e R s m args below meth c H locs cells slots ls C hl
  have k : W p (gl g) e R s m args below meth c H locs cells slots (fEQ g s R below Q) (F0 m (pc + 3) ls (.ref (fad g (fscr + (8 + i))) :: st.map (fvm g))) := k
  rw [fad_v] at k
  show W p (gl g) e R s m args below meth c H locs cells slots _ (F0 m pc ls (.ref (fad g (fscr + (1 + i))) :: st.map (fvm g)))
  rw [fad_s]
  have hE := C.2.2.1
  exact vk_getf C.1 C.2.1 (hE.2.2.2.2.1.2.1.1 i hi).2.2.1 C.2.2.2.2.2.2.2.2.2.2.2.2 C.2.2.2.1 (hE.1 _ hM rfl args) (fun x hx => hx) hd k
theorem e_wcod {idx : Nat} (i : Nat) (hi : i < 7) (hM : Cond.fieldLink M.1.cls idx RJ0 "coder" "B" ∈ lw_tbl) (hd : decode M.2.1 pc = .ok (.getfield idx, 3)) (h : fEv g d M (pc + 3) L (.int 0 :: st) σ Q) : fEv g d M pc L (.ref (fscr + (1 + i)) :: st) σ Q := by
  intro p e R s m args below meth c H locs cells slots ls C hl
  have k := h p e R s m args below meth c H locs cells slots ls C hl
  show W p (gl g) e R s m args below meth c H locs cells slots _ (F0 m pc ls (.ref (fad g (fscr + (1 + i))) :: st.map (fvm g)))
  rw [fad_s]
  have hE := C.2.2.1
  exact vk_getf C.1 C.2.1 (hE.2.2.2.2.1.2.1.1 i hi).2.1 C.2.2.2.2.2.2.2.2.2.2.2.2 C.2.2.2.1 (hE.1 _ hM rfl args) (fun x hx => hx) hd k
theorem e_wlen (i : Nat) (hi : i < 7) (hd : decode M.2.1 pc = .ok (.arraylength, 1)) (h : fEv g d M (pc + 1) L (.int (nI (fsln.getD i 0)) :: st) σ Q) : fEv g d M pc L (.ref (fscr + (8 + i)) :: st) σ Q := by
  intro p e R s m args below meth c H locs cells slots ls C hl
  have k := h p e R s m args below meth c H locs cells slots ls C hl
  show W p (gl g) e R s m args below meth c H locs cells slots _ (F0 m pc ls (.ref (fad g (fscr + (8 + i))) :: st.map (fvm g)))
  rw [fad_v]
  have hE := C.2.2.1
  exact va_tlen C.1 C.2.1 (hE.2.2.2.2.1.2.1.1 i hi).2.2.2 C.2.2.2.2.2.2.2.2.2.2.2.2 (v := nI (fsln.getD i 0)) rfl hd k
theorem e_wld (i : Nat) (hi : i < 7) (j : Nat) (hj : j < fsln.getD i 0) (hn : fsln.getD i 0 < 2147483648) (hd : decode M.2.1 pc = .ok (.baload, 1)) (h : fEv g d M (pc + 1) L (.int ((fsby.getD i []).getD j 0) :: st) σ Q) : fEv g d M pc L (.int (nI j) :: .ref (fscr + (8 + i)) :: st) σ Q := by
  intro p e R s m args below meth c H locs cells slots ls C hl
  have k := h p e R s m args below meth c H locs cells slots ls C hl
  show W p (gl g) e R s m args below meth c H locs cells slots _ (F0 m pc ls (.int (nI j) :: .ref (fad g (fscr + (8 + i))) :: st.map (fvm g)))
  rw [fad_v]
  have hE := C.2.2.1
  exact va_tb C.1 C.2.1 (hE.2.2.2.2.1.2.1.1 i hi).2.2.2 C.2.2.2.2.2.2.2.2.2.2.2.2 (vp_in_nI hj hn) (v := .int ((fsby.getD i []).getD j 0)) (by rw [nI_clamp (by omega)]) hd k
theorem e_compact {idx : Nat} (hM : Cond.fieldLink M.1.cls idx RJ0 "COMPACT_STRINGS" "Z" ∈ lw_tbl) (hd : decode M.2.1 pc = .ok (.getstatic idx, 3)) (h : fEv g d M (pc + 3) L (.int 1 :: st) σ Q) : fEv g d M pc L st σ Q := by
  intro p e R s m args below meth c H locs cells slots ls C hl
  have hE := C.2.2.1
  exact va_gets C.1 C.2.1 hE.2.2.2.2.1.2.2.2.1 C.2.2.2.2.2.2.2.2.2.2.2.2 C.2.2.2.1 (hE.1 _ hM rfl args) (fun x hx => hx) hd (h p e R s m args below meth c H locs cells slots ls C hl)
theorem e_sioobe {idx : Nat} (hM : Cond.fieldLink M.1.cls idx RJ3 "SIOOBE_FORMATTER" "Ljava/util/function/BiFunction;" ∈ lw_tbl) (hd : decode M.2.1 pc = .ok (.getstatic idx, 3)) (h : ∀ v : Value, v = .null ∨ v = .ref (fscr + 15) → fEv g d M (pc + 3) L (v :: st) σ Q) : fEv g d M pc L st σ Q := by
  intro p e R s m args below meth c H locs cells slots ls C hl
  have hE := C.2.2.1
  rcases hE.2.2.2.2.1.2.2.2.2 with q | q
  · exact va_gets C.1 C.2.1 q C.2.2.2.2.2.2.2.2.2.2.2.2 C.2.2.2.1 (hE.1 _ hM rfl args) (fun x hx => hx) hd (h .null (Or.inl rfl) p e R s m args below meth c H locs cells slots ls C hl)
  · have k := h (.ref (fscr + 15)) (Or.inr rfl) p e R s m args below meth c H locs cells slots ls C hl
    have k : W p (gl g) e R s m args below meth c H locs cells slots (fEQ g s R below Q) (F0 m (pc + 3) ls (.ref (fad g (fscr + 15)) :: st.map (fvm g))) := k
    rw [fad_15] at k
    exact va_gets C.1 C.2.1 q C.2.2.2.2.2.2.2.2.2.2.2.2 C.2.2.2.1 (hE.1 _ hM rfl args) (fun x hx => hx) hd k
theorem e_callW {idx n : Nat} {M' : fMT} (i : Nat) (hi7 : i < 7) (vs : List Value) (hd : decode M.2.1 pc = .ok (.invokevirtual idx, 3)) (hcc : fCC n M') (hlk : Cond.methodLink M.1.cls idx M'.1 ∈ lw_tbl) (hi : Cond.instanceMethod M'.1 ∈ lw_tbl) (hsel : Cond.selects RJ0 M'.1 M'.1 ∈ lw_tbl) (hn : vs.length = n) (hst : (st.map fun v => v.category).sum ≤ 8) (hlen : (fflat (.ref (fscr + (1 + i)) :: vs)).length ≤ M'.2.2.1)
    (h : fEv g d M' 0 (fent (.ref (fscr + (1 + i)) :: vs) M'.2.2.1) [] σ (fK g (d + 1) M pc L st Q)) : fEv g (d + 1) M pc L (vs.reverse ++ .ref (fscr + (1 + i)) :: st) σ Q := by
  intro p e R s m args below meth c H locs cells slots ls C hl
  rw [fmapr, fad_s]
  intro T hT X
  subst hT
  obtain ⟨hx, hb, hE, hown, hml, hret0, hlocks, hnm, htab, hrm, hroom, hRP, hS⟩ := id C
  obtain ⟨hy, hpar, hpl, hm, hw⟩ := hcc
  obtain ⟨mk, methM, hnamed, hmethM, hstM, habM⟩ := Cond.instanceMethod_spec (hE.1 _ hi rfl args)
  obtain ⟨mk', meth', c', hn', k1, -, -, -, -, -, -, hsigM⟩ := fcw_spec M' (hE.1 _ hw (fcw_good M') args)
  cases hnamed.symm.trans hn'
  cases hmethM.symm.trans k1
  obtain ⟨cellB, hcB, hoB, hclB⟩ := vk_recv (hE.2.2.2.2.1.2.1) hi7 hS
  obtain ⟨c2, r2, m2, q1, q2, q3, q4, kP, hkP, hkPi⟩ := Cond.selects_spec (hE.1 _ hsel rfl args)
  cases hclB.symm.trans q1
  cases (State.methodFound?_of_named hnamed hy).symm.trans q2
  cases hnamed.symm.trans q3
  have hselP : selectMethod e.platform s.vm cellB.cls mk = .method mk := by rw [Launch.admits_selectMethod X.admits]; exact q4
  have hlen9 : (vs.map (fvm g)).length = methM.sig.parameters.length := by rw [List.length_map, hn]; exact fhlen hpar hsigM
  have hob : ∀ z, cellB.vm ≠ .statics z := fun z h => by rw [h] at hoB; cases hoB
  have hdg : decode c.code pc = .ok (.invokevirtual idx, 3) := by rw [hb]; exact hd
  obtain ⟨vm₁, X₁, hs1⟩ := X.invokevirtual hx hown (hE.1 _ hlk rfl args) hnamed hmethM hstM hkP hkPi hy (a := gst g (1 + i)) (cell := cellB) hcB hob hselP hmethM habM hkP hkPi (g := F0 m pc ls ((vs.map (fvm g)).reverse ++ .ref (gst g (1 + i)) :: st.map (fvm g))) rfl (argsL := vs.map (fvm g)) (rest := st.map (fvm g)) hlen9 rfl hdg
  obtain ⟨t, s1, s2⟩ := fcall (vs := .ref (fscr + (1 + i)) :: vs) (T := T.setVm vm₁) X₁ C hl hd hw hnamed hpl hm hst hlen h
  refine ⟨t, hs1 t (fun acts => ?_), s2⟩
  have e1 : (List.map (fvm g) (.ref (fscr + (1 + i)) :: vs)) = Value.ref (gst g (1 + i)) :: vs.map (fvm g) := by
    rw [List.map_cons]
    show Value.ref (fad g (fscr + (1 + i))) :: _ = _
    rw [fad_s]
  have := s1 acts
  rw [e1] at this
  exact this
end FSTR
