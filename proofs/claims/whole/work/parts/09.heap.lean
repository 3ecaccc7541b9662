/-! ===== rules of fEv that read and write cells ===== -/
/-- a field's word: own's place idx names the field j of the class c -/
def fFL (own : String) (idx c j : Nat) : Prop := c < 10 ∧ j < fKN c ∧ (Cond.fieldLink own idx (fKT c j).1 (fKT c j).2.1 (fKT c j).2.2.1 ∈ lw_tbl ∨ ∃ host : String, Cond.fieldLinkNest own idx (fKT c j).1 (fKT c j).2.1 (fKT c j).2.2.1 host ∈ lw_tbl)
theorem fws_set (g : fGP) {σ σ' : fAH} {k : Nat} (hn : fnx σ' = fnx σ) (h : ∀ i, i < fnx σ → i ≠ k → fce g σ' i = fce g σ i) : fws g σ' = (fws g σ).set k (gz g + k, fce g σ' k) := by
  refine List.ext_getElem? fun i => ?_
  by_cases hi : i < fnx σ
  · rw [fws_at g σ' (by rw [hn]; exact hi)]
    by_cases e : i = k
    · subst e
      rw [List.getElem?_set_self (by simpa [fws] using hi)]
    · rw [List.getElem?_set_ne (fun x => e x.symm), fws_at g σ hi, h i hi e]
  · rw [List.getElem?_eq_none (by simp [fws]; omega), List.getElem?_eq_none (by simp [fws]; omega)]
theorem fce_congr (g : fGP) {σ σ' : fAH} {i : Nat} (hI : σ'.2.2.1 i = σ.2.2.1 i) (hJ : σ'.2.2.2 i = σ.2.2.2 i) (hR : σ'.2.1 i = σ.2.1 i) : fce g σ' i = fce g σ i := by
  have e : ∀ c j, ffv g σ' c i j = ffv g σ c i j := fun c j => by
    unfold ffv
    simp only [fI, fJ, fR, hI, hJ, hR]
  have e2 : ∀ t, fct g σ' t i = fct g σ t i := fun t => by
    unfold fct
    simp only [fI, fJ, fR, hI, hJ, hR]
  unfold fce
  cases gsh g i with
  | inl c => simp only [e]
  | inr q => simp only [e2]
theorem fup_ne {α : Type} (f : Nat → Nat → α) {k i : Nat} (j : Nat) (v : α) (h : i ≠ k) : fup f k j v i = f i := by
  funext b
  unfold fup
  rw [if_neg (fun x => h x.1)]
theorem fce_I_ne (g : fGP) (σ : fAH) {k i : Nat} (j : Nat) (v : Int32) (h : i ≠ k) : fce g (fsI σ k j v) i = fce g σ i := fce_congr g (fup_ne _ j v h) rfl rfl
theorem fce_J_ne (g : fGP) (σ : fAH) {k i : Nat} (j : Nat) (v : Int64) (h : i ≠ k) : fce g (fsJ σ k j v) i = fce g σ i := fce_congr g rfl (fup_ne _ j v h) rfl
theorem fce_R_ne (g : fGP) (σ : fAH) {k i : Nat} (j : Nat) (v : Option Nat) (h : i ≠ k) : fce g (fsR σ k j v) i = fce g σ i := fce_congr g rfl rfl (fup_ne _ j v h)
theorem fup_self {α : Type} (f : Nat → Nat → α) (k j : Nat) (v : α) : fup f k j v k j = v := if_pos ⟨rfl, rfl⟩
theorem fup_j {α : Type} (f : Nat → Nat → α) (k : Nat) {j b : Nat} (v : α) (h : b ≠ j) : fup f k j v k b = f k b := if_neg (fun x => h x.2)
/-- an object's fields behind a put -/
theorem fput_ob (g : fGP) {σ σ' : fAH} {c k j : Nat} {v : Value} (h : ffv g σ' c k j = v) (ho : ∀ b, b ≠ j → ffv g σ' c k b = ffv g σ c k b) : ((List.range (fKN c)).map (ffv g σ c k)).set j v = (List.range (fKN c)).map (ffv g σ' c k) := by
  refine List.ext_getElem? fun i => ?_
  by_cases hi : i < fKN c
  · by_cases e : i = j
    · subst e
      rw [List.getElem?_set_self (by simpa using hi), List.getElem?_map, List.getElem?_range hi]
      exact congrArg some h.symm
    · rw [List.getElem?_set_ne (fun x => e x.symm), List.getElem?_map, List.getElem?_map, List.getElem?_range hi]
      exact congrArg some (ho i e).symm
  · rw [List.getElem?_eq_none (by simp; omega), List.getElem?_eq_none (by simp; omega)]
section FHP
variable {g : fGP} {d : Nat} {M : fMT} {pc : Nat} {L L1 : List (Option Value)} {st : List Value} {σ : fAH} {Q : fRes → fAH → Prop}
theorem fCX.k {p : Program} {R : Room} {s : State} {m : MethodId} {meth : Method} {c : Code} {H : Heap} {locs : List Loc} {cells slots : Nat} (C : fCX g d M σ p R s m meth c H locs cells slots) {k : Nat} (hk : k < fnx σ) : fad g k = gz g + k := by
  have h : fnx σ ≤ 601024 := C.2.2.2.2.2.2.2.2.2.2.2.1.2.2.2
  unfold fad fscr
  rw [if_neg (by omega)]
/-- the context over a heap that has moved -/
theorem fCX.to {σ' : fAH} {p : Program} {R : Room} {s : State} {m : MethodId} {meth : Method} {c : Code} {H H' : Heap} {locs locs' : List Loc} {cells slots cells' slots' : Nat} (C : fCX g d M σ p R s m meth c H locs cells slots) (hr : cells' + (601024 - (fnx σ' + fgb σ')) ≤ R.cells ∧ slots' + (7293034 - fsu σ') ≤ R.slots) (hP : fRP g σ' H') (hS : va_S (fAA g) s.heap H' locs') : fCX g d M σ' p R s m meth c H' locs' cells' slots' := by
  obtain ⟨h1, h2, h3, h4, h5, h6, h7, h8, h9, h10, h11, h12, h13⟩ := C
  exact ⟨h1, h2, h3, h4, h5, h6, h7, h8, h9, h10, hr, hP, hS⟩
theorem e_get {idx c k j : Nat} {v : Value} (hd : decode M.2.1 pc = .ok (.getfield idx, 3)) (hF : fFL M.1.cls idx c j) (hs : gsh g k = .inl c) (hk : k < fnx σ) (hv : fvm g v = ffv g σ c k j) (h : fEv g d M (pc + 3) L (v :: st) σ Q) : fEv g d M pc L (.ref k :: st) σ Q := by
  intro p e R s m args below meth c0 H locs cells slots ls C hl
  obtain ⟨hc, hj, hF⟩ := hF
  have hws := fws_at g σ hk
  have he : fce g σ k = .inr (c, (List.range (fKN c)).map (ffv g σ c k)) := by unfold fce; rw [hs]
  rw [he] at hws
  have hval : ((List.range (fKN c)).map (ffv g σ c k))[j]? = some (fvm g v) := by
    rw [List.getElem?_map, List.getElem?_range hj, hv]
    rfl
  show W p (gl g) e R s m args below meth c0 H locs cells slots _ (F0 m pc ls (.ref (fad g k) :: st.map (fvm g)))
  rw [C.k hk]
  have hts : ∀ w ∈ u_ws (fKC c) (fKT c) (fKN c), w.before args s = true := fun w hw => C.2.2.1.1 w (fin_at hc w hw) (by obtain ⟨i, -, rfl⟩ := List.mem_map.mp hw; unfold u_lay; split <;> rfl) args
  rcases hF with hF | ⟨host, hF⟩
  · exact va_get C.1 C.2.1 hts (fun w h => h) C.2.2.2.1 C.2.2.1.2.2.1 C.2.2.2.2.2.2.2.2.2.2.2.1.1 k hws (fcl_at hc) j hj (C.2.2.1.1 _ hF rfl args) (fun _ h => h) hval hd (h p e R s m args below meth c0 H locs cells slots ls C hl)
  · exact va_getN C.1 C.2.1 hts (fun w h => h) C.2.2.2.1 C.2.2.1.2.2.1 C.2.2.2.2.2.2.2.2.2.2.2.1.1 k hws (fcl_at hc) j hj (va_Nw.use rfl (C.2.2.1.2.1 _ hF rfl)) (fun _ h => h) hval hd (h p e R s m args below meth c0 H locs cells slots ls C hl)
theorem e_getI {idx c k j : Nat} (hd : decode M.2.1 pc = .ok (.getfield idx, 3)) (hF : fFL M.1.cls idx c j) (hs : gsh g k = .inl c) (hk : k < fnx σ) (hy : fKy c j = .int) (h : fEv g d M (pc + 3) L (.int (fI σ k j) :: st) σ Q) : fEv g d M pc L (.ref k :: st) σ Q := e_get hd hF hs hk (by unfold ffv; rw [hy]; rfl) h
theorem e_getZ {idx c k j : Nat} (hd : decode M.2.1 pc = .ok (.getfield idx, 3)) (hF : fFL M.1.cls idx c j) (hs : gsh g k = .inl c) (hk : k < fnx σ) (hy : fKy c j = .boolean) (h : fEv g d M (pc + 3) L (.int (fI σ k j) :: st) σ Q) : fEv g d M pc L (.ref k :: st) σ Q := e_get hd hF hs hk (by unfold ffv; rw [hy]; rfl) h
theorem e_getL {idx c k j : Nat} (hd : decode M.2.1 pc = .ok (.getfield idx, 3)) (hF : fFL M.1.cls idx c j) (hs : gsh g k = .inl c) (hk : k < fnx σ) (hy : fKy c j = .long) (h : fEv g d M (pc + 3) L (.long (fJ σ k j) :: st) σ Q) : fEv g d M pc L (.ref k :: st) σ Q := e_get hd hF hs hk (by unfold ffv; rw [hy]; rfl) h
def frt (t : FieldType) : Bool := match t with
  | .object _ => true
  | .array _ => true
  | _ => false
theorem e_getR {idx c k j q : Nat} (hd : decode M.2.1 pc = .ok (.getfield idx, 3)) (hF : fFL M.1.cls idx c j) (hs : gsh g k = .inl c) (hk : k < fnx σ) (hy : frt (fKy c j) = true) (hr : fR σ k j = some q) (hq : q < fscr) (h : fEv g d M (pc + 3) L (.ref q :: st) σ Q) : fEv g d M pc L (.ref k :: st) σ Q := by
  refine e_get hd hF hs hk ?_ h
  have e : fvm g (.ref q) = va_rf ((fR σ k j).map fun q => gz g + q) := by
    rw [hr]
    show Value.ref (fad g q) = .ref (gz g + q)
    unfold fad
    rw [if_neg (by omega)]
  rw [e]
  unfold ffv
  cases hyy : fKy c j <;> rw [hyy] at hy <;> first | rfl | cases hy
/-- a put of what is no final field -/
theorem e_put {idx c k j : Nat} {v : Value} (σ' : fAH) (hd : decode M.2.1 pc = .ok (.putfield idx, 3)) (hF : fFL M.1.cls idx c j) (hs : gsh g k = .inl c) (hk : k < fnx σ) (hfin : (fKT c j).2.2.2 = false) (hn : narrow (fKy c j) (fvm g v) = fvm g v) (hfit : fits (fKy c j) (fvm g v) = true)
    (h0 : σ'.1 = σ.1) (hc1 : ∀ i, i ≠ k → fce g σ' i = fce g σ i) (hv : ffv g σ' c k j = fvm g v) (ho : ∀ b, b ≠ j → ffv g σ' c k b = ffv g σ c k b) (h : fEv g d M (pc + 3) L st σ' Q) : fEv g d M pc L (v :: .ref k :: st) σ Q := by
  intro p e R s m args below meth c0 H locs cells slots ls C hl
  obtain ⟨hc, hj, hF⟩ := hF
  have hws := fws_at g σ hk
  have he : fce g σ k = .inr (c, (List.range (fKN c)).map (ffv g σ c k)) := by unfold fce; rw [hs]
  have he' : fce g σ' k = .inr (c, (List.range (fKN c)).map (ffv g σ' c k)) := by unfold fce; rw [hs]
  rw [he] at hws
  have hset : (fws g σ).set k (gz g + k, .inr (c, ((List.range (fKN c)).map (ffv g σ c k)).set j (fvm g v))) = fws g σ' := by
    rw [fput_ob g hv ho, ← he']
    exact (fws_set g (show fnx σ' = fnx σ by unfold fnx; rw [h0]) (fun i _ hi => hc1 i hi)).symm
  show W p (gl g) e R s m args below meth c0 H locs cells slots _ (F0 m pc ls (fvm g v :: .ref (fad g k) :: st.map (fvm g)))
  rw [C.k hk]
  have hts : ∀ w ∈ u_ws (fKC c) (fKT c) (fKN c), w.before args s = true := fun w hw => C.2.2.1.1 w (fin_at hc w hw) (by obtain ⟨i, -, rfl⟩ := List.mem_map.mp hw; unfold u_lay; split <;> rfl) args
  obtain ⟨-, -, -, -, -, -, -, -, -, -, hroom, hRP, hS⟩ := id C
  have go : ∀ (H1 : Heap) (locs1 : List Loc), va_P (gD g) vwCl ((fws g σ).set k (gz g + k, .inr (c, ((List.range (fKN c)).map (ffv g σ c k)).set j (fvm g v)))) H1 → va_D (fAA g) ((fws g σ).set k (gz g + k, .inr (c, ((List.range (fKN c)).map (ffv g σ c k)).set j (fvm g v)))) → va_S (fAA g) s.heap H1 locs1 → H1.size = H.size → W p (gl g) e R s m args below meth c0 H1 locs1 cells slots (fEQ g s R below Q) (F0 m (pc + 3) ls (st.map (fvm g))) := by
    intro H1 locs1 hP1 _ hS1 hz
    rw [hset] at hP1
    refine h p e R s m args below meth c0 H1 locs1 cells slots ls (C.to ?_ ⟨hP1, ?_⟩ hS1) hl
    · unfold fnx fgb fsu at *
      rw [h0]
      exact hroom
    · unfold fnx fgb at *
      rw [h0, hz]
      exact hRP.2
  sorry
end FHP
