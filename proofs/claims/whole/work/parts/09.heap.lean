/-! ===== rules of fEv that read and write cells ===== -/
/-- a field's word: own's place idx names the field j of the class c -/
def fFL (own : String) (idx c j : Nat) : Prop := c < 10 ∧ j < fKN c ∧ (Cond.fieldLink own idx (fKT c j).1 (fKT c j).2.1 (fKT c j).2.2.1 ∈ lw_tbl ∨ ∃ host : String, Cond.fieldLinkNest own idx (fKT c j).1 (fKT c j).2.1 (fKT c j).2.2.1 host ∈ lw_tbl)
theorem fws_set (g : fGP) {σ σ' : fAH} {k : Nat} (hn : fnx σ' = fnx σ) (h : ∀ i, i < fnx σ → i ≠ k → fce g σ' i = fce g σ i) : fws g σ' = (fws g σ).set k (gz g + k, fce g σ' k) := by
  refine List.ext_getElem? fun i => ?_
  by_cases hi : i < fnx σ
  · rw [fws_at g σ' (by rw [hn]; exact hi)]
    by_cases e : i = k
    · subst e
      rw [List.getElem?_set_self (by simpa [fws] using hi)]
    · rw [List.getElem?_set_ne (fun x => e x.symm), fws_at g σ hi, h i hi e]
  · rw [List.getElem?_eq_none (by simp [fws]; omega), List.getElem?_eq_none (by simp [fws]; omega)]
theorem fce_congr (g : fGP) {σ σ' : fAH} {i : Nat} (hI : σ'.2.2.1 i = σ.2.2.1 i) (hJ : σ'.2.2.2 i = σ.2.2.2 i) (hR : σ'.2.1 i = σ.2.1 i) : fce g σ' i = fce g σ i := by
  have e : ∀ c j, ffv g σ' c i j = ffv g σ c i j := fun c j => by
    unfold ffv
    simp only [fI, fJ, fR, hI, hJ, hR]
  have e2 : ∀ t, fct g σ' t i = fct g σ t i := fun t => by
    unfold fct
    simp only [fI, fJ, fR, hI, hJ, hR]
  unfold fce
  cases gsh g i with
  | inl c =>
    show Sum.inr (c, List.map (ffv g σ' c i) (List.range (fKN c))) = Sum.inr (c, List.map (ffv g σ c i) (List.range (fKN c)))
    rw [show ffv g σ' c i = ffv g σ c i from funext (e c)]
  | inr q =>
    show Sum.inl (gA g q.1, q.2, fct g σ' q.1 i) = Sum.inl (gA g q.1, q.2, fct g σ q.1 i)
    rw [e2]
theorem fup_ne {α : Type} (f : Nat → Nat → α) {k i : Nat} (j : Nat) (v : α) (h : i ≠ k) : fup f k j v i = f i := by
  funext b
  unfold fup
  rw [if_neg (fun x => h x.1)]
theorem fce_I_ne (g : fGP) (σ : fAH) {k i : Nat} (j : Nat) (v : Int32) (h : i ≠ k) : fce g (fsI σ k j v) i = fce g σ i := fce_congr g (fup_ne _ j v h) rfl rfl
theorem fce_J_ne (g : fGP) (σ : fAH) {k i : Nat} (j : Nat) (v : Int64) (h : i ≠ k) : fce g (fsJ σ k j v) i = fce g σ i := fce_congr g rfl (fup_ne _ j v h) rfl
theorem fce_R_ne (g : fGP) (σ : fAH) {k i : Nat} (j : Nat) (v : Option Nat) (h : i ≠ k) : fce g (fsR σ k j v) i = fce g σ i := fce_congr g rfl rfl (fup_ne _ j v h)
theorem fup_self {α : Type} (f : Nat → Nat → α) (k j : Nat) (v : α) : fup f k j v k j = v := if_pos ⟨rfl, rfl⟩
theorem fup_j {α : Type} (f : Nat → Nat → α) (k : Nat) {j b : Nat} (v : α) (h : b ≠ j) : fup f k j v k b = f k b := if_neg (fun x => h x.2)
/-- an object's fields behind a put -/
theorem fput_ob (g : fGP) {σ σ' : fAH} {c k j : Nat} {v : Value} (h : ffv g σ' c k j = v) (ho : ∀ b, b ≠ j → ffv g σ' c k b = ffv g σ c k b) : ((List.range (fKN c)).map (ffv g σ c k)).set j v = (List.range (fKN c)).map (ffv g σ' c k) := by
  refine List.ext_getElem? fun i => ?_
  by_cases hi : i < fKN c
  · by_cases e : i = j
    · subst e
      rw [List.getElem?_set_self (by simpa using hi), List.getElem?_map, List.getElem?_range hi]
      exact congrArg some h.symm
    · rw [List.getElem?_set_ne (fun x => e x.symm), List.getElem?_map, List.getElem?_map, List.getElem?_range hi]
      exact congrArg some (ho i e).symm
  · rw [List.getElem?_eq_none (by simp; omega), List.getElem?_eq_none (by simp; omega)]
section FHP
variable {g : fGP} {d : Nat} {M : fMT} {pc : Nat} {L L1 : List (Option Value)} {st : List Value} {σ : fAH} {Q : fRes → fAH → Prop}
theorem fCX.k {p : Program} {R : Room} {s : State} {m : MethodId} {meth : Method} {c : Code} {H : Heap} {locs : List Loc} {cells slots : Nat} (C : fCX g d M σ p R s m meth c H locs cells slots) {k : Nat} (hk : k < fnx σ) : fad g k = gz g + k := by
  have h : fnx σ ≤ 601024 := C.2.2.2.2.2.2.2.2.2.2.2.1.2.2.2
  unfold fad fscr
  rw [if_neg (by omega)]
/-- the context over a heap that has moved -/
theorem fCX.to {σ' : fAH} {p : Program} {R : Room} {s : State} {m : MethodId} {meth : Method} {c : Code} {H H' : Heap} {locs locs' : List Loc} {cells slots cells' slots' : Nat} (C : fCX g d M σ p R s m meth c H locs cells slots) (hr : cells' + (601024 - (fnx σ' + fgb σ')) ≤ R.cells ∧ slots' + (7293034 - fsu σ') ≤ R.slots) (hP : fRP g σ' H') (hS : va_S (fAA g) s.heap H' locs') : fCX g d M σ' p R s m meth c H' locs' cells' slots' := by
  obtain ⟨h1, h2, h3, h4, h5, h6, h7, h8, h9, h10, h11, h12, h13⟩ := C
  exact ⟨h1, h2, h3, h4, h5, h6, h7, h8, h9, h10, hr, hP, hS⟩
theorem e_get {idx c k j : Nat} {v : Value} (hd : decode M.2.1 pc = .ok (.getfield idx, 3)) (hF : fFL M.1.cls idx c j) (hs : gsh g k = .inl c) (hk : k < fnx σ) (hv : fvm g v = ffv g σ c k j) (h : fEv g d M (pc + 3) L (v :: st) σ Q) : fEv g d M pc L (.ref k :: st) σ Q := by
  intro p e R s m args below meth c0 H locs cells slots ls C hl
  obtain ⟨hc, hj, hF⟩ := hF
  have hws := fws_at g σ hk
  have he : fce g σ k = .inr (c, (List.range (fKN c)).map (ffv g σ c k)) := by unfold fce; rw [hs]
  rw [he] at hws
  have hval : ((List.range (fKN c)).map (ffv g σ c k))[j]? = some (fvm g v) := by
    rw [List.getElem?_map, List.getElem?_range hj, hv]
    rfl
  show W p (gl g) e R s m args below meth c0 H locs cells slots _ (F0 m pc ls (.ref (fad g k) :: st.map (fvm g)))
  rw [C.k hk]
  have hts : ∀ w ∈ u_ws (fKC c) (fKT c) (fKN c), w.before args s = true := fun w hw => C.2.2.1.1 w (fin_at hc w hw) (by obtain ⟨i, -, rfl⟩ := List.mem_map.mp hw; unfold u_lay; split <;> rfl) args
  rcases hF with hF | ⟨host, hF⟩
  · exact va_get C.1 C.2.1 hts (fun w h => h) C.2.2.2.1 C.2.2.1.2.2.1 C.2.2.2.2.2.2.2.2.2.2.2.1.1 k hws (fcl_at hc) j hj (C.2.2.1.1 _ hF rfl args) (fun _ h => h) hval hd (h p e R s m args below meth c0 H locs cells slots ls C hl)
  · exact va_getN C.1 C.2.1 hts (fun w h => h) C.2.2.2.1 C.2.2.1.2.2.1 C.2.2.2.2.2.2.2.2.2.2.2.1.1 k hws (fcl_at hc) j hj (va_Nw.use rfl (C.2.2.1.2.1 _ hF rfl)) (fun _ h => h) hval hd (h p e R s m args below meth c0 H locs cells slots ls C hl)
theorem e_getI {idx c k j : Nat} (hd : decode M.2.1 pc = .ok (.getfield idx, 3)) (hF : fFL M.1.cls idx c j) (hs : gsh g k = .inl c) (hk : k < fnx σ) (hy : fKy c j = .int) (h : fEv g d M (pc + 3) L (.int (fI σ k j) :: st) σ Q) : fEv g d M pc L (.ref k :: st) σ Q := e_get hd hF hs hk (by unfold ffv; rw [hy]; rfl) h
theorem e_getZ {idx c k j : Nat} (hd : decode M.2.1 pc = .ok (.getfield idx, 3)) (hF : fFL M.1.cls idx c j) (hs : gsh g k = .inl c) (hk : k < fnx σ) (hy : fKy c j = .boolean) (h : fEv g d M (pc + 3) L (.int (fI σ k j) :: st) σ Q) : fEv g d M pc L (.ref k :: st) σ Q := e_get hd hF hs hk (by unfold ffv; rw [hy]; rfl) h
theorem e_getL {idx c k j : Nat} (hd : decode M.2.1 pc = .ok (.getfield idx, 3)) (hF : fFL M.1.cls idx c j) (hs : gsh g k = .inl c) (hk : k < fnx σ) (hy : fKy c j = .long) (h : fEv g d M (pc + 3) L (.long (fJ σ k j) :: st) σ Q) : fEv g d M pc L (.ref k :: st) σ Q := e_get hd hF hs hk (by unfold ffv; rw [hy]; rfl) h
def frt (t : FieldType) : Bool := match t with
  | .object _ => true
  | .array _ => true
  | _ => false
theorem e_getR {idx c k j q : Nat} (hd : decode M.2.1 pc = .ok (.getfield idx, 3)) (hF : fFL M.1.cls idx c j) (hs : gsh g k = .inl c) (hk : k < fnx σ) (hy : frt (fKy c j) = true) (hr : fR σ k j = some q) (hq : q < fscr) (h : fEv g d M (pc + 3) L (.ref q :: st) σ Q) : fEv g d M pc L (.ref k :: st) σ Q := by
  refine e_get hd hF hs hk ?_ h
  have e : fvm g (.ref q) = va_rf ((fR σ k j).map fun q => gz g + q) := by
    rw [hr]
    show Value.ref (fad g q) = .ref (gz g + q)
    unfold fad
    rw [if_neg (by omega)]
  rw [e]
  unfold ffv
  cases hyy : fKy c j <;> rw [hyy] at hy <;> first | rfl | cases hy
/-- the slots of a class's fields are apart -/
theorem fapart {s : State} {args : Array Value} (hE : fEN g s) {c : Nat} (hc : c < 10) : ∀ x y, x < fKN c → y < fKN c → x ≠ y → ((gD g).2 c) x ≠ ((gD g).2 c) y :=
  va_apart (own := "") (args := args) (Ts := u_ws (fKC c) (fKT c) (fKN c)) (fun w hw => hE.1 w (fin_at hc w hw) (by obtain ⟨i, -, rfl⟩ := List.mem_map.mp hw; unfold u_lay; split <;> rfl) args) (fun w h => h) (fKy c) (fty_at hc) (fnm_at hc) hE.2.2.1 (fcl_at hc)
/-- a put: final fields in their constructor -/
theorem e_put {idx c k j : Nat} {v : Value} (σ' : fAH) (hd : decode M.2.1 pc = .ok (.putfield idx, 3)) (hF : fFL M.1.cls idx c j) (hs : gsh g k = .inl c) (hk : k < fnx σ) (hfin : (fKT c j).2.2.2 = false ∨ ((fKT c j).2.2.2 = true ∧ M.1.name = "<init>" ∧ (fKT c j).1 = M.1.cls ∧ Cond.fieldLink M.1.cls idx (fKT c j).1 (fKT c j).2.1 (fKT c j).2.2.1 ∈ lw_tbl)) (hn : narrow (fKy c j) (fvm g v) = fvm g v) (hfit : fits (fKy c j) (fvm g v) = true)
    (h0 : σ'.1 = σ.1) (hc1 : ∀ i, i ≠ k → fce g σ' i = fce g σ i) (hv : ffv g σ' c k j = fvm g v) (ho : ∀ b, b ≠ j → ffv g σ' c k b = ffv g σ c k b) (h : fEv g d M (pc + 3) L st σ' Q) : fEv g d M pc L (v :: .ref k :: st) σ Q := by
  intro p e R s m args below meth c0 H locs cells slots ls C hl
  obtain ⟨hc, hj, hF⟩ := hF
  have hws := fws_at g σ hk
  have he : fce g σ k = .inr (c, (List.range (fKN c)).map (ffv g σ c k)) := by unfold fce; rw [hs]
  have he' : fce g σ' k = .inr (c, (List.range (fKN c)).map (ffv g σ' c k)) := by unfold fce; rw [hs]
  rw [he] at hws
  have hset : (fws g σ).set k (gz g + k, .inr (c, ((List.range (fKN c)).map (ffv g σ c k)).set j (fvm g v))) = fws g σ' := by
    rw [fput_ob g hv ho, ← he']
    exact (fws_set g (show fnx σ' = fnx σ by unfold fnx; rw [h0]) (fun i _ hi => hc1 i hi)).symm
  show W p (gl g) e R s m args below meth c0 H locs cells slots _ (F0 m pc ls (fvm g v :: .ref (fad g k) :: st.map (fvm g)))
  rw [C.k hk]
  have hts : ∀ w ∈ u_ws (fKC c) (fKT c) (fKN c), w.before args s = true := fun w hw => C.2.2.1.1 w (fin_at hc w hw) (by obtain ⟨i, -, rfl⟩ := List.mem_map.mp hw; unfold u_lay; split <;> rfl) args
  obtain ⟨hx, hb, hE, hown, -, -, -, hnm, -, -, hroom, hRP, hS⟩ := id C
  obtain ⟨r, h1, cell, q1, q2, q3, q4⟩ := hRP.1 k _ hws
  have hr : r = (fKC c, fKT c, fKN c) := Option.some.inj (h1.symm.trans (fcl_at hc))
  subst hr
  obtain ⟨hSl, hfc, kC, hkC, hkind⟩ := hE.2.2.1.1 c _ (fcl_at hc)
  obtain ⟨cf, kf, fi, f, hi, hsl⟩ := hSl j hj
  have hap := fapart (args := args) hE hc
  have hlay := hts _ (u_in_lay hj)
  have hst := (u_facts hfc hkC (u_lays hts (fun w h => h) hj) hi).1
  have hlt : f.slot < cell.slots.size := by rw [hsl]; exact k2_hasslot (q4 j hj)
  have go : ∀ H' : Heap, H'[gz g + k]? = some (cell.setSlot f.slot (fvm g v)) → H'.size = H.size → (∀ q, q ≠ gz g + k → H'[q]? = H[q]?) → W p (gl g) e R s m args below meth c0 H' (locs ++ [⟨gz g + k, f.slot⟩]) cells slots (fEQ g s R below Q) (F0 m (pc + 3) ls (st.map (fvm g))) := by
    intro H' e1 e2 e3
    have hP1 : va_P (gD g) vwCl ((fws g σ).set k (gz g + k, .inr (c, ((List.range (fKN c)).map (ffv g σ c k)).set j (fvm g v)))) H' := by
      rw [hsl] at e1
      exact hRP.1.set (fD g σ) hws ⟨_, fcl_at hc, t_OB.to (V := updV (vp_V ((List.range (fKN c)).map (ffv g σ c k))) j (fvm g v)) ⟨_, e1, q2, q3, t_set q4 hap hj (fvm g v)⟩ (fun i _ => vp_updV_set (by simpa using hj) (fvm g v) i)⟩ e3
    rw [hset] at hP1
    refine h p e R s m args below meth c0 H' _ cells slots ls (C.to ?_ ⟨hP1, ?_⟩ (hS.put e2 e3 (show gz g ≤ gz g + k by omega))) hl
    · unfold fnx fgb fsu at *
      rw [h0]
      exact hroom
    · unfold fnx fgb at *
      rw [h0, e2]
      exact hRP.2
  rcases hfin with hfin | ⟨hfin, hin2, hdecl, hF2⟩
  · unfold u_lay at hlay
    rw [if_neg (by rw [hfin]; decide)] at hlay
    have h6 := u_store hfc hkC hkind hlay hi (fty_at hc j hj) hn hfit
    rcases hF with hF | ⟨host, hF⟩
    · exact W.putK hx hb (f := f) ⟨hown, hE.1 _ hF rfl args, ⟨_, _, _, hi⟩, hst⟩ (by rw [q2]; exact h6) q1 q3 hlt rfl rfl hd go
    · exact va_WputK hx hb (f := f) hown (va_Nw.use rfl (hE.2.1 _ hF rfl)) hi hst (by rw [q2]; exact h6) q1 q3 hlt rfl rfl hd go
  · unfold u_lay at hlay
    rw [if_pos hfin] at hlay
    have hcf : m.cls = cf := by
      obtain ⟨_, _, c', _, _, _, -, -, hf', -, -, -, hown2, -⟩ := Cond.laysFinal_spec hlay
      have e1 : c' = cf := by have := hi.symm.trans hf'; simp at this; exact this.1.symm
      rw [hdecl] at hown2
      rw [← e1]; exact Option.some.inj (hown.symm.trans hown2)
    have h6 := u_fits hfc hkC hkind (Or.inr hlay) hi (fty_at hc j hj) hn hfit
    exact W.putFinK hx hb hown (hE.1 _ hF2 rfl args) hi hst hcf (hnm.trans hin2) (by rw [q2]; exact h6) q1 q3 hlt rfl rfl hd go
theorem ffv_I (g : fGP) (σ : fAH) {c k j : Nat} (v : Int32) (hy : fKy c j = .int ∨ fKy c j = .boolean) : ffv g (fsI σ k j v) c k j = .int v ∧ ∀ b, b ≠ j → ffv g (fsI σ k j v) c k b = ffv g σ c k b := by
  constructor
  · unfold ffv
    rcases hy with hy | hy <;> rw [hy] <;> exact congrArg Value.int (fup_self _ k j v)
  · intro b hb
    unfold ffv fI fJ fR fsI
    simp only [fup_j _ k v hb]
theorem ffv_J (g : fGP) (σ : fAH) {c k j : Nat} (v : Int64) (hy : fKy c j = .long) : ffv g (fsJ σ k j v) c k j = .long v ∧ ∀ b, b ≠ j → ffv g (fsJ σ k j v) c k b = ffv g σ c k b := by
  constructor
  · unfold ffv
    rw [hy]
    exact congrArg Value.long (fup_self _ k j v)
  · intro b hb
    unfold ffv fI fJ fR fsJ
    simp only [fup_j _ k v hb]
theorem ffv_R (g : fGP) (σ : fAH) {c k j : Nat} (v : Nat) (hy : frt (fKy c j) = true) : ffv g (fsR σ k j (some v)) c k j = .ref (gz g + v) ∧ ∀ b, b ≠ j → ffv g (fsR σ k j (some v)) c k b = ffv g σ c k b := by
  constructor
  · have e : va_rf ((fup σ.2.1 k j (some v) k j).map fun q => gz g + q) = .ref (gz g + v) := by rw [fup_self]; rfl
    unfold ffv
    cases hyy : fKy c j <;> rw [hyy] at hy <;> first | exact e | cases hy
  · intro b hb
    unfold ffv fI fJ fR fsR
    simp only [fup_j _ k (some v) hb]
theorem e_putI {idx c k j : Nat} {v : Int32} (hd : decode M.2.1 pc = .ok (.putfield idx, 3)) (hF : fFL M.1.cls idx c j) (hs : gsh g k = .inl c) (hk : k < fnx σ) (hfin : (fKT c j).2.2.2 = false) (hy : fKy c j = .int) (h : fEv g d M (pc + 3) L st (fsI σ k j v) Q) : fEv g d M pc L (.int v :: .ref k :: st) σ Q :=
  e_put (fsI σ k j v) hd hF hs hk (Or.inl hfin) (by rw [hy]; rfl) (by rw [hy]; rfl) rfl (fun i hi => fce_I_ne g σ j v hi) (ffv_I g σ v (Or.inl hy)).1 (ffv_I g σ v (Or.inl hy)).2 h
theorem e_putZ {idx c k j : Nat} {v : Int32} (hd : decode M.2.1 pc = .ok (.putfield idx, 3)) (hF : fFL M.1.cls idx c j) (hs : gsh g k = .inl c) (hk : k < fnx σ) (hfin : (fKT c j).2.2.2 = false) (hy : fKy c j = .boolean) (hv : v = 0 ∨ v = 1) (h : fEv g d M (pc + 3) L st (fsI σ k j v) Q) : fEv g d M pc L (.int v :: .ref k :: st) σ Q :=
  e_put (fsI σ k j v) hd hF hs hk (Or.inl hfin) (by rw [hy]; show narrow .boolean (.int v) = .int v; rcases hv with rfl | rfl <;> decide) (by rw [hy]; show fits .boolean (.int v) = true; rcases hv with rfl | rfl <;> decide) rfl (fun i hi => fce_I_ne g σ j v hi) (ffv_I g σ v (Or.inr hy)).1 (ffv_I g σ v (Or.inr hy)).2 h
theorem e_putL {idx c k j : Nat} {v : Int64} (hd : decode M.2.1 pc = .ok (.putfield idx, 3)) (hF : fFL M.1.cls idx c j) (hs : gsh g k = .inl c) (hk : k < fnx σ) (hfin : (fKT c j).2.2.2 = false) (hy : fKy c j = .long) (h : fEv g d M (pc + 3) L st (fsJ σ k j v) Q) : fEv g d M pc L (.long v :: .ref k :: st) σ Q :=
  e_put (fsJ σ k j v) hd hF hs hk (Or.inl hfin) (by rw [hy]; rfl) (by rw [hy]; rfl) rfl (fun i hi => fce_J_ne g σ j v hi) (ffv_J g σ v hy).1 (ffv_J g σ v hy).2 h
/-- a reference into a final field, in the constructor -/
theorem e_putR {idx c k j v : Nat} (hd : decode M.2.1 pc = .ok (.putfield idx, 3)) (hF : fFL M.1.cls idx c j) (hs : gsh g k = .inl c) (hk : k < fnx σ) (hfin : (fKT c j).2.2.2 = true) (hin : M.1.name = "<init>") (hdecl : (fKT c j).1 = M.1.cls) (hF2 : Cond.fieldLink M.1.cls idx (fKT c j).1 (fKT c j).2.1 (fKT c j).2.2.1 ∈ lw_tbl) (hy : frt (fKy c j) = true) (hv : v < fscr) (h : fEv g d M (pc + 3) L st (fsR σ k j (some v)) Q) : fEv g d M pc L (.ref v :: .ref k :: st) σ Q := by
  have e : fvm g (.ref v) = .ref (gz g + v) := by
    show Value.ref (fad g v) = _
    unfold fad
    rw [if_neg (by omega)]
  refine e_put (fsR σ k j (some v)) hd hF hs hk (Or.inr ⟨hfin, hin, hdecl, hF2⟩) ?_ ?_ rfl (fun i hi => fce_R_ne g σ j (some v) hi) (by rw [e]; exact (ffv_R g σ v hy).1) (ffv_R g σ v hy).2 h
  · rw [e]
    cases hyy : fKy c j <;> rw [hyy] at hy <;> first | rfl | cases hy
  · rw [e]
    cases hyy : fKy c j <;> rw [hyy] at hy <;> first | rfl | cases hy
end FHP
