/-! ===== rules of fEv: new int[N][K] ===== -/
def fmna (σ : fAH) (N K : Nat) : fAH := ((σ.1.1 + (1 + N), σ.1.2.1, σ.1.2.2 + (N + N * K)), fun k j => if k = σ.1.1 then (if j < N then some (σ.1.1 + 1 + j) else none) else (fgrow σ (1 + N) (N + N * K)).2.1 k j, (fgrow σ (1 + N) (N + N * K)).2.2)
section FMN
variable {g : fGP} {d : Nat} {M : fMT} {pc : Nat} {L L1 : List (Option Value)} {st : List Value} {σ : fAH} {Q : fRes → fAH → Prop}
theorem fws_mna (g : fGP) (σ : fAH) (N K : Nat) : fws g (fmna σ N K) = fws g σ ++ (List.range (1 + N)).map (fun i => (gz g + (fnx σ + i), fce g (fmna σ N K) (fnx σ + i))) := by
  refine List.ext_getElem? fun i => ?_
  by_cases hi : i < fnx σ
  · rw [List.getElem?_append_left (by simpa [fws] using hi), fws_at g _ (show i < fnx (fmna σ N K) by show i < σ.1.1 + (1 + N); unfold fnx at hi; omega), fws_at g σ hi]
    have : fce g (fmna σ N K) i = fce g σ i := by
      unfold fnx at hi
      refine fce_congr g ?_ ?_ ?_
      · funext b; show (if σ.1.1 ≤ i ∧ i < σ.1.1 + (1 + N) then _ else _) = _; rw [if_neg (by omega)]
      · funext b; show (if σ.1.1 ≤ i ∧ i < σ.1.1 + (1 + N) then _ else _) = _; rw [if_neg (by omega)]
      · funext b; show (if i = σ.1.1 then _ else (if σ.1.1 ≤ i ∧ i < σ.1.1 + (1 + N) then _ else _)) = _; rw [if_neg (by omega), if_neg (by omega)]
    rw [this]
  · rw [List.getElem?_append_right (by simp [fws]; omega)]
    have hl : (fws g σ).length = fnx σ := by simp [fws]
    rw [hl]
    by_cases h2 : i < fnx σ + (1 + N)
    · rw [fws_at g _ (show i < fnx (fmna σ N K) from h2), List.getElem?_map, List.getElem?_range (by omega)]
      show some (gz g + i, fce g (fmna σ N K) i) = some (gz g + (fnx σ + (i - fnx σ)), fce g (fmna σ N K) (fnx σ + (i - fnx σ)))
      rw [show fnx σ + (i - fnx σ) = i by omega]
    · have hl2 : (fws g (fmna σ N K)).length = fnx σ + (1 + N) := by
        unfold fws
        rw [List.length_map, List.length_range]
        rfl
      rw [List.getElem?_eq_none (by rw [hl2]; omega), List.getElem?_eq_none (by simp; omega)]
theorem e_mna {idx N K : Nat} {n k : Int32} (hd : decode M.2.1 pc = .ok (.multianewarray idx 2, 4)) (hw : Cond.classLink M.1.cls idx "[[I" ∈ lw_tbl) (hw2 : Cond.arrayClass .int ∈ lw_tbl) (hn : n = nI N) (hk : k = nI K) (hN : N < 60000) (hK : K < 60000) (hs : gsh g (fnx σ) = .inr (6, N)) (hs2 : ∀ i, i < N → gsh g (fnx σ + 1 + i) = .inr (0, K)) (hg : fgb σ = 0) (hc : fnx σ + (1 + N) ≤ 601024) (hsl : fsu σ + (N + N * K) ≤ 7293034) (h : fEv g d M (pc + 4) L (.ref (fnx σ) :: st) (fmna σ N K) Q) : fEv g d M pc L (.int k :: .int n :: st) σ Q := by
  subst hn hk
  intro p e R s m args below meth c H locs cells slots ls C hl T hT X
  subst hT
  obtain ⟨hx, hb, hE, hown, hml, hret0, hlocks, hnm, htab, hrm, hroom, hRP, hS⟩ := id C
  have hH := hRP.2.2.1 hg
  have eN : (nI N).toNatClampNeg = N := nI_clamp (by omega)
  have eK : (nI K).toNatClampNeg = K := nI_clamp (by omega)
  have hcl : ("[" ++ (FieldType.array FieldType.int).toString) = "[[I" := by decide
  obtain ⟨vm₁, cA, comp, -, fA, fC, hO, hI, X', step⟩ := X.multianewarray2F (ty := .int) (n := nI N) (k := nI K) (rest := st.map (fvm g)) hx hown (by rw [hcl]; exact hE.1 _ hw rfl args) (va_AOA.use hE.2.2.2.2.2.2.2.1) (hE.1 _ hw2 rfl args) (g := F0 m pc ls (.int (nI K) :: .int (nI N) :: st.map (fvm g))) rfl (by rw [hb]; exact hd) rfl (nI_pos (by omega)) (nI_pos (by omega)) (by rw [eN]; omega) (by rw [eK]; show K * 4 ≤ _; omega) (by rw [eK]; omega) rfl rfl (by rw [eN]; have := hroom.1; omega) (by rw [eN, eK]; have := hroom.2; omega)
  rw [eN, eK] at X' step
  have hcA : cA = gA g 6 := by
    have hRA := (hE.2.2.1.2 6 _ (ftys_at g (by decide))).2
    exact Option.some.inj (fA.symm.trans (show s.vm.findClass ("[" ++ (FieldType.array FieldType.int).toString) = some (gA g 6) from hRA))
  have hcy : comp = gA g 0 := by
    have hRA := (hE.2.2.1.2 0 _ (ftys_at g (by decide))).2
    have h9 : s.vm.findClass (FieldType.array FieldType.int).toString = some (gA g 0) := hRA
    exact Option.some.inj (fC.symm.trans h9)
  subst hcA hcy
  generalize hF : Jvm.Free.Multi.fill (T.setVm vm₁) (gA g 6) (gA g 0) N K (defaultValue .int) N = F at X' step
  obtain ⟨f1, f2, -, -⟩ := Jvm.Free.Multi.fill_facts (T.setVm vm₁) (gA g 6) (gA g 0) N K (defaultValue .int) N
  have hTh : (T.setVm vm₁).heap = T.heap := rfl
  rw [hF, hTh] at f1 f2
  have hold : ∀ x : Nat, x < T.heap.size → F.heap[x]? = T.heap[x]? := fun x hx => by
    have := Jvm.Free.Multi.fill_old (T.setVm vm₁) (gA g 6) (gA g 0) N K (defaultValue .int) (a := x) hx N
    rw [hF] at this
    exact this
  have hrow : ∀ j : Nat, j < N → F.heap[T.heap.size + 1 + j]? = some (Jvm.Free.Multi.innerC (gA g 0) K (defaultValue .int)) := fun j hj => by
    have := Jvm.Free.Multi.fill_inner (T.setVm vm₁) (gA g 6) (gA g 0) N K (defaultValue .int) N j hj
    rw [hF] at this
    exact this
  have hP : va_P (gD g) vwCl (fws g (fmna σ N K)) F.heap := by
    rw [fws_mna]
    refine (hRP.1.kept (fun k x hx => hold x.1 ((hRP.1 k x hx).lt))).app (fun k x hx => ?_)
    have hk : k < 1 + N := by
      have := (List.getElem?_eq_some_iff.mp hx).1
      simpa using this
    rw [List.getElem?_map, List.getElem?_range hk] at hx
    cases hx
    cases k with
    | zero =>
      have e3 : fce g (fmna σ N K) (fnx σ + 0) = .inl (gA g 6, N, fct g (fmna σ N K) 6 (fnx σ + 0)) := fce_arr (by rw [Nat.add_zero]; exact hs)
      show va_at (gD g) vwCl (gz g + (fnx σ + 0), fce g (fmna σ N K) (fnx σ + 0)) F.heap
      rw [e3]
      show F.heap[gz g + (fnx σ + 0)]? = some (vp_cell (gA g 6) (N, .inr (.inr (.inr (.inr (fun j => (fR (fmna σ N K) (fnx σ + 0) j).map fun q => gz g + q))))))
      rw [Nat.add_zero, ← hH, f2, vp_cell_q, vr_outer]
      congr 2
      funext j
      have : fR (fmna σ N K) (fnx σ) j = if j < N then some (fnx σ + 1 + j) else none := if_pos rfl
      rw [this, hH]
      by_cases hj : j < N
      · rw [if_pos hj, if_pos hj]
        show Value.ref (gz g + fnx σ + 1 + j) = Value.ref (gz g + (fnx σ + 1 + j))
        rw [show gz g + fnx σ + 1 + j = gz g + (fnx σ + 1 + j) by omega]
      · rw [if_neg hj, if_neg hj]
        rfl
    | succ i =>
      have hi : i < N := by omega
      have e3 : fce g (fmna σ N K) (fnx σ + (i + 1)) = .inl (gA g 0, K, fct g (fmna σ N K) 0 (fnx σ + (i + 1))) := fce_arr (by rw [show fnx σ + (i + 1) = fnx σ + 1 + i by omega]; exact hs2 i hi)
      show va_at (gD g) vwCl (gz g + (fnx σ + (i + 1)), fce g (fmna σ N K) (fnx σ + (i + 1))) F.heap
      rw [e3]
      show F.heap[gz g + (fnx σ + (i + 1))]? = some (vp_cell (gA g 0) (K, .inl (fI (fmna σ N K) (fnx σ + (i + 1)))))
      rw [show gz g + (fnx σ + (i + 1)) = T.heap.size + 1 + i by omega, hrow i hi, vp_cell_i]
      show some (Jvm.Free.Multi.innerC (gA g 0) K (.int 0)) = _
      have a : ∀ j, fI (fmna σ N K) (fnx σ + (i + 1)) j = 0 := fun j => (fgrow_I σ (1 + N) (N + N * K) (i := i + 1) (by omega) j).1
      have : (fun j => Value.int (fI (fmna σ N K) (fnx σ + (i + 1)) j)) = fun _ => Value.int 0 := funext fun j => by rw [a j]
      rw [this, ← arrV_new]
      rfl
  have hC : fCX g d M (fmna σ N K) p R s m meth c F.heap locs (cells + (1 + N)) (slots + (N + N * K)) := by
    refine C.to ?_ ⟨hP, ?_, fun _ => ?_, ?_⟩ ⟨Nat.le_trans hS.1 (by omega), fun x h1 h2 => (hold x (Nat.lt_of_lt_of_le h1 hS.1)).trans (hS.2.1 x h1 h2), hS.2.2⟩
    · unfold fnx fgb fsu at *
      have := hroom.1
      have := hroom.2
      exact ⟨by show cells + (1 + N) + (601024 - (σ.1.1 + (1 + N) + σ.1.2.1)) ≤ R.cells; omega, by show slots + (N + N * K) + (7293034 - (σ.1.2.2 + (N + N * K))) ≤ R.slots; omega⟩
    · show gz g + (σ.1.1 + (1 + N)) ≤ F.heap.size
      unfold fnx at hH
      omega
    · show F.heap.size = gz g + (σ.1.1 + (1 + N))
      unfold fnx at hH
      omega
    · exact hc
  have X2 : Stand p (gl g) e R s m args below meth c F locs (cells + (1 + N)) (slots + (N + N * K)) := by
    rw [show cells + (1 + N) = cells + 1 + N by omega, show slots + (N + N * K) = slots + N + N * K by omega]
    exact X'
  obtain ⟨t, a1, b1⟩ := h p e R s m args below meth c F.heap locs _ _ ls hC hl F rfl X2
  refine ⟨t, step t ?_, b1⟩
  have e2 : fad g (fnx σ) = T.heap.size := by unfold fad fscr; rw [if_neg (by omega), hH]
  have a2 : Steps p.tables e below (F.setTop (F0 m (pc + 4) ls (.ref (fad g (fnx σ)) :: st.map (fvm g)))) t := a1
  rw [e2] at a2
  exact a2
end FMN
