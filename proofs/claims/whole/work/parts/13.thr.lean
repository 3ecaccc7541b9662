/-! ===== rules of fEv: throw new E("text"), in the class FrostMason ===== -/
abbrev fsup : List String := ["java/lang/RuntimeException", "java/lang/Exception"]
/-- the words of a throw -/
def fTW (ik ic : Nat) (cls : String) : Prop := (Bundle.fit cls = true ∧ ∀ n ∈ fsup, Bundle.fit n = true) ∧ Cond.classLink RX9 ik cls ∈ lw_tbl ∧ Cond.initialized cls ∈ lw_tbl ∧ (∀ w ∈ vx_atS RX9 ic cls fsup, w ∈ lw_tbl ∧ (goodWord w = true ∨ fnw w = true)) ∧ ∀ w ∈ Cond.classLink RX9 ik cls :: Cond.initialized cls :: vx_atS RX9 ic cls fsup, vx_ot w = true
theorem fnw_use {w : Cond} {s : State} {args : Array Value} (hw : fnw w = true) (h : va_Nw w s) : w.before args s = true := by
  cases w <;> first | exact va_Nw.use rfl h | (cases hw)
section FTR
variable {g : fGP} {d : Nat} {M : fMT} {pc : Nat} {L L1 : List (Option Value)} {st : List Value} {σ : fAH} {Q : fRes → fAH → Prop}
theorem fthrow_go {cls : String} {p : Program} {e : Env} {R : Room} {s : State} {m : MethodId} {args : Array Value} {below : List Frame} {meth : Method} {c : Code} {H : Heap} {locs : List Loc} {cells slots : Nat} {gf : JFrame} (C : fCX g d M σ p R s m meth c H locs cells slots) (hc : fnx σ + fgb σ + 1 ≤ 601024) (hs : fsu σ + 6 ≤ 7293034) (h : Q (.inr cls) (fthr σ))
    (k : W p (gl g) e R s m args below meth c H locs cells slots (vx_MQ below (fun _ _ _ _ => False) (fun E _ t => E = cls ∧ H.size ≤ t.heap.size ∧ ∀ q : Nat, q < H.size → t.heap[q]? = H[q]?) args s (cells + 1) (slots + 6) (fAA g)) gf) : W p (gl g) e R s m args below meth c H locs cells slots (fEQ g s R below Q) gf := by
  intro T hT X
  obtain ⟨t, h1, o, h2, h3, h4⟩ := k T hT X
  obtain ⟨-, -, -, -, -, -, -, -, -, -, hroom, hRP, hS⟩ := C
  rcases h4 with ⟨h5, -⟩ | ⟨q, rfl, E, ce, Lc, ⟨rfl, hz, hk⟩, hce, hcv, hcl, hW, hsm, hL⟩
  · exact h5.elim
  · have hP : va_P (gD g) vwCl (fws g (fthr σ)) t.heap := by
      have : fws g (fthr σ) = fws g σ := rfl
      rw [this]
      exact hRP.1.kept (fun k x hx => hk x.1 ((hRP.1 k x hx).lt))
    refine ⟨t, h1, h2, hW, .inr E, fthr σ, .threw q, Lc, cells + 1, slots + 6, h, h3, ⟨q, ce, rfl, hce, hcv, hcl⟩, ⟨hP, Nat.le_trans hRP.2.1 hz, fun h0 => ?_, hRP.2.2.2⟩, hsm, hL, ?_⟩
    · cases h0
    · unfold fthr fnx fgb fsu at *
      have := hroom.1
      have := hroom.2
      exact ⟨by show cells + 1 + (601024 - (σ.1.1 + (σ.1.2.1 + 1))) ≤ R.cells; omega, by show slots + 6 + (7293034 - (σ.1.2.2 + 6)) ≤ R.slots; omega⟩
theorem e_throwS {cls text : String} {ik is ic : Nat} (ho : M.1.cls = RX9) (hno : M.2.2.2.2 = []) (hw : fTW ik ic cls) (htx : (is, text) ∈ fstr) (d0 : decode M.2.1 pc = .ok (.new ik, 3)) (d3 : decode M.2.1 (pc + 3) = .ok (.dup, 1)) (d4 : decode M.2.1 (pc + 4) = .ok (.ldc is, 2)) (d6 : decode M.2.1 (pc + 6) = .ok (.invokespecial ic, 3)) (d9 : decode M.2.1 (pc + 9) = .ok (.athrow, 1)) (hst : (st.map fun v => v.category).sum ≤ 8) (hc : fnx σ + fgb σ + 1 ≤ 601024) (hs : fsu σ + 6 ≤ 7293034) (h : Q (.inr cls) (fthr σ)) : fEv g d M pc L st σ Q := by
  intro p e R s m args below meth c H locs cells slots ls C hl
  refine fthrow_go C hc hs h ?_
  obtain ⟨hx, hb, hE, hown, hml, hret0, hlocks, hnm, htab, hrm, hroom, hRP, hS⟩ := id C
  obtain ⟨⟨hf1, hf2⟩, hw1, hw2, hw3, hw4⟩ := hw
  obtain ⟨sa, hsa⟩ := hE.2.2.2.2.2.1 _ htx
  have hcat : ((st.map (fvm g)).map fun v => v.category).sum = (st.map fun v => v.category).sum := by
    rw [List.map_map]
    congr 1
    exact List.map_congr_left (fun v _ => fvm_cat g v)
  rw [ho] at hown
  refine vx_throwS (names := fsup) (text := text) (sa := sa) hx hb hE.2.2.2.2.2.2.2.2.2.2.2 hown hf1 hf2 (hE.1 _ hw1 rfl args) (hE.1 _ hw2 rfl args) hsa (fun w hw => ?_) hw4 hE.2.2.2.1.1 hE.2.2.2.1.2 hS (by rw [hml]; exact hl.1) d0 d3 d4 d6 d9 ?_ ?_ ?_ ?_ ?_ hlocks (fun t _ h1 h2 => ⟨rfl, h1, h2⟩) hS.2.2 (Nat.le_refl _) (Nat.le_refl _)
  · obtain ⟨hm, hg | hg⟩ := hw3 w hw
    · exact hE.1 w hm hg args
    · exact fnw_use hg (hE.2.1 w hm hg)
  · rw [htab, hno]
    intro x hx
    cases hx
  · have := hrm.1
    show 2 + 3 < R.frames
    omega
  · rw [hcat]
    have := hrm.2
    show (st.map fun v => v.category).sum + (13 * (2 + 1) + 43) ≤ R.locals
    omega
  · have := hroom.1
    omega
  · have := hroom.2
    omega
theorem e_throwSW {cls text : String} {ik is ic : Nat} (ho : M.1.cls = RX9) (hno : M.2.2.2.2 = []) (hw : fTW ik ic cls) (htx : (is, text) ∈ fstr) (d0 : decode M.2.1 pc = .ok (.new ik, 3)) (d3 : decode M.2.1 (pc + 3) = .ok (.dup, 1)) (d4 : decode M.2.1 (pc + 4) = .ok (.ldc_w is, 3)) (d7 : decode M.2.1 (pc + 7) = .ok (.invokespecial ic, 3)) (d10 : decode M.2.1 (pc + 10) = .ok (.athrow, 1)) (hst : (st.map fun v => v.category).sum ≤ 8) (hc : fnx σ + fgb σ + 1 ≤ 601024) (hs : fsu σ + 6 ≤ 7293034) (h : Q (.inr cls) (fthr σ)) : fEv g d M pc L st σ Q := by
  intro p e R s m args below meth c H locs cells slots ls C hl
  refine fthrow_go C hc hs h ?_
  obtain ⟨hx, hb, hE, hown, hml, hret0, hlocks, hnm, htab, hrm, hroom, hRP, hS⟩ := id C
  obtain ⟨⟨hf1, hf2⟩, hw1, hw2, hw3, hw4⟩ := hw
  obtain ⟨sa, hsa⟩ := hE.2.2.2.2.2.1 _ htx
  have hcat : ((st.map (fvm g)).map fun v => v.category).sum = (st.map fun v => v.category).sum := by
    rw [List.map_map]
    congr 1
    exact List.map_congr_left (fun v _ => fvm_cat g v)
  rw [ho] at hown
  refine vx_throwSW (names := fsup) (text := text) (sa := sa) hx hb hE.2.2.2.2.2.2.2.2.2.2.2 hown hf1 hf2 (hE.1 _ hw1 rfl args) (hE.1 _ hw2 rfl args) hsa (fun w hw => ?_) hw4 hE.2.2.2.1.1 hE.2.2.2.1.2 hS (by rw [hml]; exact hl.1) d0 d3 d4 d7 d10 ?_ ?_ ?_ ?_ ?_ hlocks (fun t _ h1 h2 => ⟨rfl, h1, h2⟩) hS.2.2 (Nat.le_refl _) (Nat.le_refl _)
  · obtain ⟨hm, hg | hg⟩ := hw3 w hw
    · exact hE.1 w hm hg args
    · exact fnw_use hg (hE.2.1 w hm hg)
  · rw [htab, hno]
    intro x hx
    cases hx
  · have := hrm.1
    show 2 + 3 < R.frames
    omega
  · rw [hcat]
    have := hrm.2
    show (st.map fun v => v.category).sum + (13 * (2 + 1) + 43) ≤ R.locals
    omega
  · have := hroom.1
    omega
  · have := hroom.2
    omega
end FTR
/-! new cells -/
def fokT (t : FieldType) : Bool := match t with
  | .int => true
  | .boolean => true
  | .long => true
  | t => frt t
theorem fokT_at : ∀ c, c < 10 → ∀ j, j < fKN c → fokT (fKy c j) = true := by decide +kernel
theorem fws_grow (g : fGP) (σ : fAH) (n w : Nat) : fws g (fgrow σ n w) = fws g σ ++ (List.range n).map (fun i => (gz g + (fnx σ + i), fce g (fgrow σ n w) (fnx σ + i))) := by
  refine List.ext_getElem? fun i => ?_
  by_cases hi : i < fnx σ
  · rw [List.getElem?_append_left (by simpa [fws] using hi), fws_at g _ (show i < fnx (fgrow σ n w) by show i < σ.1.1 + n; unfold fnx at hi; omega), fws_at g σ hi]
    have : fce g (fgrow σ n w) i = fce g σ i := by
      unfold fnx at hi
      refine fce_congr g ?_ ?_ ?_ <;> (funext b; show (if σ.1.1 ≤ i ∧ i < σ.1.1 + n then _ else _) = _; rw [if_neg (by omega)])
    rw [this]
  · rw [List.getElem?_append_right (by simp [fws]; omega)]
    have hl : (fws g σ).length = fnx σ := by simp [fws]
    rw [hl]
    by_cases h2 : i < fnx σ + n
    · rw [fws_at g _ (show i < fnx (fgrow σ n w) from h2), List.getElem?_map, List.getElem?_range (by omega)]
      show some (gz g + i, fce g (fgrow σ n w) i) = some (gz g + (fnx σ + (i - fnx σ)), fce g (fgrow σ n w) (fnx σ + (i - fnx σ)))
      rw [show fnx σ + (i - fnx σ) = i by omega]
    · have hl2 : (fws g (fgrow σ n w)).length = fnx σ + n := by
        unfold fws
        rw [List.length_map, List.length_range]
        rfl
      rw [List.getElem?_eq_none (by rw [hl2]; omega), List.getElem?_eq_none (by simp; omega)]
section FNW
variable {g : fGP} {d : Nat} {M : fMT} {pc : Nat} {L L1 : List (Option Value)} {st : List Value} {σ : fAH} {Q : fRes → fAH → Prop}
/-- behind the making of n cells that lie at the heap's end -/
theorem fgrow_go {n w : Nat} {p : Program} {R : Room} {s : State} {m : MethodId} {meth : Method} {c : Code} {H H1 : Heap} {locs : List Loc} {cells slots : Nat} (C : fCX g d M σ p R s m meth c H locs cells slots) (hg : fgb σ = 0) (hc : fnx σ + n ≤ 601024) (hs : fsu σ + w ≤ 7293034) (z1 : H1.size = H.size + n) (o1 : ∀ q : Nat, q < H.size → H1[q]? = H[q]?)
    (hn : ∀ i, i < n → va_at (gD g) vwCl (gz g + (fnx σ + i), fce g (fgrow σ n w) (fnx σ + i)) H1) : fCX g d M (fgrow σ n w) p R s m meth c H1 locs (cells + n) (slots + w) := by
  obtain ⟨-, -, -, -, -, -, -, -, -, -, hroom, hRP, hS⟩ := id C
  have hH := hRP.2.2.1 hg
  have hP : va_P (gD g) vwCl (fws g (fgrow σ n w)) H1 := by
    rw [fws_grow]
    refine (hRP.1.kept (fun k x hx => o1 x.1 ((hRP.1 k x hx).lt))).app (fun k x hx => ?_)
    have hk : k < n := by
      have := (List.getElem?_eq_some_iff.mp hx).1
      simpa using this
    rw [List.getElem?_map, List.getElem?_range hk] at hx
    cases hx
    exact hn k hk
  refine C.to ?_ ⟨hP, ?_, fun _ => ?_, ?_⟩ ⟨Nat.le_trans hS.1 (by omega), fun x h1 h2 => (o1 x (Nat.lt_of_lt_of_le h1 hS.1)).trans (hS.2.1 x h1 h2), hS.2.2⟩
  · unfold fnx fgb fsu fgrow at *
    have := hroom.1
    have := hroom.2
    exact ⟨by show cells + n + (601024 - (σ.1.1 + n + σ.1.2.1)) ≤ R.cells; omega, by show slots + w + (7293034 - (σ.1.2.2 + w)) ≤ R.slots; omega⟩
  · show gz g + (σ.1.1 + n) ≤ H1.size
    unfold fnx at hH
    omega
  · show H1.size = gz g + (σ.1.1 + n)
    unfold fnx at hH
    omega
  · exact hc
theorem fgrow_I (σ : fAH) (n w : Nat) {i : Nat} (h : i < n) (j : Nat) : fI (fgrow σ n w) (fnx σ + i) j = 0 ∧ fJ (fgrow σ n w) (fnx σ + i) j = 0 ∧ fR (fgrow σ n w) (fnx σ + i) j = none := by
  unfold fI fJ fR fnx fgrow
  refine ⟨?_, ?_, ?_⟩ <;> exact if_pos ⟨by omega, by omega⟩
theorem e_new {idx c9 : Nat} (hd : decode M.2.1 pc = .ok (.new idx, 3)) (hw : Cond.classLink M.1.cls idx (fKC c9) ∈ lw_tbl ∧ Cond.instantiable (fKC c9) (fKN c9) ∈ lw_tbl ∧ Cond.initialized (fKC c9) ∈ lw_tbl) (hc9 : c9 < 10) (hs : gsh g (fnx σ) = .inl c9) (hg : fgb σ = 0) (hc : fnx σ + 1 ≤ 601024) (hsl : fsu σ + fKN c9 ≤ 7293034) (h : fEv g d M (pc + 3) L (.ref (fnx σ) :: st) (fgrow σ 1 (fKN c9)) Q) : fEv g d M pc L st σ Q := by
  intro p e R s m args below meth c H locs cells slots ls C hl
  obtain ⟨hx, hb, hE, hown, hml, hret0, hlocks, hnm, htab, hrm, hroom, hRP, hS⟩ := id C
  have hKn := hE.2.2.1.1 c9 _ (fcl_at hc9)
  have hH := hRP.2.2.1 hg
  have hts : ∀ w ∈ u_ws (fKC c9) (fKT c9) (fKN c9), w.before args s = true := fun w hw => hE.1 w (fin_at hc9 w hw) (by obtain ⟨i, -, rfl⟩ := List.mem_map.mp hw; unfold u_lay; split <;> rfl) args
  refine W.newcK hx hb hown (hE.1 _ hw.1 rfl args) (hE.1 _ hw.2.1 rfl args) (hE.1 _ hw.2.2 rfl args) rfl hd (by have := hroom.1; omega) (by have := hroom.2; omega) hKn.2.1 hH fun H1 kC hkC e1 z1 o1 => ?_
  have hC := fgrow_go (H1 := H1) C hg hc hsl (by rw [z1, hH]) (fun q hq => o1 q (by rw [← hH]; exact hq)) (fun i hi => ?_)
  · have h2 := h p e R s m args below meth c H1 locs (cells + 1) (slots + fKN c9) ls hC hl
    have h3 : W p (gl g) e R s m args below meth c H1 locs (cells + 1) (slots + fKN c9) (fEQ g s R below Q) (F0 m (pc + 3) ls (.ref (fad g (fnx σ)) :: st.map (fvm g))) := h2
    have e2 : fad g (fnx σ) = gz g + fnx σ := by unfold fad fscr; rw [if_neg (by omega)]
    rw [e2] at h3
    exact h3
  · rw [show i = 0 by omega]
    have e3 : fce g (fgrow σ 1 (fKN c9)) (fnx σ + 0) = .inr (c9, (List.range (fKN c9)).map (ffv g (fgrow σ 1 (fKN c9)) c9 (fnx σ + 0))) := by
      unfold fce
      rw [Nat.add_zero, hs]
    rw [e3]
    refine ⟨_, fcl_at hc9, (u_born (fKy c9) hts (fun w h => h) hKn hkC e1 (fty_at hc9)).to (fun j hj => ?_)⟩
    have e4 : vp_V ((List.range (fKN c9)).map (ffv g (fgrow σ 1 (fKN c9)) c9 (fnx σ + 0))) j = ffv g (fgrow σ 1 (fKN c9)) c9 (fnx σ + 0) j := by
      unfold vp_V
      rw [List.getD_eq_getElem?_getD, List.getElem?_map, List.getElem?_range hj]
      rfl
    rw [e4]
    obtain ⟨a1, a2, a3⟩ := fgrow_I σ 1 (fKN c9) (i := 0) (by omega) j
    have hok := fokT_at c9 hc9 j hj
    unfold ffv
    cases hy : fKy c9 j <;> rw [hy] at hok <;> first | (rw [a1]; rfl) | (rw [a2]; rfl) | (rw [a3]; rfl) | (cases hok)
/-- a new array of numbers: of kind t, 0 int, 1 byte, 2 long -/
theorem e_newarr {t N : Nat} {n : Int32} {at9 : ArrayType} (hd : decode M.2.1 pc = .ok (.newarray at9, 2)) (hat : newarray.typeOf at9 = fTy t) (ht : t < 3) (hw : Cond.arrayClass (fTy t) ∈ lw_tbl) (hn : n = nI N) (hN : N < 60000000) (hs : gsh g (fnx σ) = .inr (t, N)) (hg : fgb σ = 0) (hc : fnx σ + 1 ≤ 601024) (hsl : fsu σ + N ≤ 7293034) (h : fEv g d M (pc + 2) L (.ref (fnx σ) :: st) (fgrow σ 1 N) Q) : fEv g d M pc L (.int n :: st) σ Q := by
  subst hn
  intro p e R s m args below meth c H locs cells slots ls C hl
  obtain ⟨hx, hb, hE, hown, hml, hret0, hlocks, hnm, htab, hrm, hroom, hRP, hS⟩ := id C
  have hH := hRP.2.2.1 hg
  have hby : componentBytes (fTy t) ≤ 8 := by
    rcases (show t = 0 ∨ t = 1 ∨ t = 2 by omega) with rfl | rfl | rfl <;> decide
  refine va_newaK hx hb (by rw [hat]; exact hE.1 _ hw (by rcases (show t = 0 ∨ t = 1 ∨ t = 2 by omega) with rfl | rfl | rfl <;> rfl) args) rfl hd (n := nI N) (N := N) (rest := st.map (fvm g)) rfl (nI_pos (by omega)) (nI_clamp (by omega)) (by rw [hat]; exact Nat.le_trans (Nat.mul_le_mul_left N hby) (by omega)) (by have := hroom.1; omega) (by have := hroom.2; omega) hH fun H1 cA e1 z1 o1 hAr hfc => ?_
  have hcA : cA = gA g t := by
    have hRA := (hE.2.2.1.2 t _ (ftys_at g (by omega))).2
    rw [hat] at hfc
    have h9 : s.vm.findClass ("[" ++ (fTy t).toString) = some (gA g t) := by
      rcases (show t = 0 ∨ t = 1 ∨ t = 2 by omega) with rfl | rfl | rfl <;> exact hRA
    exact Option.some.inj (hfc.symm.trans h9)
  subst hcA
  have hC := fgrow_go (H1 := H1) C hg hc hsl (by rw [z1, hH]) (fun q hq => o1 q (by rw [← hH]; exact hq)) (fun i hi => ?_)
  · have h2 := h p e R s m args below meth c H1 locs (cells + 1) (slots + N) ls hC hl
    have h3 : W p (gl g) e R s m args below meth c H1 locs (cells + 1) (slots + N) (fEQ g s R below Q) (F0 m (pc + 2) ls (.ref (fad g (fnx σ)) :: st.map (fvm g))) := h2
    have e2 : fad g (fnx σ) = gz g + fnx σ := by unfold fad fscr; rw [if_neg (by omega)]
    rw [e2] at h3
    exact h3
  · rw [show i = 0 by omega]
    have e3 : fce g (fgrow σ 1 N) (fnx σ + 0) = .inl (gA g t, N, fct g (fgrow σ 1 N) t (fnx σ + 0)) := fce_arr (by rw [Nat.add_zero]; exact hs)
    rw [e3]
    show H1[gz g + (fnx σ + 0)]? = some (vp_cell (gA g t) (N, fct g (fgrow σ 1 N) t (fnx σ + 0)))
    rw [Nat.add_zero, e1, hat]
    have a := fgrow_I σ 1 N (i := 0) (by omega)
    rw [Nat.add_zero] at a
    rcases (show t = 0 ∨ t = 1 ∨ t = 2 by omega) with rfl | rfl | rfl
    · show _ = some (vp_cell (gA g 0) (N, .inl (fI (fgrow σ 1 N) (fnx σ))))
      rw [vp_cell_i]
      congr 2
      funext j
      rw [(a j).1]
      rfl
    · show _ = some (vp_cell (gA g 1) (N, .inl (fI (fgrow σ 1 N) (fnx σ))))
      rw [vp_cell_i]
      congr 2
      funext j
      rw [(a j).1]
      rfl
    · show _ = some (vp_cell (gA g 2) (N, .inr (.inl (fJ (fgrow σ 1 N) (fnx σ)))))
      rw [vp_cell_l]
      congr 2
      funext j
      rw [(a j).2.1]
      rfl
/-- a new array of objects of the class C9 -/
theorem e_anew {idx t N : Nat} {n : Int32} {C9 : String} (hd : decode M.2.1 pc = .ok (.anewarray idx, 3)) (hw : Cond.classLink M.1.cls idx C9 ∈ lw_tbl) (hC9 : C9 ∈ [RX8, RX0, RX7]) (ht : 3 ≤ t ∧ t < 6) (hty : fTy t = .object C9) (hn : n = nI N) (hN : N < 60000000) (hs : gsh g (fnx σ) = .inr (t, N)) (hg : fgb σ = 0) (hc : fnx σ + 1 ≤ 601024) (hsl : fsu σ + N ≤ 7293034) (h : fEv g d M (pc + 3) L (.ref (fnx σ) :: st) (fgrow σ 1 N) Q) : fEv g d M pc L (.int n :: st) σ Q := by
  subst hn
  intro p e R s m args below meth c H locs cells slots ls C hl
  obtain ⟨hx, hb, hE, hown, hml, hret0, hlocks, hnm, htab, hrm, hroom, hRP, hS⟩ := id C
  have hH := hRP.2.2.1 hg
  have eN : (nI N).toNatClampNeg = N := nI_clamp (by omega)
  refine W.anew (n := nI N) (rest := st.map (fvm g)) hx hb hown (hE.1 _ hw rfl args) (va_AO.use (hE.2.2.2.2.2.2.1 _ hC9)) rfl hd rfl (nI_pos (by omega)) (by rw [eN]; omega) (by have := hroom.1; omega) (by rw [eN]; have := hroom.2; omega) fun cA kA comp f1 f2 f3 f4 => ?_
  rw [eN]
  have hcA : cA = gA g t := by
    have hRA := (hE.2.2.1.2 t _ (ftys_at g (by omega))).2
    have hRA : va_RA s (gA g t) (.object C9) := by rw [← hty]; exact hRA
    obtain ⟨kA9, comp9, -, -, -, k4⟩ := hRA
    exact Option.some.inj (f1.symm.trans k4)
  subst hcA
  generalize hH1 : H.push ({ cls := gA g t, slots := Array.replicate N .null, vm := .none } : Cell) = H1
  have z1 : H1.size = H.size + 1 := by rw [← hH1, Array.size_push]
  have e1 : H1[H.size]? = some (arrV (gA g t) N (fun _ => .null)) := by rw [← hH1, Array.getElem?_push_size, ← arrV_new]
  have o1 : ∀ q : Nat, q < H.size → H1[q]? = H[q]? := fun q hq => by rw [← hH1, Array.getElem?_push, if_neg (Nat.ne_of_lt hq)]
  have hC := fgrow_go (H1 := H1) C hg hc hsl z1 o1 (fun i hi => ?_)
  · have h2 := h p e R s m args below meth c H1 locs (cells + 1) (slots + N) ls hC hl
    have h3 : W p (gl g) e R s m args below meth c H1 locs (cells + 1) (slots + N) (fEQ g s R below Q) (F0 m (pc + 3) ls (.ref (fad g (fnx σ)) :: st.map (fvm g))) := h2
    have e2 : fad g (fnx σ) = H.size := by unfold fad fscr; rw [if_neg (by omega), hH]
    rw [e2] at h3
    exact h3
  · rw [show i = 0 by omega]
    have e3 : fce g (fgrow σ 1 N) (fnx σ + 0) = .inl (gA g t, N, fct g (fgrow σ 1 N) t (fnx σ + 0)) := fce_arr (by rw [Nat.add_zero]; exact hs)
    rw [e3]
    show H1[gz g + (fnx σ + 0)]? = some (vp_cell (gA g t) (N, fct g (fgrow σ 1 N) t (fnx σ + 0)))
    rw [Nat.add_zero, ← hH, e1]
    have a := fgrow_I σ 1 N (i := 0) (by omega)
    rw [Nat.add_zero] at a
    have hct : fct g (fgrow σ 1 N) t (fnx σ) = .inr (.inr (.inr (.inr (fun j => (fR (fgrow σ 1 N) (fnx σ) j).map fun q => gz g + q)))) := by
      rcases (show t = 3 ∨ t = 4 ∨ t = 5 by omega) with rfl | rfl | rfl <;> rfl
    rw [hct, vp_cell_q]
    congr 2
    funext j
    rw [(a j).2.2]
    rfl
end FNW
