/-! ===== rules of fEv: returns, calls, exceptions ===== -/
section FRT
variable {g : fGP} {d : Nat} {M : fMT} {pc : Nat} {L L1 : List (Option Value)} {st : List Value} {σ : fAH} {Q : fRes → fAH → Prop}
theorem e_ireturn {v : Int32} (ty : FieldType) (hd : decode M.2.1 pc = .ok (.ireturn, 1)) (hr : M.2.2.2.1 = some ty) (hn : narrow ty (.int v) = .int v) (h : Q (.inl (some (.int v))) σ) : fEv g d M pc L [.int v] σ Q := by
  intro p e R s m args below meth c H locs cells slots ls C hl T hT X
  obtain ⟨hx, hb, hE, hown, hml, hret0, hlocks, hnm, -, hrm, hroom, hRP, hS⟩ := C
  have hr' : meth.sig.returnType = some ty := hret0.trans hr
  obtain ⟨fs, hret, hrun, hended, hW, hframe⟩ := X.leave (v := some (.int v)) (fun h => by rw [hr'] at h; cases h) hlocks
  have hmeth' : T.vm.method? m = some meth := X.method'
  refine ⟨T.setFrames fs, ?_, hrun, hW, .inl (some (.int v)), σ, .returned (some (.int v)), locs, cells, slots, h, hended, rfl, ?_, hframe, hS.2.2, hroom⟩
  · show Steps p.tables e below (T.setTop (F0 m pc ls [.int v])) _
    jvm_step X.here [X.here.top, hx, hb, hd, hmeth', hr', hn]
    (try refine ⟨rfl, ?_⟩); (try refine ⟨rfl, ?_⟩)
    first | (intro acts; rw [hret _ acts rfl rfl rfl]) | rw [hret _ _ rfl rfl rfl]
    exact Steps.refl _
  · show fRP g σ T.heap
    rw [hT]
    exact hRP
theorem e_lreturn {v : Int64} (hd : decode M.2.1 pc = .ok (.lreturn, 1)) (hr : M.2.2.2.1 = some .long) (h : Q (.inl (some (.long v))) σ) : fEv g d M pc L [.long v] σ Q := by
  intro p e R s m args below meth c H locs cells slots ls C hl T hT X
  obtain ⟨hx, hb, hE, hown, hml, hret0, hlocks, hnm, -, hrm, hroom, hRP, hS⟩ := C
  have hr' : meth.sig.returnType = some .long := hret0.trans hr
  obtain ⟨fs, hret, hrun, hended, hW, hframe⟩ := X.leave (v := some (.long v)) (fun h => by rw [hr'] at h; cases h) hlocks
  have hmeth' : T.vm.method? m = some meth := X.method'
  refine ⟨T.setFrames fs, ?_, hrun, hW, .inl (some (.long v)), σ, .returned (some (.long v)), locs, cells, slots, h, hended, rfl, ?_, hframe, hS.2.2, hroom⟩
  · show Steps p.tables e below (T.setTop (F0 m pc ls [.long v])) _
    jvm_step X.here [X.here.top, hx, hb, hd, hmeth', hr', narrow]
    (try refine ⟨rfl, ?_⟩); (try refine ⟨rfl, ?_⟩)
    first | (intro acts; rw [hret _ acts rfl rfl rfl]) | rw [hret _ _ rfl rfl rfl]
    exact Steps.refl _
  · show fRP g σ T.heap
    rw [hT]
    exact hRP
theorem e_return (hd : decode M.2.1 pc = .ok (.return_, 1)) (hr : M.2.2.2.1 = none) (h : Q (.inl none) σ) : fEv g d M pc L [] σ Q := by
  intro p e R s m args below meth c H locs cells slots ls C hl T hT X
  obtain ⟨hx, hb, hE, hown, hml, hret0, hlocks, hnm, -, hrm, hroom, hRP, hS⟩ := C
  have hr' : meth.sig.returnType = none := hret0.trans hr
  obtain ⟨fs, hret, hrun, hended, hW, hframe⟩ := X.leave (v := none) (fun _ => rfl) hlocks
  have hmeth' : T.vm.method? m = some meth := X.method'
  refine ⟨T.setFrames fs, ?_, hrun, hW, .inl none, σ, .returned none, locs, cells, slots, h, hended, rfl, ?_, hframe, hS.2.2, hroom⟩
  · show Steps p.tables e below (T.setTop (F0 m pc ls [])) _
    jvm_step X.here [X.here.top, hx, hb, hd, hmeth', hr']
    (try refine ⟨rfl, ?_⟩); (try refine ⟨rfl, ?_⟩)
    first | (intro acts; rw [hret _ acts rfl rfl rfl]) | rw [hret _ _ rfl rfl rfl]
    exact Steps.refl _
  · show fRP g σ T.heap
    rw [hT]
    exact hRP
/-! an exception over the frame -/
def fTh (g : fGP) (d : Nat) (M : fMT) (pc : Nat) (L : List (Option Value)) (E : String) (σ : fAH) (Q : fRes → fAH → Prop) : Prop :=
  ∀ (p : Program) (e : Env) (R : Room) (s : State) (m : MethodId) (args : Array Value) (below : List Frame) (meth : Method) (c : Code) (H : Heap) (locs : List Loc) (cells slots : Nat) (ls : Array Slot) (rest : List Value) (q : Addr) (ce : Cell),
    fCX g d M σ p R s m meth c H locs cells slots → flr g M.2.2.1 ls L → H[q]? = some ce → ce.vm = .none → s.vm.findClass E = some ce.cls → vx_W p (gl g) e R s m args below meth c H locs cells slots (fEQ g s R below Q) (F0 m pc ls rest) q
theorem t_out {E : String} (ht : M.2.2.2.2 = []) (h : Q (.inr E) σ) : fTh g d M pc L E σ Q := by
  intro p e R s m args below meth c H locs cells slots ls rest q ce C hl h1 h2 h3 T hT X
  obtain ⟨hx, hb, hE, hown, hml, hret0, hlocks, hnm, htab, hrm, hroom, hRP, hS⟩ := C
  have hout : ∀ x ∈ c.exceptionTable.toList, covers x (F0 m pc ls rest).pc = false := by
    rw [htab, ht]
    intro x hx
    cases hx
  obtain ⟨hwalk, hrun, hend, hW, hsame⟩ := X.leaveThrown q (g := F0 m pc ls rest) rfl rfl rfl hout hlocks
  exact ⟨_, hwalk, hrun, hW, .inr E, σ, .threw q, locs, cells, slots, h, hend, ⟨q, ce, rfl, by rw [← hT] at h1; exact h1, h2, h3⟩, by rw [← hT] at hRP; exact hRP, hsame, hS.2.2, hroom⟩
/-- caught by the first row that covers the place; the handler stores the reference, which nobody reads, and goes on -/
theorem t_catch {E nm : String} {k : Nat} {len : Nat} (pre : List (Nat × Nat × Nat × Nat)) (x : Nat × Nat × Nat × Nat) (suf : List (Nat × Nat × Nat × Nat)) (ht : M.2.2.2.2 = pre ++ x :: suf)
    (hp : ∀ z ∈ pre, ∃ nm : String, z.2.2.2 ≠ 0 ∧ Cond.classLink M.1.cls z.2.2.2 nm ∈ lw_tbl ∧ (E, nm) ∈ fnc) (hx : x.1 ≤ pc ∧ pc < x.2.1) (h0 : x.2.2.2 ≠ 0) (hw : Cond.classLink M.1.cls x.2.2.2 E ∈ lw_tbl) (hc : Cond.castable E E ∈ lw_tbl) (hn : k < M.2.2.1) (hd : (∃ kf : Fin 4, (kf : Nat) = k ∧ decode M.2.1 x.2.2.1 = .ok (.astore_n kf, 1) ∧ len = 1) ∨ (decode M.2.1 x.2.2.1 = .ok (.astore k, 2) ∧ len = 2)) (hk : fclr L k = L)
    (h : fEv g d M (x.2.2.1 + len) (L.set k none) [] σ Q) : fTh g d M pc L E σ Q := by
  intro p e R s m args below meth c H locs cells slots ls rest q ce C hl h1 h2 h3
  obtain ⟨hx1, hb, hE, hown, hml, hret0, hlocks, hnm, htab, hrm, hroom, hRP, hS⟩ := id C
  have hcov : covers (⟨x.1, x.2.1, x.2.2.1, x.2.2.2⟩ : ExceptionTableEntry) pc = true := by
    unfold covers
    simp [hx.1, hx.2]
  refine vx_catch (own := M.1.cls) (name := E) (E := E) hown (tableOf pre) (⟨x.1, x.2.1, x.2.2.1, x.2.2.2⟩ : ExceptionTableEntry) (tableOf suf) (by rw [htab, ht]; simp [tableOf]) (fun z hz => ?_) hcov h0 (hE.1 _ hw rfl args) (va_Nw.use rfl (hE.2.1 _ hc rfl)) h1 h2 h3 ?_
  · obtain ⟨y, hy, rfl⟩ := List.mem_map.mp hz
    obtain ⟨nm, hn0, hl1, hnc⟩ := hp y hy
    exact Or.inr ⟨hn0, nm, hE.1 _ hl1 rfl args, hE.2.2.2.2.1.1 _ hnc⟩
  · have fin : ∀ ls' : Array Slot, lv_has ls' M.2.2.1 ((k, Value.ref q) :: (flv g 0 L).filter (fun q => !(q.1 == k) && !(q.1 + 1 == k && q.2.category == 2))) → flr g M.2.2.1 ls' (L.set k none) := by
      intro ls' hl'
      refine ⟨hl'.1, hl'.2.1, fun z hz => hl'.2.2 z ?_⟩
      obtain ⟨j, w, hj, rfl⟩ := (flv_mem g _ 0 z).mp hz
      rw [Nat.zero_add]
      by_cases e1 : j = k
      · subst e1
        rw [List.getElem?_set] at hj
        simp at hj
      · rw [List.getElem?_set_ne (fun x => e1 x.symm)] at hj
        rw [← hk] at hj
        obtain ⟨g1, g2⟩ := fclr_get hj
        refine List.mem_cons_of_mem _ (List.mem_filter.mpr ⟨(flv_mem g L 0 _).mpr ⟨j, w, g1, by rw [Nat.zero_add]⟩, ?_⟩)
        simp only [fvm_cat]
        by_cases e2 : j + 1 = k
        · have : ¬ w.category = 2 := fun x => g2 ⟨e2, x⟩
          simp [e1, this]
        · simp [e1, e2]
    rcases hd with ⟨kf, hkf, hd, rfl⟩ | ⟨hd, rfl⟩
    · exact lv_astore_n (rest := []) hx1 hb hd hkf hl hn rfl (fun ls hl => h p e R s m args below meth c H locs cells slots ls C (fin ls hl))
    · exact lv_astore (rest := []) hx1 hb hd hl hn rfl (fun ls hl => h p e R s m args below meth c H locs cells slots ls C (fin ls hl))
/-! calls -/
def fflat : List Value → List (Option Value)
  | [] => []
  | v :: t => if v.category = 2 then some v :: none :: fflat t else some v :: fflat t
def fent (vs : List Value) (n : Nat) : List (Option Value) := fflat vs ++ List.replicate (n - (fflat vs).length) none
theorem flv_rep (g : fGP) (k : Nat) : ∀ i, flv g i (List.replicate k none) = [] := by
  induction k with
  | zero => intro i; rfl
  | succ k ih => intro i; rw [List.replicate_succ, flv, ih]
theorem flv_ent (g : fGP) (vs : List Value) (k : Nat) : ∀ i, flv g i (fflat vs ++ List.replicate k none) = lv_args i (vs.map (fvm g)) := by
  induction vs with
  | nil => intro i; exact flv_rep g k i
  | cons v t ih =>
    intro i
    unfold fflat
    rw [List.map_cons, lv_args, fvm_cat]
    by_cases h : v.category = 2
    · rw [if_pos h, if_pos h, List.cons_append, List.cons_append, flv, flv, ih]
    · rw [if_neg h, if_neg h, List.cons_append, flv, ih]
theorem fflat_len (g : fGP) (vs : List Value) : (lg_sl (vs.map (fvm g))).length = (fflat vs).length := by
  induction vs with
  | nil => rfl
  | cons v t ih =>
    unfold lg_sl at *
    unfold fflat
    rw [List.map_cons, List.flatMap_cons, List.length_append, ih, fvm_cat]
    by_cases h : v.category = 2
    · rw [if_pos h, if_pos h]
      simp
      omega
    · rw [if_neg h, if_neg h]
      simp
      omega
/-- the word of a method's code -/
def fcw (M : fMT) : Cond := match M.2.2.2.2 with
  | [] => .code M.1 M.2.1 M.2.2.1 M.2.2.2.1
  | _ => .codeWith M.1 M.2.1 M.2.2.1 M.2.2.2.1 M.2.2.2.2
theorem fcw_spec {s : State} {args : Array Value} (M : fMT) (h : (fcw M).before args s = true) : ∃ (mk : MethodId) (meth : Method) (c : Code), s.methodNamed? M.1 = some mk ∧ s.vm.method? mk = some meth ∧ meth.code = some c ∧ c.code = M.2.1 ∧ c.maxLocals = M.2.2.1 ∧ meth.sig.returnType = M.2.2.2.1 ∧ meth.locks = false ∧ c.exceptionTable.toList = tableOf M.2.2.2.2 ∧ parseMethodDescriptor M.1.desc = some meth.sig := by
  unfold fcw at h
  split at h
  · next he =>
    obtain ⟨mk, hn⟩ := Cond.code_named h
    obtain ⟨meth, c, h1, h2, h3, h4, h5, h6, h7, h8⟩ := Cond.code_spec hn h
    refine ⟨mk, meth, c, hn, h1, h2, h3, h4, h5, h6, ?_, h8⟩
    rw [he]
    have : c.exceptionTable = #[] := Array.isEmpty_iff.mp h7
    rw [this]
    rfl
  · obtain ⟨mk, meth, c, hn, h1, h2, h3, h4, h5, h6, h7, h8⟩ := Cond.codeWith_spec h
    exact ⟨mk, meth, c, hn, h1, h2, h3, h4, h6, h7, by rw [← h5, table_eq], h8⟩
theorem fcw_good (M : fMT) : goodWord (fcw M) = true := by
  unfold fcw
  split <;> rfl
/-- what follows a call in its frame -/
def fK (g : fGP) (d : Nat) (M : fMT) (pc : Nat) (L : List (Option Value)) (st : List Value) (Q : fRes → fAH → Prop) : fRes → fAH → Prop := fun r σ => match r with
  | .inl v => fEv g d M (pc + 3) L (v.toList ++ st) σ Q
  | .inr E => fTh g d M pc L E σ Q
theorem fcall {M' : fMT} {vs : List Value} {p : Program} {e : Env} {R : Room} {s : State} {m : MethodId} {args : Array Value} {below : List Frame} {meth : Method} {c : Code} {T : State} {locs : List Loc} {cells slots : Nat} {ls : Array Slot} {ig : Instr} {mk : MethodId}
    (X : Stand p (gl g) e R s m args below meth c T locs cells slots) (C : fCX g (d + 1) M σ p R s m meth c T.heap locs cells slots) (hl : flr g M.2.2.1 ls L) (hdg : decode M.2.1 pc = .ok (ig, 3)) (hw : fcw M' ∈ lw_tbl) (hn : s.methodNamed? M'.1 = some mk) (hpl : plainFor M'.1 = true) (hm : M'.2.2.1 ≤ 40) (hst : (st.map fun v => v.category).sum ≤ 8) (hlen : (fflat vs).length ≤ M'.2.2.1)
    (h : fEv g d M' 0 (fent vs M'.2.2.1) [] σ (fK g (d + 1) M pc L st Q)) : ∃ t, (∀ acts, Steps p.tables e below (doInvoke e (T.setTop (F0 m pc ls (st.map (fvm g)))) acts mk (vs.map (fvm g)).toArray).1 t) ∧ fEQ g s R below Q t := by
  obtain ⟨hx, hb, hE, hown, hml, hret0, hlocks, hnm, htab, hrm, hroom, hRP, hS⟩ := id C
  have hcat : ((st.map (fvm g)).map fun v => v.category).sum = (st.map fun v => v.category).sum := by
    rw [List.map_map]
    congr 1
    exact List.map_congr_left (fun v _ => fvm_cat g v)
  obtain ⟨mk', methk, ck, hn', k1, k2, k3, k4, k5, k6, k7, k8⟩ := fcw_spec M' (hE.1 _ hw (fcw_good M') args)
  cases hn.symm.trans hn'
  have hmk : T.vm.method? mk = some methk := by rw [X.warmed.alike.method?]; exact k1
  have hnT : T.methodNamed? M'.1 = some mk := X.named hn
  have hpk : T.plainMethod mk := State.plainMethod.of_named hpl hnT hmk
  have h8 := lv_room (m := m) (pc := pc) (ls := ls) (rest := st.map (fvm g)) (st := st.map (fvm g)) (by rw [hcat]; exact hst)
  have hsize : (F0 m pc ls (st.map (fvm g))).locals.size = c.maxLocals := by rw [hml]; exact hl.1
  obtain ⟨Y, hin⟩ := X.into (g := F0 m pc ls (st.map (fvm g))) rfl hsize (ig := ig) (len := 3) (by rw [hb]; exact hdg) (vs.map (fvm g)).toArray (R' := { frames := R.frames - 1, cells := R.cells - cells, slots := R.slots - slots, locals := R.locals - 64 }) hmk k2 k6 hpk
    (by have := hrm.1; show R.frames - 1 + 1 ≤ R.frames; omega) (by have := hrm.2; show 2 * (F0 m pc ls (st.map (fvm g))).monitorRoom + ((st.map (fvm g)).map fun v => v.category).sum + (ck.maxLocals + 11) + (R.locals - 64) ≤ R.locals; rw [k4]; omega)
    (by have := hroom.1; show cells + (R.cells - cells) ≤ R.cells; omega) (by have := hroom.2; show slots + (R.slots - slots) ≤ R.slots; omega)
  have hent : entryFrame mk (vs.map (fvm g)).toArray ck.maxLocals = F0 mk 0 ((lg_sl (vs.map (fvm g)) ++ List.replicate (ck.maxLocals - (lg_sl (vs.map (fvm g))).length) Slot.unset).toArray) [] := lg_entry_eq mk (vs.map (fvm g)) ck.maxLocals
  have hent2 : ((T.setTop (F0 m pc ls (st.map (fvm g)))).pushFrame (.java (entryFrame mk (vs.map (fvm g)).toArray ck.maxLocals))).setTop (entryFrame mk (vs.map (fvm g)).toArray ck.maxLocals) = ((T.setTop (F0 m pc ls (st.map (fvm g)))).pushFrame (.java (entryFrame mk (vs.map (fvm g)).toArray ck.maxLocals))).setTop (F0 mk 0 ((lg_sl (vs.map (fvm g)) ++ List.replicate (ck.maxLocals - (lg_sl (vs.map (fvm g))).length) Slot.unset).toArray) []) := congrArg _ hent
  have hlv : flr g M'.2.2.1 ((lg_sl (vs.map (fvm g)) ++ List.replicate (ck.maxLocals - (lg_sl (vs.map (fvm g))).length) Slot.unset).toArray) (fent vs M'.2.2.1) := by
    unfold flr fent
    rw [flv_ent, k4]
    exact lv_entry (vs.map (fvm g)) (by rw [fflat_len]; exact hlen)
  have hEk : fEN g (T.calling (F0 m pc ls (st.map (fvm g))) mk (vs.map (fvm g)).toArray) := by
    refine hE.go (U := T.calling (F0 m pc ls (st.map (fvm g))) mk (vs.map (fvm g)).toArray) X.warmed (fun q hq => ?_) hS.1
    have hz : gz g ≤ s.heap.size := hE.2.2.2.2.2.2.2.2.2.2.1
    exact hS.2.1 q (by omega) (fun (x : gz g ≤ q) => by omega)
  have hCk : fCX g d M' σ p { frames := R.frames - 1, cells := R.cells - cells, slots := R.slots - slots, locals := R.locals - 64 } (T.calling (F0 m pc ls (st.map (fvm g))) mk (vs.map (fvm g)).toArray) mk methk ck T.heap [] 0 0 := by
    refine ⟨hx, k3, hEk, findClass_of_methodNamed hnT, k4, k5, k6, (name_of_methodNamed hnT hmk).1, k7, ⟨?_, ?_⟩, ⟨?_, ?_⟩, hRP, va_S.rf⟩
    · have := hrm.1; show d + 10 ≤ R.frames - 1; omega
    · have := hrm.2; show 64 * d + 300 ≤ R.locals - 64; omega
    · have := hroom.1; show 0 + (601024 - (fnx σ + fgb σ)) ≤ R.cells - cells; omega
    · have := hroom.2; show 0 + (7293034 - fsu σ) ≤ R.slots - slots; omega
  obtain ⟨t, hst1, hrun, hW, r, σ', o, L', k, n, hQ, hend, hor, hRP', hsame, hL', hroom'⟩ := h p e _ _ mk (vs.map (fvm g)).toArray (.java (F0 m pc ls (st.map (fvm g))) :: below) methk ck T.heap [] 0 0 _ hCk hlv ((T.setTop (F0 m pc ls (st.map (fvm g)))).pushFrame (.java (entryFrame mk (vs.map (fvm g)).toArray ck.maxLocals))) rfl Y
  have hfr := vx_frame hsame
  have hroom2 : cells + k + (601024 - (fnx σ' + fgb σ')) ≤ R.cells ∧ slots + n + (7293034 - fsu σ') ≤ R.slots := by
    have a1 : k + (601024 - (fnx σ' + fgb σ')) ≤ R.cells - cells := hroom'.1
    have a2 : n + (7293034 - fsu σ') ≤ R.slots - slots := hroom'.2
    have := hroom.1
    have := hroom.2
    exact ⟨by omega, by omega⟩
  have hSt : ∀ H' : Heap, H' = t.heap → va_S (fAA g) s.heap H' (locs ++ L') := by
    intro H' hH
    subst hH
    refine ⟨Nat.le_trans hS.1 hfr.1, fun q hq hA => ?_, fun z hz => ?_⟩
    · have hq2 : q < T.heap.size := Nat.lt_of_lt_of_le hq hS.1
      have e1 : t.heap[q]? = T.heap[q]? := hfr.2 q hq2 (fun z hz e => hA (by rw [← e]; exact hL' z hz))
      rw [e1]
      exact hS.2.1 q hq hA
    · rcases List.mem_append.mp hz with h | h
      · exact hS.2.2 z h
      · exact hL' z h
  cases r with
  | inl v =>
    have ho : o = .returned (v.map (fvm g)) := hor
    subst ho
    obtain ⟨T', X', hW', -, ht⟩ := X.outOf (g := F0 m pc ls (st.map (fvm g))) rfl (ig := ig) (len := 3) (by rw [hb]; exact hdg) hend hW hsame
    have hh : T'.heap = t.heap := by rw [ht]; rfl
    obtain ⟨t2, s1, s2⟩ := (show fEv g (d + 1) M (pc + 3) L (v.toList ++ st) σ' Q from hQ) p e R s m args below meth c T'.heap (locs ++ L') (cells + k) (slots + n) ls (C.to hroom2 (by rw [hh]; exact hRP') (hSt _ hh)) hl T' rfl X'
    refine ⟨t2, fun acts => ?_, s2⟩
    rw [hin acts, hent2]
    refine (Steps.weaken (mid := [.java (F0 m pc ls (st.map (fvm g)))]) hst1).trans ?_
    rw [ht]
    have hstk : (v.toList ++ st).map (fvm g) = (v.map (fvm g)).toList ++ st.map (fvm g) := by cases v <;> rfl
    rw [hstk] at s1
    exact s1
  | inr E =>
    obtain ⟨q, ce, ho, c1, c2, c3⟩ := hor
    subst ho
    obtain ⟨T', X', hW', -, ht⟩ := X.outOfThrown (g := F0 m pc ls (st.map (fvm g))) rfl hend hW hsame
    have hh : T'.heap = t.heap := by rw [ht]; exact (Stand.throwing_heap _ _ _).symm
    have hcl : s.vm.findClass E = some ce.cls := by
      have c4 : T.vm.findClass E = some ce.cls := c3
      rw [X.warmed.alike.findClass] at c4
      exact c4
    obtain ⟨t2, s1, s2⟩ := (show fTh g (d + 1) M pc L E σ' Q from hQ) p e R s m args below meth c T'.heap (locs ++ L') (cells + k) (slots + n) ls (st.map (fvm g)) q ce (C.to hroom2 (by rw [hh]; exact hRP') (hSt _ hh)) hl (by rw [hh]; exact c1) c2 hcl T' rfl X'
    refine ⟨t2, fun acts => ?_, s2⟩
    rw [hin acts, hent2]
    refine (Steps.weaken (mid := [.java (F0 m pc ls (st.map (fvm g)))]) hst1).trans ?_
    rw [ht]
    exact s1
end FRT
