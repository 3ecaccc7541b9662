/-! ===== rules of fEv: the call instructions, throws, new cells ===== -/
section FIV
variable {g : fGP} {d : Nat} {M : fMT} {pc : Nat} {L L1 : List (Option Value)} {st : List Value} {σ : fAH} {Q : fRes → fAH → Prop}
/-- what every callee's own words say -/
def fCC (n : Nat) (M' : fMT) : Prop := (M'.1.cls ≠ "java/lang/invoke/MethodHandle" ∧ M'.1.cls ≠ "java/lang/invoke/VarHandle") ∧ (parseMethodDescriptor M'.1.desc).map (fun d => d.parameters.length) = some n ∧ plainFor M'.1 = true ∧ M'.2.2.1 ≤ 40 ∧ fcw M' ∈ lw_tbl
def fLK (own : String) (idx : Nat) (x : MethodName) : Prop := Cond.methodLink own idx x ∈ lw_tbl ∨ ∃ host : String, Cond.methodLinkNest own idx x host ∈ lw_tbl
theorem fhlen {n : Nat} {M' : fMT} (h : (parseMethodDescriptor M'.1.desc).map (fun d => d.parameters.length) = some n) {sig : MethodDescriptor} (hs : parseMethodDescriptor M'.1.desc = some sig) : n = sig.parameters.length := by
  rw [hs] at h
  exact (Option.some.inj h).symm
theorem fmapr (g : fGP) (vs : List Value) (k : Nat) (st : List Value) : (vs.reverse ++ .ref k :: st).map (fvm g) = (vs.map (fvm g)).reverse ++ .ref (fad g k) :: st.map (fvm g) := by
  rw [List.map_append, List.map_reverse]
  rfl
theorem e_callV {idx n k c9 : Nat} {M' : fMT} (vs : List Value) (hd : decode M.2.1 pc = .ok (.invokevirtual idx, 3)) (hcc : fCC n M') (hlk : fLK M.1.cls idx M'.1) (hi : Cond.instanceMethod M'.1 ∈ lw_tbl) (hsel : Cond.selects (fKC c9) M'.1 M'.1 ∈ lw_tbl) (hc9 : c9 < 10) (hs : gsh g k = .inl c9) (hk : k < fnx σ) (hn : vs.length = n) (hst : (st.map fun v => v.category).sum ≤ 8) (hlen : (fflat (.ref k :: vs)).length ≤ M'.2.2.1)
    (h : fEv g d M' 0 (fent (.ref k :: vs) M'.2.2.1) [] σ (fK g (d + 1) M pc L st Q)) : fEv g (d + 1) M pc L (vs.reverse ++ .ref k :: st) σ Q := by
  intro p e R s m args below meth c H locs cells slots ls C hl
  rw [fmapr, C.k hk]
  intro T hT X
  subst hT
  obtain ⟨hx, hb, hE, hown, hml, hret0, hlocks, hnm, htab, hrm, hroom, hRP, hS⟩ := id C
  obtain ⟨hy, hpar, hpl, hm, hw⟩ := hcc
  obtain ⟨mk, methM, hnamed, hmethM, hstM, habM⟩ := Cond.instanceMethod_spec (hE.1 _ hi rfl args)
  obtain ⟨mk', meth', c', hn', k1, -, -, -, -, -, -, hsigM⟩ := fcw_spec M' (hE.1 _ hw (fcw_good M') args)
  cases hnamed.symm.trans hn'
  cases hmethM.symm.trans k1
  have hwk : (fws g σ)[k]? = some (gz g + k, .inr (c9, (List.range (fKN c9)).map (ffv g σ c9 k))) := by
    rw [fws_at g σ hk]
    unfold fce
    rw [hs]
  obtain ⟨cellB, hcB, hoB, hclB⟩ := va_recv hE.2.2.1 hRP.1 (fcl_at hc9) hwk
  obtain ⟨c2, r2, m2, q1, q2, q3, q4, kP, hkP, hkPi⟩ := Cond.selects_spec (hE.1 _ hsel rfl args)
  cases hclB.symm.trans q1
  cases (State.methodFound?_of_named hnamed hy).symm.trans q2
  cases hnamed.symm.trans q3
  have hselP : selectMethod e.platform s.vm cellB.cls mk = .method mk := by rw [Launch.admits_selectMethod X.admits]; exact q4
  have hlen9 : (vs.map (fvm g)).length = methM.sig.parameters.length := by rw [List.length_map, hn]; exact fhlen hpar hsigM
  have hob : ∀ z, cellB.vm ≠ .statics z := fun z h => by rw [h] at hoB; cases hoB
  have hdg : decode c.code pc = .ok (.invokevirtual idx, 3) := by rw [hb]; exact hd
  have key : ∃ vm₁, Stand p (gl g) e R s m args below meth c (T.setVm vm₁) locs cells slots ∧ ∀ target, (∀ acts, Steps p.tables e below (doInvoke e ((T.setVm vm₁).setTop (F0 m pc ls (st.map (fvm g)))) acts mk (Value.ref (gz g + k) :: vs.map (fvm g)).toArray).1 target) → Steps p.tables e below (T.setTop (F0 m pc ls ((vs.map (fvm g)).reverse ++ .ref (gz g + k) :: st.map (fvm g)))) target := by
    rcases hlk with hlk | ⟨host, hlk⟩
    · obtain ⟨vm₁, X₁, hs1⟩ := X.invokevirtual hx hown (hE.1 _ hlk rfl args) hnamed hmethM hstM hkP hkPi hy (a := gz g + k) (cell := cellB) hcB hob hselP hmethM habM hkP hkPi (g := F0 m pc ls ((vs.map (fvm g)).reverse ++ .ref (gz g + k) :: st.map (fvm g))) rfl (argsL := vs.map (fvm g)) (rest := st.map (fvm g)) hlen9 rfl hdg
      exact ⟨vm₁, X₁, hs1⟩
    · obtain ⟨vm₁, X₁, hs1⟩ := X.invokevirtualNest hx hown (va_Nw.use rfl (hE.2.1 _ hlk rfl)) hnamed hmethM hstM hkP hkPi hy (a := gz g + k) (cell := cellB) hcB hob hselP hmethM habM hkP hkPi (g := F0 m pc ls ((vs.map (fvm g)).reverse ++ .ref (gz g + k) :: st.map (fvm g))) rfl (argsL := vs.map (fvm g)) (rest := st.map (fvm g)) hlen9 rfl hdg
      exact ⟨vm₁, X₁, hs1⟩
  obtain ⟨vm₁, X₁, hs1⟩ := key
  obtain ⟨t, s1, s2⟩ := fcall (vs := .ref k :: vs) (T := T.setVm vm₁) X₁ C hl hd hw hnamed hpl hm hst hlen h
  refine ⟨t, hs1 t (fun acts => ?_), s2⟩
  have e1 : (List.map (fvm g) (.ref k :: vs)) = Value.ref (gz g + k) :: vs.map (fvm g) := by
    rw [List.map_cons]
    show Value.ref (fad g k) :: _ = _
    rw [C.k hk]
  have := s1 acts
  rw [e1] at this
  exact this
theorem e_callS {idx n : Nat} {M' : fMT} (vs : List Value) (hd : decode M.2.1 pc = .ok (.invokestatic idx, 3)) (hcc : fCC n M') (hlk : fLK M.1.cls idx M'.1) (hi : Cond.static M'.1 ∈ lw_tbl) (hini : Cond.initialized M'.1.cls ∈ lw_tbl) (hn : vs.length = n) (hst : (st.map fun v => v.category).sum ≤ 8) (hlen : (fflat vs).length ≤ M'.2.2.1)
    (h : fEv g d M' 0 (fent vs M'.2.2.1) [] σ (fK g (d + 1) M pc L st Q)) : fEv g (d + 1) M pc L (vs.reverse ++ st) σ Q := by
  intro p e R s m args below meth c H locs cells slots ls C hl
  rw [List.map_append, List.map_reverse]
  intro T hT X
  subst hT
  obtain ⟨hx, hb, hE, hown, hml, hret0, hlocks, hnm, htab, hrm, hroom, hRP, hS⟩ := id C
  obtain ⟨hy, hpar, hpl, hm, hw⟩ := hcc
  obtain ⟨mk, methM, c', hnamed, hmethM, -, -, -, -, -, -, hsigM⟩ := fcw_spec M' (hE.1 _ hw (fcw_good M') args)
  have hstatic : methM.isStatic = true := Cond.static_spec hnamed hmethM (hE.1 _ hi rfl args)
  obtain ⟨kP, hkP, -⟩ := className_of_methodNamed hnamed
  have hinitP : kP.init = .initialized := Cond.initialized_spec (findClass_of_methodNamed hnamed) hkP (hE.1 _ hini rfl args)
  have hlen9 : (vs.map (fvm g)).length = methM.sig.parameters.length := by rw [List.length_map, hn]; exact fhlen hpar hsigM
  have hdg : decode c.code pc = .ok (.invokestatic idx, 3) := by rw [hb]; exact hd
  have key : ∃ vm₁, Stand p (gl g) e R s m args below meth c (T.setVm vm₁) locs cells slots ∧ ∀ target, (∀ acts, Steps p.tables e below (doInvoke e ((T.setVm vm₁).setTop (F0 m pc ls (st.map (fvm g)))) acts mk (vs.map (fvm g)).toArray).1 target) → Steps p.tables e below (T.setTop (F0 m pc ls ((vs.map (fvm g)).reverse ++ st.map (fvm g)))) target := by
    rcases hlk with hlk | ⟨host, hlk⟩
    · obtain ⟨vm₁, X₁, hs1⟩ := X.invokestatic hx hown (hE.1 _ hlk rfl args) hnamed hmethM hstatic hkP hinitP hy (g := F0 m pc ls ((vs.map (fvm g)).reverse ++ st.map (fvm g))) rfl (argsL := vs.map (fvm g)) (rest := st.map (fvm g)) hlen9 rfl hdg
      exact ⟨vm₁, X₁, hs1⟩
    · obtain ⟨vm₁, X₁, hs1⟩ := X.invokestaticNest hx hown (va_Nw.use rfl (hE.2.1 _ hlk rfl)) hnamed hmethM hstatic hkP hinitP hy (g := F0 m pc ls ((vs.map (fvm g)).reverse ++ st.map (fvm g))) rfl (argsL := vs.map (fvm g)) (rest := st.map (fvm g)) hlen9 rfl hdg
      exact ⟨vm₁, X₁, hs1⟩
  obtain ⟨vm₁, X₁, hs1⟩ := key
  obtain ⟨t, s1, s2⟩ := fcall (vs := vs) (T := T.setVm vm₁) X₁ C hl hd hw hnamed hpl hm hst hlen h
  exact ⟨t, hs1 t s1, s2⟩
theorem e_callI {idx n k : Nat} {M' : fMT} (vs : List Value) (hd : decode M.2.1 pc = .ok (.invokespecial idx, 3)) (hcc : fCC n M') (hh : M'.2.2.2 = (none, [])) (hlk : fLK M.1.cls idx M'.1) (hi : Cond.instanceMethod M'.1 ∈ lw_tbl) (hnm9 : M'.1.name = "<init>") (hn : vs.length = n) (hst : (st.map fun v => v.category).sum ≤ 8) (hlen : (fflat (.ref k :: vs)).length ≤ M'.2.2.1)
    (h : fEv g d M' 0 (fent (.ref k :: vs) M'.2.2.1) [] σ (fK g (d + 1) M pc L st Q)) : fEv g (d + 1) M pc L (vs.reverse ++ .ref k :: st) σ Q := by
  intro p e R s m args below meth c H locs cells slots ls C hl
  rw [fmapr]
  intro T hT X
  subst hT
  obtain ⟨hx, hb, hE, hown, hml, hret0, hlocks, hnm, htab, hrm, hroom, hRP, hS⟩ := id C
  obtain ⟨hy, hpar, hpl, hm, hw⟩ := hcc
  have hcode : (Cond.code M'.1 M'.2.1 M'.2.2.1 none).before args s = true := by
    have := hE.1 _ hw (fcw_good M') args
    unfold fcw at this
    rw [show M'.2.2.2.2 = [] by rw [hh], show M'.2.2.2.1 = none by rw [hh]] at this
    exact this
  have hlen9 : ∀ sig, parseMethodDescriptor M'.1.desc = some sig → (vs.map (fvm g)).length = sig.parameters.length := fun sig hs => by rw [List.length_map, hn]; exact fhlen hpar hs
  have hpl9 : e.platform.magicAccessors = ({} : Platform).magicAccessors := by rw [X.admits.platform]
  have hdg : decode c.code pc = .ok (.invokespecial idx, 3) := by rw [hb]; exact hd
  have key : ∃ mk vm₁, s.methodNamed? M'.1 = some mk ∧ s.WarmedH vm₁ ∧ ∀ target, (∀ acts, Steps p.tables e below (doInvoke e ((T.setVm vm₁).setTop (F0 m pc ls (st.map (fvm g)))) acts mk (Value.ref (fad g k) :: vs.map (fvm g)).toArray).1 target) → Steps p.tables e below (T.setTop (F0 m pc ls ((vs.map (fvm g)).reverse ++ .ref (fad g k) :: st.map (fvm g)))) target := by
    rcases hlk with hlk | ⟨host, hlk⟩
    · obtain ⟨mk, methM, cM, kP, vm₁, hnamed, -, -, -, -, -, -, -, hW₁, hs1⟩ := Steps.initColdArgs (e := e) X.here hx X.warmed hpl9 hown hnm9 hy (hE.1 _ hlk rfl args) (hE.1 _ hi rfl args) hcode (f := F0 m pc ls ((vs.map (fvm g)).reverse ++ .ref (fad g k) :: st.map (fvm g))) rfl hlen9 rfl hdg
      exact ⟨mk, vm₁, hnamed, hW₁, hs1⟩
    · obtain ⟨mk, methM, cM, kP, vm₁, hnamed, -, -, -, -, -, -, -, hW₁, hs1⟩ := Steps.initColdArgsNest (e := e) X.here hx X.warmed hpl9 hown hnm9 hy (va_Nw.use rfl (hE.2.1 _ hlk rfl)) (hE.1 _ hi rfl args) hcode (f := F0 m pc ls ((vs.map (fvm g)).reverse ++ .ref (fad g k) :: st.map (fvm g))) rfl hlen9 rfl hdg
      exact ⟨mk, vm₁, hnamed, hW₁, hs1⟩
  obtain ⟨mk, vm₁, hnamed, hW₁, hs1⟩ := key
  have X₁ := X.noted hW₁
  obtain ⟨t, s1, s2⟩ := fcall (vs := .ref k :: vs) (T := T.setVm vm₁) X₁ C hl hd hw hnamed hpl hm hst hlen h
  exact ⟨t, hs1 t s1, s2⟩
/-- a call whose named method x is abstract -/
theorem e_callA {idx n k c9 : Nat} {M' : fMT} {x : MethodName} (vs : List Value) (hd : decode M.2.1 pc = .ok (.invokevirtual idx, 3)) (hcc : fCC n M') (hxd : (parseMethodDescriptor x.desc).map (fun d => d.parameters.length) = some n) (hx9 : x.cls ≠ "java/lang/invoke/MethodHandle" ∧ x.cls ≠ "java/lang/invoke/VarHandle") (hlk : Cond.methodLink M.1.cls idx x ∈ lw_tbl) (hsm : Cond.sameMethod x.cls x.cls x.name x.desc ∈ lw_tbl) (hdc : Cond.declares x ∈ lw_tbl) (hi : Cond.instanceMethod M'.1 ∈ lw_tbl) (hsel : Cond.selects (fKC c9) x M'.1 ∈ lw_tbl) (hc9 : c9 < 10) (hs : gsh g k = .inl c9) (hk : k < fnx σ) (hn : vs.length = n) (hst : (st.map fun v => v.category).sum ≤ 8) (hlen : (fflat (.ref k :: vs)).length ≤ M'.2.2.1)
    (h : fEv g d M' 0 (fent (.ref k :: vs) M'.2.2.1) [] σ (fK g (d + 1) M pc L st Q)) : fEv g (d + 1) M pc L (vs.reverse ++ .ref k :: st) σ Q := by
  intro p e R s m args below meth c H locs cells slots ls C hl
  rw [fmapr, C.k hk]
  intro T hT X
  subst hT
  obtain ⟨hx, hb, hE, hown, hml, hret0, hlocks, hnm, htab, hrm, hroom, hRP, hS⟩ := id C
  obtain ⟨hy, hpar, hpl, hm, hw⟩ := hcc
  obtain ⟨r0, r, hnr, hrm9, hstR, hsigR⟩ := va_Decl.abs (hE.2.1 _ hdc rfl)
  obtain ⟨cn, ck, r1, hcn, hck, hni, hf, hn1⟩ := Cond.sameMethod_found (hE.1 _ hsm rfl args)
  cases hnr.symm.trans hn1
  obtain ⟨mk, methM, hnamed, hmethM, -, habM⟩ := Cond.instanceMethod_spec (hE.1 _ hi rfl args)
  have hwk : (fws g σ)[k]? = some (gz g + k, .inr (c9, (List.range (fKN c9)).map (ffv g σ c9 k))) := by
    rw [fws_at g σ hk]
    unfold fce
    rw [hs]
  obtain ⟨cellB, hcB, hoB, hclB⟩ := va_recv hE.2.2.1 hRP.1 (fcl_at hc9) hwk
  obtain ⟨c2, r2, m2, q1, q2, q3, q4, kP, hkP, hkPi⟩ := Cond.selects_spec (hE.1 _ hsel rfl args)
  cases hclB.symm.trans q1
  cases hf.symm.trans q2
  cases hnamed.symm.trans q3
  have hselP : selectMethod e.platform s.vm cellB.cls r0 = .method mk := by rw [Launch.admits_selectMethod X.admits]; exact q4
  have hlen9 : (vs.map (fvm g)).length = r.sig.parameters.length := by
    rw [List.length_map, hn]
    rw [hsigR] at hxd
    exact (Option.some.inj hxd).symm
  have hdg : decode c.code pc = .ok (.invokevirtual idx, 3) := by rw [hb]; exact hd
  obtain ⟨vm₁, X₁, hs1⟩ := X.invokevirtualUp hx hown (hE.1 _ hlk rfl args) (hE.1 _ hsm rfl args) hx9 hnr hrm9 hstR (a := gz g + k) (cell := cellB) hcB (fun z h => by rw [h] at hoB; cases hoB) hselP hmethM habM hkP hkPi (g := F0 m pc ls ((vs.map (fvm g)).reverse ++ .ref (gz g + k) :: st.map (fvm g))) rfl (argsL := vs.map (fvm g)) (rest := st.map (fvm g)) hlen9 rfl hdg
  obtain ⟨t, s1, s2⟩ := fcall (vs := .ref k :: vs) (T := T.setVm vm₁) X₁ C hl hd hw hnamed hpl hm hst hlen h
  refine ⟨t, hs1 t (fun acts => ?_), s2⟩
  have e1 : (List.map (fvm g) (.ref k :: vs)) = Value.ref (gz g + k) :: vs.map (fvm g) := by
    rw [List.map_cons]
    show Value.ref (fad g k) :: _ = _
    rw [C.k hk]
  have := s1 acts
  rw [e1] at this
  exact this
end FIV
