/-! ===== the whole state, told once; the class's cells and the reference's cells stand for it ===== -/
/-- S, T, seed, nights planned, the plan, how many records, the records (2 * said + came) -/
abbrev fIm : Type := (Nat → Nat) × (Nat → Int32) × Int32 × Nat × (Nat → Nat) × Nat × (Nat → Nat)
abbrev iS (i : fIm) : Nat → Nat := i.1
abbrev iT (i : fIm) : Nat → Int32 := i.2.1
abbrev iq (i : fIm) : Int32 := i.2.2.1
abbrev ipn (i : fIm) : Nat := i.2.2.2.1
abbrev iP (i : fIm) : Nat → Nat := i.2.2.2.2.1
abbrev irn (i : fIm) : Nat := i.2.2.2.2.2.1
abbrev iR (i : fIm) : Nat → Nat := i.2.2.2.2.2.2
/-- what is told, what stands, the tape, its length, the fault's place, the images -/
abbrev fXS : Type := fSD × fIm × (Nat → Nat) × Nat × Int32 × Nat × (Nat → fIm)
abbrev xD (x : fXS) : fSD := x.1
abbrev xI (x : fXS) : fIm := x.2.1
abbrev xB (x : fXS) : Nat → Nat := x.2.2.1
abbrev xt (x : fXS) : Nat := x.2.2.2.1
abbrev xp (x : fXS) : Int32 := x.2.2.2.2.1
abbrev xm (x : fXS) : Nat := x.2.2.2.2.2.1
abbrev xM (x : fXS) : Nat → fIm := x.2.2.2.2.2.2
def fOI (D : fSD) (i : fIm) : Prop := fWS D (iS i) ∧ fWC D (iS i) ∧ fWN (iS i) 0 0 ∧ ipn i ≤ 30 ∧ (∀ j, iP i j < 4096) ∧ irn i ≤ 60 ∧ ∀ j, iR i j < 4
def fOK (x : fXS) : Prop := fWD (xD x) ∧ fOI (xD x) (xI x) ∧ (∀ i, xB x i < 256) ∧ xt x ≤ 600 ∧ xm x ≤ 3 ∧ ∀ j, j < xm x → fOI (xD x) (xM x j)
/-- how many records are of kind c -/
def mcr (i : fIm) (c : Nat) : Nat := mct (fun j => decide (iR i j = c)) (irn i) 0
/-- a diary -/
def fDc (σ : fAH) (k : Nat) (i : fIm) : Prop := fI σ k 1 = nI (ipn i) ∧ (∀ j, j < ipn i → fI σ (k + 1) j = nI (iP i j)) ∧ ∀ c, c < 4 → fI σ (k + 2) c = nI (mcr i c)
def fFs (σ : fAH) (D : fSD) (S : Nat → Nat) : Prop := fI σ 0 14 = nI 0 ∨ (fI σ 0 14 = nI 1 ∧ S 155 < 30 ∧ fI σ 0 15 = nI (mft D S).2 ∧ fJ σ 0 16 = ob ((mft D S).1.map (4096 * ·)))
def fIc (σ : fAH) (x : fXS) : Prop := fGr σ 2 (xD x) ∧ fYf σ 15 (xD x) (iS (xI x)) (iT (xI x)) (iq (xI x)) ∧ fDc σ 29 (xI x) ∧ (fI σ 0 1 = nI (xt x) ∧ (∀ i, i < 600 → fI σ 1 i = sb (xB x i)) ∧ fI σ 0 2 = xp x ∧ fI σ 0 10 = nI (xm x)) ∧ (∀ j, j < xm x → fYf σ (59 + 10 * j) (xD x) (iS (xM x j)) (iT (xM x j)) (iq (xM x j)) ∧ fDc σ (66 + 10 * j) (xM x j)) ∧ fFs σ (xD x) (iS (xI x)) ∧ fWx2 σ
/-- an image of the reference -/
def fKp (σ : fAH) (o : Nat) (i : fIm) : Prop := (∀ q, q < 156 → fI σ o q = nI (iS i q) ∧ iS i q < 100000) ∧ fI σ o 156 = iq i ∧ fI σ o 157 = nI (ipn i) ∧ fI σ o 158 = nI (irn i) ∧ (∀ k, k < ipn i → fI σ o (159 + 2 * k) = nI (iP i k)) ∧ (∀ k, k < iS i 155 → fI σ o (160 + 2 * k) = iT i (100 + k)) ∧ (∀ r, r < irn i → fI σ o (219 + 2 * r) = nI (iR i r / 2) ∧ fI σ o (220 + 2 * r) = nI (iR i r % 2)) ∧ ∀ r, r < iS i 152 → ∀ c, c < 4 → fI σ o (339 + 4 * r + c) = iT i (r * 4 + c)
def fRc (σ : fAH) (i : fIm) : Prop := fI σ 89 22 = nI (ipn i) ∧ (∀ j, j < ipn i → fI σ 219 j = nI (iP i j)) ∧ fI σ 89 23 = nI (irn i) ∧ ∀ r, r < irn i → fI σ (222 + r) 0 = nI (iR i r / 2) ∧ fI σ (222 + r) 1 = nI (iR i r % 2)
def fIr (σ : fAH) (x : fXS) : Prop := fMr σ (xD x) (iS (xI x)) (iq (xI x)) ∧ fMt σ (iS (xI x)) (iT (xI x)) ∧ (fI σ 89 21 = nI 0 ∧ fI σ 89 31 = nI 0 ∧ fI σ 89 33 = nI 0 ∧ fI σ 89 1 = nI (xt x) ∧ fI σ 89 3 = xp x ∧ fI σ 89 24 = nI (xm x)) ∧ (∀ i, i < 600 → fI σ 90 i = nI (xB x i)) ∧ fRc σ (xI x) ∧ ∀ j, j < xm x → fKp σ (296 + j) (xM x j)
/-! frames -/
def fClA : Nat → Prop := fun a => a < 89
def fRfA : Nat → Prop := fun a => 89 ≤ a ∧ a < 300
/-- the reference's cells that nobody keeps -/
def fRsA : Nat → Prop := fun a => a < 90 ∨ a = 91 ∨ (94 ≤ a ∧ a < 100) ∨ (108 ≤ a ∧ a < 120) ∨ (134 ≤ a ∧ a < 140) ∨ (148 ≤ a ∧ a < 172) ∨ (199 ≤ a ∧ a < 219) ∨ 299 ≤ a
/-- the class's -/
def fCsA : Nat → Prop := fun a => a = 0 ∨ (8 ≤ a ∧ a < 15) ∨ (22 ≤ a ∧ a < 29) ∨ (34 ≤ a ∧ a < 59) ∨ 89 ≤ a
theorem fMr.smx {A : Nat → Prop} {σ σ1 : fAH} {D : fSD} {S : Nat → Nat} {sd : Int32} (h : fMr σ D S sd) (s : fSm A σ σ1) (hD : fWD D) (na : ∀ a, A a → fRsA a) : fMr σ1 D S sd := by
  obtain ⟨t0, t1, t2, t3, t4, t5, t6⟩ := id hD.1
  obtain ⟨h1, h2, h3, h4, h5, h6, h7⟩ := h
  have k : ∀ a, ¬ fRsA a → ∀ j, fI σ1 a j = fI σ a j := fun a ha j => s.i (fun q => ha (na a q)) j
  refine ⟨fun i hi => ?_, fun b hb c hc => ?_, fun b hb c hc => ?_, fun b hb c hc => ?_, fun b hb c hc => ?_, fun i hi => ⟨?_, (h6 i hi).2⟩, ?_⟩
  · rw [k _ (by unfold fRsA; omega)]; exact h1 i hi
  · rw [k _ (by unfold fRsA; omega)]; exact h2 b hb c hc
  · rw [k _ (by unfold fRsA; omega)]; exact h3 b hb c hc
  · rw [k _ (by unfold fRsA; omega)]; exact h4 b hb c hc
  · rw [k _ (by unfold fRsA; omega)]; exact h5 b hb c hc
  · rw [k _ (by unfold fRsA; omega)]; exact (h6 i hi).1
  · rw [k _ (by unfold fRsA; omega)]; exact h7
theorem fKp.cg {σ σ' : fAH} {o : Nat} {i : fIm} (h : fKp σ o i) (e : ∀ j, fI σ' o j = fI σ o j) : fKp σ' o i := by
  have e : fI σ' o = fI σ o := funext e
  unfold fKp
  rw [e]
  exact h
theorem fRc.cg {σ σ' : fAH} {i : fIm} (h : fRc σ i) (hr : irn i ≤ 60) (e1 : fI σ' 89 22 = fI σ 89 22) (e2 : fI σ' 89 23 = fI σ 89 23) (e3 : ∀ j, fI σ' 219 j = fI σ 219 j) (e4 : ∀ r, r < 60 → ∀ j, fI σ' (222 + r) j = fI σ (222 + r) j) : fRc σ' i :=
  ⟨e1.trans h.1, fun j hj => (e3 j).trans (h.2.1 j hj), e2.trans h.2.2.1, fun r hr2 => ⟨(e4 r (by omega) 0).trans (h.2.2.2 r hr2).1, (e4 r (by omega) 1).trans (h.2.2.2 r hr2).2⟩⟩
theorem fMt.cg {D : fSD} {σ σ' : fAH} {S : Nat → Nat} {T : Nat → Int32} (h : fMt σ S T) (hD : fWD D) (hW : fWS D S) (e3 : ∀ j, fI σ' 220 j = fI σ 220 j) (e4 : ∀ r, r < 12 → ∀ j, fI σ' (283 + r) j = fI σ (283 + r) j) : fMt σ' S T := by
  have := hW.1.2
  have := hD.1.2.1
  exact ⟨fun i hi c hc => (e4 i (by omega) c).trans (h.1 i hi c hc), fun t ht => (e3 t).trans (h.2 t ht)⟩
/-- nothing that is kept has changed -/
theorem fIr.fr {A : Nat → Prop} {σ σ1 : fAH} {x : fXS} {tp : Nat} {pl : Int32} (h : fIr σ x) (ok : fOK x) (s : fSm A σ σ1) (na : ∀ a, A a → fRsA a) (hf : ∀ j, j ∈ [21, 22, 23, 24, 31, 33] → fI σ1 89 j = fI σ 89 j) (h1 : fI σ1 89 1 = nI tp) (h3 : fI σ1 89 3 = pl) : fIr σ1 (xD x, xI x, xB x, tp, pl, xm x, xM x) := by
  obtain ⟨a1, a2, ⟨b1, b2, b3, b4, b5, b6⟩, a4, a5, a6⟩ := h
  have k : ∀ a, ¬ fRsA a → ∀ j, fI σ1 a j = fI σ a j := fun a ha j => s.i (fun q => ha (na a q)) j
  refine ⟨a1.smx s ok.1 na, a2.cg ok.1 ok.2.1.1 (k _ (by unfold fRsA; omega)) (fun r hr => k _ (by unfold fRsA; omega)), ⟨(hf 21 (by decide)).trans b1, (hf 31 (by decide)).trans b2, (hf 33 (by decide)).trans b3, h1, h3, (hf 24 (by decide)).trans b6⟩, fun i hi => ?_, a5.cg ok.2.1.2.2.2.2.2.1 (hf 22 (by decide)) (hf 23 (by decide)) (k _ (by unfold fRsA; omega)) (fun r hr => k _ (by unfold fRsA; omega)), fun j hj => (a6 j hj).cg (k _ ?_)⟩
  · rw [k _ (by unfold fRsA; omega)]; exact a4 i hi
  · have := ok.2.2.2.2.1
    have hj : j < xm x := hj
    unfold fRsA
    omega
theorem fIr.f0 {A : Nat → Prop} {σ σ1 : fAH} {x : fXS} (h : fIr σ x) (ok : fOK x) (s : fSm A σ σ1) (na : ∀ a, A a → fRsA a) (hf : ∀ j, j ∈ [1, 3, 21, 22, 23, 24, 31, 33] → fI σ1 89 j = fI σ 89 j) : fIr σ1 x :=
  h.fr ok s na (fun j hj => hf j (by simp only [List.mem_cons, List.not_mem_nil, or_false] at hj ⊢; omega)) ((hf 1 (by decide)).trans h.2.2.1.2.2.2.1) ((hf 3 (by decide)).trans h.2.2.1.2.2.2.2.1)
theorem fIr.cl {A : Nat → Prop} {σ σ1 : fAH} {x : fXS} (h : fIr σ x) (ok : fOK x) (s : fSm A σ σ1) (na : ∀ a, A a → a < 89) : fIr σ1 x :=
  h.f0 ok s (fun a q => Or.inl (by have := na a q; omega)) (fun j _ => s.i (fun q => by have := na _ q; omega) j)
theorem fDc.cg {σ σ' : fAH} {k : Nat} {i : fIm} (h : fDc σ k i) (e1 : ∀ j, fI σ' k j = fI σ k j) (e2 : ∀ j, fI σ' (k + 1) j = fI σ (k + 1) j) (e3 : ∀ j, fI σ' (k + 2) j = fI σ (k + 2) j) : fDc σ' k i :=
  ⟨(e1 1).trans h.1, fun j hj => (e2 j).trans (h.2.1 j hj), fun c hc => (e3 c).trans (h.2.2 c hc)⟩
theorem fWx2.sm {A : Nat → Prop} {σ σ' : fAH} (h : fWx2 σ) (s : fSm A σ σ') (na : ∀ a, A a → ¬ (44 ≤ a ∧ a ≤ 54)) : fWx2 σ' := by
  obtain ⟨⟨z, hz⟩, z2, hz2⟩ := h
  exact ⟨⟨z, hz.sm s (fun q => na _ q (by omega)) (fun q => na _ q (by omega))⟩, z2, hz2.sm s (fun q => na _ q (by omega)) (fun q => na _ q (by omega))⟩
/-- the class: nothing that is kept has changed, but for foresight's own rows -/
theorem fIc.fr {A : Nat → Prop} {σ σ1 : fAH} {x : fXS} {tp : Nat} {pl : Int32} (h : fIc σ x) (ok : fOK x) (s : fSm A σ σ1) (na : ∀ a, A a → fCsA a) (h10 : fI σ1 0 10 = fI σ 0 10) (h1 : fI σ1 0 1 = nI tp) (h2 : fI σ1 0 2 = pl) (hF : fFs σ1 (xD x) (iS (xI x))) (hx : fWx2 σ1) : fIc σ1 (xD x, xI x, xB x, tp, pl, xm x, xM x) := by
  obtain ⟨a1, a2, a3, ⟨b1, b2, b3, b4⟩, a5, a6, a7⟩ := h
  have k : ∀ a, ¬ fCsA a → ∀ j, fI σ1 a j = fI σ a j := fun a ha j => s.i (fun q => ha (na a q)) j
  have m3 := ok.2.2.2.2.1
  refine ⟨a1.sm s (fun i hi q => by have := na _ q; unfold fCsA at this; omega), ⟨?_, a2.2.sm s (fun i hi q => by have := na _ q; unfold fCsA at this; omega)⟩, a3.cg (k _ (by unfold fCsA; omega)) (k _ (by unfold fCsA; omega)) (k _ (by unfold fCsA; omega)), ⟨h1, fun i hi => ?_, h2, h10.trans b4⟩, fun j hj => ?_, hF, hx⟩
  · obtain ⟨m, hm⟩ := a2.1
    exact ⟨m, hm.sm s (fun i hi q => by have := na _ q; unfold fCsA at this; omega)⟩
  · rw [k _ (by unfold fCsA; omega)]; exact b2 i hi
  · have hj : j < xm x := hj
    obtain ⟨⟨⟨m, hm⟩, ht⟩, hd⟩ := a5 j hj
    exact ⟨⟨⟨m, hm.sm s (fun i hi q => by have := na _ q; unfold fCsA at this; omega)⟩, ht.sm s (fun i hi q => by have := na _ q; unfold fCsA at this; omega)⟩, hd.cg (k _ (by unfold fCsA; omega)) (k _ (by unfold fCsA; omega)) (k _ (by unfold fCsA; omega))⟩
theorem fFs.cg {σ σ1 : fAH} {D : fSD} {S : Nat → Nat} (h : fFs σ D S) (e1 : fI σ1 0 14 = fI σ 0 14) (e2 : fI σ1 0 15 = fI σ 0 15) (e3 : fJ σ1 0 16 = fJ σ 0 16) : fFs σ1 D S := by
  unfold fFs
  rw [e1, e2, e3]
  exact h
theorem fIc.f0 {A : Nat → Prop} {σ σ1 : fAH} {x : fXS} (h : fIc σ x) (ok : fOK x) (s : fSm A σ σ1) (na : ∀ a, A a → fCsA a) (hf : ∀ j, j ∈ [1, 2, 10, 14, 15] → fI σ1 0 j = fI σ 0 j) (hJ : fJ σ1 0 16 = fJ σ 0 16) (hx : fWx2 σ1) : fIc σ1 x :=
  h.fr ok s na (hf 10 (by decide)) ((hf 1 (by decide)).trans h.2.2.2.1.1) ((hf 2 (by decide)).trans h.2.2.2.1.2.2.1) (h.2.2.2.2.2.1.cg (hf 14 (by decide)) (hf 15 (by decide)) hJ) hx
/-- cells of the class that are neither kept nor foresight's -/
theorem fIc.f1 {A : Nat → Prop} {σ σ1 : fAH} {x : fXS} (h : fIc σ x) (ok : fOK x) (s : fSm A σ σ1) (na : ∀ a, A a → (8 ≤ a ∧ a < 15) ∨ (22 ≤ a ∧ a < 29) ∨ (55 ≤ a ∧ a < 59) ∨ 89 ≤ a) : fIc σ1 x :=
  h.f0 ok s (fun a q => by have := na a q; unfold fCsA; omega) (fun j _ => s.i (fun q => by have := na _ q; omega) j) (s.j (fun q => by have := na _ q; omega) 16) (h.2.2.2.2.2.2.sm s (fun a q => by have := na a q; omega))
