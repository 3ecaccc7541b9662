/-! ===== the new states may be ===== -/
theorem fOK.seed {x : fXS} {a : Int32} (ok : fOK x) : fOK (xD x, (iS (xI x), iT (xI x), a, ipn (xI x), iP (xI x), irn (xI x), iR (xI x)), xB x, xt x, xp x, xm x, xM x) := ok
theorem fOK.clear {x : fXS} (ok : fOK x) : fOK (xD x, (iS (xI x), iT (xI x), iq (xI x), 0, iP (xI x), irn (xI x), iR (xI x)), xB x, xt x, xp x, xm x, xM x) :=
  ⟨ok.1, ⟨ok.2.1.1, ok.2.1.2.1, ok.2.1.2.2.1, Nat.zero_le _, ok.2.1.2.2.2.2⟩, ok.2.2⟩
theorem fOK.plan {x : fXS} {f : Nat} (ok : fOK x) (hf : f < 4096) (h : ipn (xI x) < 30) : fOK (xD x, (iS (xI x), iT (xI x), iq (xI x), ipn (xI x) + 1, mup (iP (xI x)) (ipn (xI x)) f, irn (xI x), iR (xI x)), xB x, xt x, xp x, xm x, xM x) := by
  refine ⟨ok.1, ⟨ok.2.1.1, ok.2.1.2.1, ok.2.1.2.2.1, h, fun j => ?_, ok.2.1.2.2.2.2.2⟩, ok.2.2⟩
  show mup (iP (xI x)) (ipn (xI x)) f j < 4096
  unfold mup
  split
  · exact hf
  · exact ok.2.1.2.2.2.2.1 j
theorem fOK.thumb {x : fXS} {v : Nat} (ok : fOK x) (hv : v < 4) (h : irn (xI x) < 60) : fOK (xD x, (iS (xI x), iT (xI x), iq (xI x), ipn (xI x), iP (xI x), irn (xI x) + 1, mup (iR (xI x)) (irn (xI x)) v), xB x, xt x, xp x, xm x, xM x) := by
  refine ⟨ok.1, ⟨ok.2.1.1, ok.2.1.2.1, ok.2.1.2.2.1, ok.2.1.2.2.2.1, ok.2.1.2.2.2.2.1, h, fun j => ?_⟩, ok.2.2⟩
  show mup (iR (xI x)) (irn (xI x)) v j < 4
  unfold mup
  split
  · exact hv
  · exact ok.2.1.2.2.2.2.2.2 j
theorem fOK.img {x : fXS} (ok : fOK x) (h : xm x < 3) : fOK (xImg x) := by
  refine ⟨ok.1, ok.2.1, ok.2.2.1, ok.2.2.2.1, h, fun j hj => ?_⟩
  have hj : j < xm x + 1 := hj
  show fOI (xD x) (if j = xm x then xI x else xM x j)
  by_cases e : j = xm x
  · rw [if_pos e]; exact ok.2.1
  · rw [if_neg e]; exact ok.2.2.2.2.2 j (by omega)
theorem fOK.rst {x : fXS} (ok : fOK x) (h : 0 < xm x) : fOK (xRst x) := by
  refine ⟨ok.1, ok.2.2.2.2.2 (xm x - 1) (by omega), ok.2.2.1, ok.2.2.2.1, ?_, fun j hj => ?_⟩
  · have := ok.2.2.2.2.1
    show xm x - 1 ≤ 3
    omega
  · have hj : j < xm x - 1 := hj
    exact ok.2.2.2.2.2 j (by omega)
/-! what the law's own cells see -/
def fClB : Nat → Prop := fun a => a < 89 ∨ a = 300
theorem fIc.out {σ : fAH} {x : fXS} {v : Int64} (h : fIc σ x) (ok : fOK x) : fIc (fsJ σ 300 0 v) x := h.f1 ok (fSm_J (A := fun a => a = 300) rfl) (fun a (q : a = 300) => by omega)
theorem fIr.clB {σ σ1 : fAH} {x : fXS} (h : fIr σ x) (ok : fOK x) (s : fSm fClB σ σ1) : fIr σ1 x := h.f0 ok s (fun a q => by unfold fClB at q; unfold fRsA; omega) (fun j _ => s.i (fun q => by unfold fClB at q; omega) j)
theorem fIc.rf {σ σ1 : fAH} {x : fXS} (h : fIc σ x) (ok : fOK x) (s : fSm fRfA σ σ1) : fIc σ1 x := h.f1 ok s (fun a q => by unfold fRfA at q; omega)
