def vWould (D : fSD) (S : Nat → Nat) (z : fX Int32 × Nat) (w : Nat) : Int32 := if w = 0 then nI (z.1.1 151) - nI (S 151) else if w = 1 then nI (z.1.1 152) - nI (S 152) else if w = 2 then nI (z.1.1 153) - nI (S 153) else if w = 3 then nI z.2 else if w = 4 then nI (mct (mdone D z.1.1) (dT D 2) 0) else nI (z.1.1 154) - nI (S 154)
/-- how many of n seeds from the i-th on keep the promise -/
def mprm (D : fSD) (P : Nat → Nat) (pn o : Nat) (S : Nat → Nat) (T : Nat → Int32) (a : Int32) : Nat → Nat → Nat → Nat
  | 0, _, c => c
  | n + 1, i, c => mprm D P pn o S T a n (i + 1) (c + bn (mdone D (mplan D P pn 0 (S, T, a + nI i) 0).1.1 o))
/-- after a plan was followed nothing that is kept has changed -/
theorem fIc.fp {σ σ1 : fAH} {x : fXS} (h : fIc σ x) (ok : fOK x) (s : fSm fFP σ σ1) (k : ∀ j, j ≠ 13 → fI σ1 0 j = fI σ 0 j) (hJ : fJ σ1 0 16 = fJ σ 0 16) : fIc σ1 x :=
  h.f0 ok s (fun a q => by unfold fFP at q; unfold fCsA; omega) (fun j hj => k j (by simp only [List.mem_cons, List.not_mem_nil, or_false] at hj; omega)) hJ (h.2.2.2.2.2.2.sm s (fun a q => by unfold fFP at q; omega))
def vWor (D : fSD) (S : Nat → Nat) (w : Nat) : Int64 := nL (if w = 0 then (4096 * (mft D S).1.getD 0) / Nat.gcd (4096 * (mft D S).1.getD 0) 1073741824 else 1073741824 / Nat.gcd (4096 * (mft D S).1.getD 0) 1073741824)
def vNow (D : fSD) (S : Nat → Nat) (f w : Nat) : Int64 := nL (if w = 0 then cSum D (lf0 D (S 151)) S f / Nat.gcd (cSum D (lf0 D (S 151)) S f) 32768 else 32768 / Nat.gcd (cSum D (lf0 D (S 151)) S f) 32768)
set_option maxRecDepth 20000 in
theorem t_X9_would {g : fGP} {d : Nat} {σ : fAH} {Q : fRes → fAH → Prop} {x : fXS} {a : Int32} {w : Nat}  (Ms : fMs g σ) (ok : fOK x) (Ic : fIc σ x) (hw : w < 6) (h : ∀ σ', fSm fClA σ σ' → fIc σ' x → Q (.inl (some (.int (vWould (xD x) (iS (xI x)) (mplan (xD x) (iP (xI x)) (ipn (xI x)) 0 ((iS (xI x)), (iT (xI x)), a) 0) w)))) σ') : fEv g (d + 6) mX9_would 0 (fent [.ref 0, .int a, .int (nI w)] 3) [] σ Q := by
  obtain ⟨D, ⟨S, T, sd, pn, P, rn, R⟩, B, tp, pl, im, Im⟩ := x
  have hD : fWD D := ok.1
  have hW : fWS D S := ok.2.1.1
  have hC : fWC D S := ok.2.1.2.1
  have hN : fWN S 0 0 := ok.2.1.2.2.1
  have Gr : fGr σ 2 D := Ic.1
  obtain ⟨⟨m, Yr⟩, Yt⟩ : fYf σ 15 D S T sd := Ic.2.1
  have Gs := Ms.ground (k := 2) (by decide)
  have Ys := Ms.yard (k := 15) (by decide)
  obtain ⟨⟨g0, g1, g2, g3, g4, g5⟩, ⟨gn, gK⟩, ⟨gr0, gr1, gr2, gr3, gr4⟩⟩ := id Gs
  obtain ⟨⟨y0, y1, y2, y3, y4, y5, y6⟩, ⟨yn, yK⟩, ⟨yr0, yr1, yr2, yr3, yr4, yr5, yr6⟩⟩ := id Ys
  obtain ⟨t0, t1, t2, t3, t4, t5, t6⟩ := id hD.1
  have np := hW.n hD
  have n5 := hW.2.2.2.2
  have tp6 : tp ≤ 600 := ok.2.2.2.1
  have im3 : im ≤ 3 := ok.2.2.2.2.1
  have pn3 : pn ≤ 30 := ok.2.1.2.2.2.1
  have rn6 : rn ≤ 60 := ok.2.1.2.2.2.2.2.1
  have Dc : fDc σ 29 (S, T, sd, pn, P, rn, R) := Ic.2.2.1
  have w52 := hW.1
  rcases (show w = 0 ∨ w = 1 ∨ w = 2 ∨ w = 3 ∨ w = 4 ∨ w = 5 by omega) with rfl | rfl | rfl | rfl | rfl | rfl
  · show fEv g (d + 6) mX9_would 0 [some (.ref 0), some (.int a), some (.int (nI 0))] [] σ Q
    refine e_iload_n dX9_would_0 rfl rfl ?_
    refine e_iconst (nI 0) dX9_would_1 (by decide) ?_
    refine e_iconst (nI 5) dX9_would_2 (by decide) ?_
    refine e_callS [.int (nI 0), .int (nI 0), .int (nI 5)] dX9_would_3 cc_X9_checkRange lk_RX9_153 st_X9_checkRange in_RX9 rfl (Nat.le_of_ble_eq_true rfl) (Nat.le_of_ble_eq_true rfl) ?_
    refine t_X9_checkRange ⟨(nI_le' (by omega) (by omega)).mpr (by omega), (nI_le' (by omega) (by omega)).mpr (by omega)⟩ (fK_v ?_)
    show fEv g _ mX9_would 6 [some (.ref 0), some (.int a), some (.int (nI 0))] [] σ Q
    refine e_aload_n dX9_would_6 rfl rfl ?_
    refine e_iload_n dX9_would_7 rfl rfl ?_
    refine e_callV (k := 0) [.int a] dX9_would_8 cc_X9_followPlan lk_RX9_269 im_X9_followPlan se_X9_followPlan (by decide) (Ms.s 0 rfl) (Ms.n (by decide)) rfl (Nat.le_of_ble_eq_true rfl) (Nat.le_of_ble_eq_true rfl) ?_
    refine t_X9_followPlan (a := a) Ms ok Ic (fun σ1 Sm1 k1 j1 Yf1 i1 => fK_v ?_)
    show fEv g _ mX9_would 11 [some (.ref 0), some (.int a), some (.int (nI 0))] [] σ1 Q
    obtain ⟨⟨m2, Yr2⟩, Yt2⟩ : fYf σ1 22 D (mplan D P pn 0 (S, T, a) 0).1.1 (mplan D P pn 0 (S, T, a) 0).1.2.1 (mplan D P pn 0 (S, T, a) 0).1.2.2 := Yf1
    have i1 : fI σ1 0 13 = nI (mplan D P pn 0 (S, T, a) 0).2 := i1
    have Ms1 := Ms.sm Sm1
    have Ic1 := Ic.fp ok Sm1 k1 j1
    have Gr1 : fGr σ1 2 D := Ic1.1
    obtain ⟨⟨m3, Yr3⟩, Yt3⟩ : fYf σ1 15 D S T sd := Ic1.2.1
    have fw := fW_plan (P := P) hD pn 0 (S, T, a) 0 hW hC hN
    have Gs1 := Ms1.ground (k := 2) (by decide)
    have Ys1 := Ms1.yard (k := 22) (by decide)
    refine e_iload_n dX9_would_11 rfl rfl ?_
    refine e_tswIn (off := 36) 48 dX9_would_12 (by decide) (by decide) (by decide) (by decide) ?_
    refine e_aload_n dX9_would_48 rfl rfl ?_
    refine e_getR (q := 22) dX9_would_49 fl_RX9_45 (Ms1.s 0 rfl) (Ms1.n (by decide)) rfl (Ms1.r 0 6 rfl) (by unfold fscr; omega) ?_
    refine e_getI dX9_would_52 fl_RX9_222 (Ms1.s 22 rfl) (Ms1.n (by decide)) rfl ?_
    refine e_int (nI ((mplan D P pn 0 (S, T, a) 0).1.1 151)) Yr2.1.2.2.2.1 ?_
    refine e_aload_n dX9_would_55 rfl rfl ?_
    refine e_getR (q := 15) dX9_would_56 fl_RX9_41 (Ms1.s 0 rfl) (Ms1.n (by decide)) rfl (Ms1.r 0 5 rfl) (by unfold fscr; omega) ?_
    refine e_getI dX9_would_59 fl_RX9_222 (Ms1.s 15 rfl) (Ms1.n (by decide)) rfl ?_
    refine e_int (nI (S 151)) Yr3.1.2.2.2.1 ?_
    refine e_isub dX9_would_62 ?_
    exact e_ireturn .int dX9_would_63 rfl rfl (h σ1 (Sm1.to (fun a q => by unfold fFP at q; unfold fClA; omega)) Ic1)
  · show fEv g (d + 6) mX9_would 0 [some (.ref 0), some (.int a), some (.int (nI 1))] [] σ Q
    refine e_iload_n dX9_would_0 rfl rfl ?_
    refine e_iconst (nI 0) dX9_would_1 (by decide) ?_
    refine e_iconst (nI 5) dX9_would_2 (by decide) ?_
    refine e_callS [.int (nI 1), .int (nI 0), .int (nI 5)] dX9_would_3 cc_X9_checkRange lk_RX9_153 st_X9_checkRange in_RX9 rfl (Nat.le_of_ble_eq_true rfl) (Nat.le_of_ble_eq_true rfl) ?_
    refine t_X9_checkRange ⟨(nI_le' (by omega) (by omega)).mpr (by omega), (nI_le' (by omega) (by omega)).mpr (by omega)⟩ (fK_v ?_)
    show fEv g _ mX9_would 6 [some (.ref 0), some (.int a), some (.int (nI 1))] [] σ Q
    refine e_aload_n dX9_would_6 rfl rfl ?_
    refine e_iload_n dX9_would_7 rfl rfl ?_
    refine e_callV (k := 0) [.int a] dX9_would_8 cc_X9_followPlan lk_RX9_269 im_X9_followPlan se_X9_followPlan (by decide) (Ms.s 0 rfl) (Ms.n (by decide)) rfl (Nat.le_of_ble_eq_true rfl) (Nat.le_of_ble_eq_true rfl) ?_
    refine t_X9_followPlan (a := a) Ms ok Ic (fun σ1 Sm1 k1 j1 Yf1 i1 => fK_v ?_)
    show fEv g _ mX9_would 11 [some (.ref 0), some (.int a), some (.int (nI 1))] [] σ1 Q
    obtain ⟨⟨m2, Yr2⟩, Yt2⟩ : fYf σ1 22 D (mplan D P pn 0 (S, T, a) 0).1.1 (mplan D P pn 0 (S, T, a) 0).1.2.1 (mplan D P pn 0 (S, T, a) 0).1.2.2 := Yf1
    have i1 : fI σ1 0 13 = nI (mplan D P pn 0 (S, T, a) 0).2 := i1
    have Ms1 := Ms.sm Sm1
    have Ic1 := Ic.fp ok Sm1 k1 j1
    have Gr1 : fGr σ1 2 D := Ic1.1
    obtain ⟨⟨m3, Yr3⟩, Yt3⟩ : fYf σ1 15 D S T sd := Ic1.2.1
    have fw := fW_plan (P := P) hD pn 0 (S, T, a) 0 hW hC hN
    have Gs1 := Ms1.ground (k := 2) (by decide)
    have Ys1 := Ms1.yard (k := 22) (by decide)
    refine e_iload_n dX9_would_11 rfl rfl ?_
    refine e_tswIn (off := 52) 64 dX9_would_12 (by decide) (by decide) (by decide) (by decide) ?_
    refine e_aload_n dX9_would_64 rfl rfl ?_
    refine e_getR (q := 22) dX9_would_65 fl_RX9_45 (Ms1.s 0 rfl) (Ms1.n (by decide)) rfl (Ms1.r 0 6 rfl) (by unfold fscr; omega) ?_
    refine e_getI dX9_would_68 fl_RX9_225 (Ms1.s 22 rfl) (Ms1.n (by decide)) rfl ?_
    refine e_int (nI ((mplan D P pn 0 (S, T, a) 0).1.1 152)) Yr2.1.2.2.2.2.1 ?_
    refine e_aload_n dX9_would_71 rfl rfl ?_
    refine e_getR (q := 15) dX9_would_72 fl_RX9_41 (Ms1.s 0 rfl) (Ms1.n (by decide)) rfl (Ms1.r 0 5 rfl) (by unfold fscr; omega) ?_
    refine e_getI dX9_would_75 fl_RX9_225 (Ms1.s 15 rfl) (Ms1.n (by decide)) rfl ?_
    refine e_int (nI (S 152)) Yr3.1.2.2.2.2.1 ?_
    refine e_isub dX9_would_78 ?_
    exact e_ireturn .int dX9_would_79 rfl rfl (h σ1 (Sm1.to (fun a q => by unfold fFP at q; unfold fClA; omega)) Ic1)
  · show fEv g (d + 6) mX9_would 0 [some (.ref 0), some (.int a), some (.int (nI 2))] [] σ Q
    refine e_iload_n dX9_would_0 rfl rfl ?_
    refine e_iconst (nI 0) dX9_would_1 (by decide) ?_
    refine e_iconst (nI 5) dX9_would_2 (by decide) ?_
    refine e_callS [.int (nI 2), .int (nI 0), .int (nI 5)] dX9_would_3 cc_X9_checkRange lk_RX9_153 st_X9_checkRange in_RX9 rfl (Nat.le_of_ble_eq_true rfl) (Nat.le_of_ble_eq_true rfl) ?_
    refine t_X9_checkRange ⟨(nI_le' (by omega) (by omega)).mpr (by omega), (nI_le' (by omega) (by omega)).mpr (by omega)⟩ (fK_v ?_)
    show fEv g _ mX9_would 6 [some (.ref 0), some (.int a), some (.int (nI 2))] [] σ Q
    refine e_aload_n dX9_would_6 rfl rfl ?_
    refine e_iload_n dX9_would_7 rfl rfl ?_
    refine e_callV (k := 0) [.int a] dX9_would_8 cc_X9_followPlan lk_RX9_269 im_X9_followPlan se_X9_followPlan (by decide) (Ms.s 0 rfl) (Ms.n (by decide)) rfl (Nat.le_of_ble_eq_true rfl) (Nat.le_of_ble_eq_true rfl) ?_
    refine t_X9_followPlan (a := a) Ms ok Ic (fun σ1 Sm1 k1 j1 Yf1 i1 => fK_v ?_)
    show fEv g _ mX9_would 11 [some (.ref 0), some (.int a), some (.int (nI 2))] [] σ1 Q
    obtain ⟨⟨m2, Yr2⟩, Yt2⟩ : fYf σ1 22 D (mplan D P pn 0 (S, T, a) 0).1.1 (mplan D P pn 0 (S, T, a) 0).1.2.1 (mplan D P pn 0 (S, T, a) 0).1.2.2 := Yf1
    have i1 : fI σ1 0 13 = nI (mplan D P pn 0 (S, T, a) 0).2 := i1
    have Ms1 := Ms.sm Sm1
    have Ic1 := Ic.fp ok Sm1 k1 j1
    have Gr1 : fGr σ1 2 D := Ic1.1
    obtain ⟨⟨m3, Yr3⟩, Yt3⟩ : fYf σ1 15 D S T sd := Ic1.2.1
    have fw := fW_plan (P := P) hD pn 0 (S, T, a) 0 hW hC hN
    have Gs1 := Ms1.ground (k := 2) (by decide)
    have Ys1 := Ms1.yard (k := 22) (by decide)
    refine e_iload_n dX9_would_11 rfl rfl ?_
    refine e_tswIn (off := 68) 80 dX9_would_12 (by decide) (by decide) (by decide) (by decide) ?_
    refine e_aload_n dX9_would_80 rfl rfl ?_
    refine e_getR (q := 22) dX9_would_81 fl_RX9_45 (Ms1.s 0 rfl) (Ms1.n (by decide)) rfl (Ms1.r 0 6 rfl) (by unfold fscr; omega) ?_
    refine e_getI dX9_would_84 fl_RX9_228 (Ms1.s 22 rfl) (Ms1.n (by decide)) rfl ?_
    refine e_int (nI ((mplan D P pn 0 (S, T, a) 0).1.1 153)) Yr2.1.2.2.2.2.2.1 ?_
    refine e_aload_n dX9_would_87 rfl rfl ?_
    refine e_getR (q := 15) dX9_would_88 fl_RX9_41 (Ms1.s 0 rfl) (Ms1.n (by decide)) rfl (Ms1.r 0 5 rfl) (by unfold fscr; omega) ?_
    refine e_getI dX9_would_91 fl_RX9_228 (Ms1.s 15 rfl) (Ms1.n (by decide)) rfl ?_
    refine e_int (nI (S 153)) Yr3.1.2.2.2.2.2.1 ?_
    refine e_isub dX9_would_94 ?_
    exact e_ireturn .int dX9_would_95 rfl rfl (h σ1 (Sm1.to (fun a q => by unfold fFP at q; unfold fClA; omega)) Ic1)
  · show fEv g (d + 6) mX9_would 0 [some (.ref 0), some (.int a), some (.int (nI 3))] [] σ Q
    refine e_iload_n dX9_would_0 rfl rfl ?_
    refine e_iconst (nI 0) dX9_would_1 (by decide) ?_
    refine e_iconst (nI 5) dX9_would_2 (by decide) ?_
    refine e_callS [.int (nI 3), .int (nI 0), .int (nI 5)] dX9_would_3 cc_X9_checkRange lk_RX9_153 st_X9_checkRange in_RX9 rfl (Nat.le_of_ble_eq_true rfl) (Nat.le_of_ble_eq_true rfl) ?_
    refine t_X9_checkRange ⟨(nI_le' (by omega) (by omega)).mpr (by omega), (nI_le' (by omega) (by omega)).mpr (by omega)⟩ (fK_v ?_)
    show fEv g _ mX9_would 6 [some (.ref 0), some (.int a), some (.int (nI 3))] [] σ Q
    refine e_aload_n dX9_would_6 rfl rfl ?_
    refine e_iload_n dX9_would_7 rfl rfl ?_
    refine e_callV (k := 0) [.int a] dX9_would_8 cc_X9_followPlan lk_RX9_269 im_X9_followPlan se_X9_followPlan (by decide) (Ms.s 0 rfl) (Ms.n (by decide)) rfl (Nat.le_of_ble_eq_true rfl) (Nat.le_of_ble_eq_true rfl) ?_
    refine t_X9_followPlan (a := a) Ms ok Ic (fun σ1 Sm1 k1 j1 Yf1 i1 => fK_v ?_)
    show fEv g _ mX9_would 11 [some (.ref 0), some (.int a), some (.int (nI 3))] [] σ1 Q
    obtain ⟨⟨m2, Yr2⟩, Yt2⟩ : fYf σ1 22 D (mplan D P pn 0 (S, T, a) 0).1.1 (mplan D P pn 0 (S, T, a) 0).1.2.1 (mplan D P pn 0 (S, T, a) 0).1.2.2 := Yf1
    have i1 : fI σ1 0 13 = nI (mplan D P pn 0 (S, T, a) 0).2 := i1
    have Ms1 := Ms.sm Sm1
    have Ic1 := Ic.fp ok Sm1 k1 j1
    have Gr1 : fGr σ1 2 D := Ic1.1
    obtain ⟨⟨m3, Yr3⟩, Yt3⟩ : fYf σ1 15 D S T sd := Ic1.2.1
    have fw := fW_plan (P := P) hD pn 0 (S, T, a) 0 hW hC hN
    have Gs1 := Ms1.ground (k := 2) (by decide)
    have Ys1 := Ms1.yard (k := 22) (by decide)
    refine e_iload_n dX9_would_11 rfl rfl ?_
    refine e_tswIn (off := 84) 96 dX9_would_12 (by decide) (by decide) (by decide) (by decide) ?_
    refine e_aload_n dX9_would_96 rfl rfl ?_
    refine e_getI dX9_would_97 fl_RX9_80 (Ms1.s 0 rfl) (Ms1.n (by decide)) rfl ?_
    refine e_int (nI ((mplan D P pn 0 (S, T, a) 0).2)) i1 ?_
    exact e_ireturn .int dX9_would_100 rfl rfl (h σ1 (Sm1.to (fun a q => by unfold fFP at q; unfold fClA; omega)) Ic1)
  · show fEv g (d + 6) mX9_would 0 [some (.ref 0), some (.int a), some (.int (nI 4))] [] σ Q
    refine e_iload_n dX9_would_0 rfl rfl ?_
    refine e_iconst (nI 0) dX9_would_1 (by decide) ?_
    refine e_iconst (nI 5) dX9_would_2 (by decide) ?_
    refine e_callS [.int (nI 4), .int (nI 0), .int (nI 5)] dX9_would_3 cc_X9_checkRange lk_RX9_153 st_X9_checkRange in_RX9 rfl (Nat.le_of_ble_eq_true rfl) (Nat.le_of_ble_eq_true rfl) ?_
    refine t_X9_checkRange ⟨(nI_le' (by omega) (by omega)).mpr (by omega), (nI_le' (by omega) (by omega)).mpr (by omega)⟩ (fK_v ?_)
    show fEv g _ mX9_would 6 [some (.ref 0), some (.int a), some (.int (nI 4))] [] σ Q
    refine e_aload_n dX9_would_6 rfl rfl ?_
    refine e_iload_n dX9_would_7 rfl rfl ?_
    refine e_callV (k := 0) [.int a] dX9_would_8 cc_X9_followPlan lk_RX9_269 im_X9_followPlan se_X9_followPlan (by decide) (Ms.s 0 rfl) (Ms.n (by decide)) rfl (Nat.le_of_ble_eq_true rfl) (Nat.le_of_ble_eq_true rfl) ?_
    refine t_X9_followPlan (a := a) Ms ok Ic (fun σ1 Sm1 k1 j1 Yf1 i1 => fK_v ?_)
    show fEv g _ mX9_would 11 [some (.ref 0), some (.int a), some (.int (nI 4))] [] σ1 Q
    obtain ⟨⟨m2, Yr2⟩, Yt2⟩ : fYf σ1 22 D (mplan D P pn 0 (S, T, a) 0).1.1 (mplan D P pn 0 (S, T, a) 0).1.2.1 (mplan D P pn 0 (S, T, a) 0).1.2.2 := Yf1
    have i1 : fI σ1 0 13 = nI (mplan D P pn 0 (S, T, a) 0).2 := i1
    have Ms1 := Ms.sm Sm1
    have Ic1 := Ic.fp ok Sm1 k1 j1
    have Gr1 : fGr σ1 2 D := Ic1.1
    obtain ⟨⟨m3, Yr3⟩, Yt3⟩ : fYf σ1 15 D S T sd := Ic1.2.1
    have fw := fW_plan (P := P) hD pn 0 (S, T, a) 0 hW hC hN
    have Gs1 := Ms1.ground (k := 2) (by decide)
    have Ys1 := Ms1.yard (k := 22) (by decide)
    refine e_iload_n dX9_would_11 rfl rfl ?_
    refine e_tswIn (off := 89) 101 dX9_would_12 (by decide) (by decide) (by decide) (by decide) ?_
    refine e_aload_n dX9_would_101 rfl rfl ?_
    refine e_getR (q := 22) dX9_would_102 fl_RX9_45 (Ms1.s 0 rfl) (Ms1.n (by decide)) rfl (Ms1.r 0 6 rfl) (by unfold fscr; omega) ?_
    refine e_callV (k := 22) [] dX9_would_105 cc_X8_ordersDone lk_RX9_272 im_X8_ordersDone se_X8_ordersDone (by decide) (Ms1.s 22 rfl) (Ms1.n (by decide)) rfl (Nat.le_of_ble_eq_true rfl) (Nat.le_of_ble_eq_true rfl) ?_
    refine t_X8_ordersDone Gs1 Gr1 hD Ys1 Yr2 fw.1 (fK_i ?_)
    show fEv g _ mX9_would 108 [some (.ref 0), some (.int a), some (.int (nI 4))] [.int (nI (mct (mdone D (mplan D P pn 0 (S, T, a) 0).1.1) (dT D 2) 0))] σ1 Q
    exact e_ireturn .int dX9_would_108 rfl rfl (h σ1 (Sm1.to (fun a q => by unfold fFP at q; unfold fClA; omega)) Ic1)
  · show fEv g (d + 6) mX9_would 0 [some (.ref 0), some (.int a), some (.int (nI 5))] [] σ Q
    refine e_iload_n dX9_would_0 rfl rfl ?_
    refine e_iconst (nI 0) dX9_would_1 (by decide) ?_
    refine e_iconst (nI 5) dX9_would_2 (by decide) ?_
    refine e_callS [.int (nI 5), .int (nI 0), .int (nI 5)] dX9_would_3 cc_X9_checkRange lk_RX9_153 st_X9_checkRange in_RX9 rfl (Nat.le_of_ble_eq_true rfl) (Nat.le_of_ble_eq_true rfl) ?_
    refine t_X9_checkRange ⟨(nI_le' (by omega) (by omega)).mpr (by omega), (nI_le' (by omega) (by omega)).mpr (by omega)⟩ (fK_v ?_)
    show fEv g _ mX9_would 6 [some (.ref 0), some (.int a), some (.int (nI 5))] [] σ Q
    refine e_aload_n dX9_would_6 rfl rfl ?_
    refine e_iload_n dX9_would_7 rfl rfl ?_
    refine e_callV (k := 0) [.int a] dX9_would_8 cc_X9_followPlan lk_RX9_269 im_X9_followPlan se_X9_followPlan (by decide) (Ms.s 0 rfl) (Ms.n (by decide)) rfl (Nat.le_of_ble_eq_true rfl) (Nat.le_of_ble_eq_true rfl) ?_
    refine t_X9_followPlan (a := a) Ms ok Ic (fun σ1 Sm1 k1 j1 Yf1 i1 => fK_v ?_)
    show fEv g _ mX9_would 11 [some (.ref 0), some (.int a), some (.int (nI 5))] [] σ1 Q
    obtain ⟨⟨m2, Yr2⟩, Yt2⟩ : fYf σ1 22 D (mplan D P pn 0 (S, T, a) 0).1.1 (mplan D P pn 0 (S, T, a) 0).1.2.1 (mplan D P pn 0 (S, T, a) 0).1.2.2 := Yf1
    have i1 : fI σ1 0 13 = nI (mplan D P pn 0 (S, T, a) 0).2 := i1
    have Ms1 := Ms.sm Sm1
    have Ic1 := Ic.fp ok Sm1 k1 j1
    have Gr1 : fGr σ1 2 D := Ic1.1
    obtain ⟨⟨m3, Yr3⟩, Yt3⟩ : fYf σ1 15 D S T sd := Ic1.2.1
    have fw := fW_plan (P := P) hD pn 0 (S, T, a) 0 hW hC hN
    have Gs1 := Ms1.ground (k := 2) (by decide)
    have Ys1 := Ms1.yard (k := 22) (by decide)
    refine e_iload_n dX9_would_11 rfl rfl ?_
    refine e_tswOut 109 dX9_would_12 (by decide) (by decide) ?_
    refine e_aload_n dX9_would_109 rfl rfl ?_
    refine e_getR (q := 22) dX9_would_110 fl_RX9_45 (Ms1.s 0 rfl) (Ms1.n (by decide)) rfl (Ms1.r 0 6 rfl) (by unfold fscr; omega) ?_
    refine e_getI dX9_would_113 fl_RX9_231 (Ms1.s 22 rfl) (Ms1.n (by decide)) rfl ?_
    refine e_int (nI ((mplan D P pn 0 (S, T, a) 0).1.1 154)) Yr2.1.2.2.2.2.2.2.1 ?_
    refine e_aload_n dX9_would_116 rfl rfl ?_
    refine e_getR (q := 15) dX9_would_117 fl_RX9_41 (Ms1.s 0 rfl) (Ms1.n (by decide)) rfl (Ms1.r 0 5 rfl) (by unfold fscr; omega) ?_
    refine e_getI dX9_would_120 fl_RX9_231 (Ms1.s 15 rfl) (Ms1.n (by decide)) rfl ?_
    refine e_int (nI (S 154)) Yr3.1.2.2.2.2.2.2.1 ?_
    refine e_isub dX9_would_123 ?_
    exact e_ireturn .int dX9_would_124 rfl rfl (h σ1 (Sm1.to (fun a q => by unfold fFP at q; unfold fClA; omega)) Ic1)
set_option maxRecDepth 20000 in
theorem t_X9_wouldE {g : fGP} {d : Nat} {σ : fAH} {Q : fRes → fAH → Prop} {x : fXS} {a b : Int32}  (Ms : fMs g σ) (ok : fOK x) (Ic : fIc σ x) (hv : ¬ (nI 0 ≤ b ∧ b ≤ nI 5)) (rm : fnx σ + fgb σ + 1 ≤ 601024 ∧ fsu σ + 6 ≤ 7293034) (h : Q (.inr "java/lang/IllegalArgumentException") (fthr σ)) : fEv g (d + 1) mX9_would 0 (fent [.ref 0, .int a, .int b] 3) [] σ Q := by
  obtain ⟨D, ⟨S, T, sd, pn, P, rn, R⟩, B, tp, pl, im, Im⟩ := x
  have hD : fWD D := ok.1
  have hW : fWS D S := ok.2.1.1
  have hC : fWC D S := ok.2.1.2.1
  have hN : fWN S 0 0 := ok.2.1.2.2.1
  have Gr : fGr σ 2 D := Ic.1
  obtain ⟨⟨m, Yr⟩, Yt⟩ : fYf σ 15 D S T sd := Ic.2.1
  have Gs := Ms.ground (k := 2) (by decide)
  have Ys := Ms.yard (k := 15) (by decide)
  obtain ⟨⟨g0, g1, g2, g3, g4, g5⟩, ⟨gn, gK⟩, ⟨gr0, gr1, gr2, gr3, gr4⟩⟩ := id Gs
  obtain ⟨⟨y0, y1, y2, y3, y4, y5, y6⟩, ⟨yn, yK⟩, ⟨yr0, yr1, yr2, yr3, yr4, yr5, yr6⟩⟩ := id Ys
  obtain ⟨t0, t1, t2, t3, t4, t5, t6⟩ := id hD.1
  have np := hW.n hD
  have n5 := hW.2.2.2.2
  have tp6 : tp ≤ 600 := ok.2.2.2.1
  have im3 : im ≤ 3 := ok.2.2.2.2.1
  have pn3 : pn ≤ 30 := ok.2.1.2.2.2.1
  have rn6 : rn ≤ 60 := ok.2.1.2.2.2.2.2.1
  have Dc : fDc σ 29 (S, T, sd, pn, P, rn, R) := Ic.2.2.1
  have w52 := hW.1
  show fEv g (d + 1) mX9_would 0 [some (.ref 0), some (.int a), some (.int b)] [] σ Q
  refine e_iload_n dX9_would_0 rfl rfl ?_
  refine e_iconst (nI 0) dX9_would_1 (by decide) ?_
  refine e_iconst (nI 5) dX9_would_2 (by decide) ?_
  refine e_callS [.int b, .int (nI 0), .int (nI 5)] dX9_would_3 cc_X9_checkRange lk_RX9_153 st_X9_checkRange in_RX9 rfl (Nat.le_of_ble_eq_true rfl) (Nat.le_of_ble_eq_true rfl) ?_
  exact t_X9_checkRangeE hv rm (t_out rfl h)
set_option maxRecDepth 20000 in
theorem l_X9_prom {g : fGP} {d : Nat} {Q : fRes → fAH → Prop} {a : Int32} {many o : Nat} {D : fSD} {S : Nat → Nat} {T : Nat → Int32} {sd : Int32} {pn : Nat} {P : Nat → Nat} {rn : Nat} {R : Nat → Nat} {B : Nat → Nat} {tp : Nat} {pl : Int32} {im : Nat} {Im : Nat → fIm} (ok : fOK (D, (S, T, sd, pn, P, rn, R), B, tp, pl, im, Im)) (ho : o < dT D 2) (hm : many ≤ 99) : ∀ (n i : Nat) (c : Nat) (σ : fAH), i + n = many → fMs g σ → fIc σ (D, (S, T, sd, pn, P, rn, R), B, tp, pl, im, Im) → c ≤ i → (∀ σ', fSm fClA σ σ' → fIc σ' (D, (S, T, sd, pn, P, rn, R), B, tp, pl, im, Im) → Q (.inl (some (.int (nI (mprm D P pn o S T a n i c))))) σ') → fEv g (d + 6) mX9_promise 18 [some (.ref 0), some (.int (nI o)), some (.int a), some (.int (nI many)), some (.int (nI c)), some (.int (nI i))] [] σ Q := by
  intro n
  induction n with
  | zero =>
    intro i c σ hin Ms Ic hc h
    have hD : fWD D := ok.1
    have hW : fWS D S := ok.2.1.1
    have hC : fWC D S := ok.2.1.2.1
    have hN : fWN S 0 0 := ok.2.1.2.2.1
    obtain ⟨t0, t1, t2, t3, t4, t5, t6⟩ := id hD.1
    refine e_iload dX9_promise_18 rfl ?_
    refine e_iload_n dX9_promise_20 rfl rfl ?_
    refine e_icmp_ge 52 dX9_promise_21 (by decide) (fun cz => ?_) (fun cz => absurd ((nI_le' (by omega) (by omega)).mpr (by omega)) cz)
    refine e_iload dX9_promise_52 rfl ?_
    exact e_ireturn .int dX9_promise_54 rfl rfl (h σ fSm.rfl' Ic)
  | succ n ih =>
    intro i c σ hin Ms Ic hc h
    have hD : fWD D := ok.1
    have hW : fWS D S := ok.2.1.1
    have hC : fWC D S := ok.2.1.2.1
    have hN : fWN S 0 0 := ok.2.1.2.2.1
    obtain ⟨t0, t1, t2, t3, t4, t5, t6⟩ := id hD.1
    have hi : i < many := by omega
    refine e_iload dX9_promise_18 rfl ?_
    refine e_iload_n dX9_promise_20 rfl rfl ?_
    refine e_icmp_ge 52 dX9_promise_21 (by decide) (fun cz => absurd ((nI_le' (by omega) (by omega)).mp cz) (by omega)) (fun cz => ?_)
    refine e_aload_n dX9_promise_24 rfl rfl ?_
    refine e_iload_n dX9_promise_25 rfl rfl ?_
    refine e_iload dX9_promise_26 rfl ?_
    refine e_iadd dX9_promise_28 ?_
    refine e_callV (k := 0) [.int (a + (nI i))] dX9_promise_29 cc_X9_followPlan lk_RX9_269 im_X9_followPlan se_X9_followPlan (by decide) (Ms.s 0 rfl) (Ms.n (by decide)) rfl (Nat.le_of_ble_eq_true rfl) (Nat.le_of_ble_eq_true rfl) ?_
    refine t_X9_followPlan (x := (D, (S, T, sd, pn, P, rn, R), B, tp, pl, im, Im)) (a := a + nI i) Ms ok Ic (fun σ1 Sm1 k1 j1 Yf1 i1 => fK_v ?_)
    show fEv g _ mX9_promise 32 [some (.ref 0), some (.int (nI o)), some (.int a), some (.int (nI many)), some (.int (nI c)), some (.int (nI i))] [] σ1 Q
    obtain ⟨⟨m2, Yr2⟩, Yt2⟩ : fYf σ1 22 D (mplan D P pn 0 (S, T, a + nI i) 0).1.1 (mplan D P pn 0 (S, T, a + nI i) 0).1.2.1 (mplan D P pn 0 (S, T, a + nI i) 0).1.2.2 := Yf1
    have Ms1 := Ms.sm Sm1
    have Ic1 := Ic.fp ok Sm1 k1 j1
    have Gr1 : fGr σ1 2 D := Ic1.1
    have fw := fW_plan (P := P) hD pn 0 (S, T, a + nI i) 0 hW hC hN
    have Gs1 := Ms1.ground (k := 2) (by decide)
    have Ys1 := Ms1.yard (k := 22) (by decide)
    refine e_aload_n dX9_promise_32 rfl rfl ?_
    refine e_getR (q := 22) dX9_promise_33 fl_RX9_45 (Ms1.s 0 rfl) (Ms1.n (by decide)) rfl (Ms1.r 0 6 rfl) (by unfold fscr; omega) ?_
    refine e_iload_n dX9_promise_36 rfl rfl ?_
    refine e_callV (k := 22) [.int (nI o)] dX9_promise_37 cc_X8_isDone lk_RX9_275 im_X8_isDone se_X8_isDone (by decide) (Ms1.s 22 rfl) (Ms1.n (by decide)) rfl (Nat.le_of_ble_eq_true rfl) (Nat.le_of_ble_eq_true rfl) ?_
    refine t_X8_isDone Gs1 Gr1 hD Ys1 Yr2 fw.1 ho (fK_i ?_)
    show fEv g _ mX9_promise 40 [some (.ref 0), some (.int (nI o)), some (.int a), some (.int (nI many)), some (.int (nI c)), some (.int (nI i))] [.int (nI (bn (mdone D (mplan D P pn 0 (S, T, a + nI i) 0).1.1 o)))] σ1 Q
    refine e_if_eq 46 dX9_promise_40 (by decide) (fun c40 => ?_) (fun c40 => ?_)
    · have c40 := bn0 c40
      refine e_iinc (v := nI (i + 1)) (L1 := [some (.ref 0), some (.int (nI o)), some (.int a), some (.int (nI many)), some (.int (nI c)), some (.int (nI (i + 1)))]) dX9_promise_46 rfl (show nI i + Int32.ofInt 1 = nI (i + 1) from nI_add i 1) (by decide) rfl ?_
      refine e_goto 18 dX9_promise_49 (by decide) ?_
      rw [show mprm D P pn o S T a (n + 1) i c = mprm D P pn o S T a n (i + 1) (c + bn (mdone D (mplan D P pn 0 (S, T, a + nI i) 0).1.1 o)) from rfl, c40] at h
      exact ih (i + 1) (c + 0) σ1 (by omega) Ms1 Ic1 (by omega) (fun σ' Sm' => h σ' ((Sm1.to (fun a q => by unfold fFP at q; unfold fClA; omega)).tr Sm'))
    · have c40 := bn1 c40
      refine e_iinc (v := nI (c + 1)) (L1 := [some (.ref 0), some (.int (nI o)), some (.int a), some (.int (nI many)), some (.int (nI (c + 1))), some (.int (nI i))]) dX9_promise_43 rfl (show nI c + Int32.ofInt 1 = nI (c + 1) from nI_add c 1) (by decide) rfl ?_
      refine e_iinc (v := nI (i + 1)) (L1 := [some (.ref 0), some (.int (nI o)), some (.int a), some (.int (nI many)), some (.int (nI (c + 1))), some (.int (nI (i + 1)))]) dX9_promise_46 rfl (show nI i + Int32.ofInt 1 = nI (i + 1) from nI_add i 1) (by decide) rfl ?_
      refine e_goto 18 dX9_promise_49 (by decide) ?_
      rw [show mprm D P pn o S T a (n + 1) i c = mprm D P pn o S T a n (i + 1) (c + bn (mdone D (mplan D P pn 0 (S, T, a + nI i) 0).1.1 o)) from rfl, c40] at h
      exact ih (i + 1) (c + 1) σ1 (by omega) Ms1 Ic1 (by omega) (fun σ' Sm' => h σ' ((Sm1.to (fun a q => by unfold fFP at q; unfold fClA; omega)).tr Sm'))
set_option maxRecDepth 20000 in
theorem t_X9_promise {g : fGP} {d : Nat} {σ : fAH} {Q : fRes → fAH → Prop} {x : fXS} {a : Int32} {o many : Nat}  (Ms : fMs g σ) (ok : fOK x) (Ic : fIc σ x) (ho : o < dT (xD x) 2) (hm : 1 ≤ many ∧ many ≤ 99) (h : ∀ σ', fSm fClA σ σ' → fIc σ' x → Q (.inl (some (.int (nI (mprm (xD x) (iP (xI x)) (ipn (xI x)) o (iS (xI x)) (iT (xI x)) a many 0 0))))) σ') : fEv g (d + 6) mX9_promise 0 (fent [.ref 0, .int (nI o), .int a, .int (nI many)] 6) [] σ Q := by
  obtain ⟨D, ⟨S, T, sd, pn, P, rn, R⟩, B, tp, pl, im, Im⟩ := x
  have hD : fWD D := ok.1
  have hW : fWS D S := ok.2.1.1
  have hC : fWC D S := ok.2.1.2.1
  have hN : fWN S 0 0 := ok.2.1.2.2.1
  have Gr : fGr σ 2 D := Ic.1
  obtain ⟨⟨m, Yr⟩, Yt⟩ : fYf σ 15 D S T sd := Ic.2.1
  have Gs := Ms.ground (k := 2) (by decide)
  have Ys := Ms.yard (k := 15) (by decide)
  obtain ⟨⟨g0, g1, g2, g3, g4, g5⟩, ⟨gn, gK⟩, ⟨gr0, gr1, gr2, gr3, gr4⟩⟩ := id Gs
  obtain ⟨⟨y0, y1, y2, y3, y4, y5, y6⟩, ⟨yn, yK⟩, ⟨yr0, yr1, yr2, yr3, yr4, yr5, yr6⟩⟩ := id Ys
  obtain ⟨t0, t1, t2, t3, t4, t5, t6⟩ := id hD.1
  have np := hW.n hD
  have n5 := hW.2.2.2.2
  have tp6 : tp ≤ 600 := ok.2.2.2.1
  have im3 : im ≤ 3 := ok.2.2.2.2.1
  have pn3 : pn ≤ 30 := ok.2.1.2.2.2.1
  have rn6 : rn ≤ 60 := ok.2.1.2.2.2.2.2.1
  have Dc : fDc σ 29 (S, T, sd, pn, P, rn, R) := Ic.2.2.1
  have w52 := hW.1
  have ho : o < dT D 2 := ho
  show fEv g (d + 6) mX9_promise 0 [some (.ref 0), some (.int (nI o)), some (.int a), some (.int (nI many)), none, none] [] σ Q
  refine e_aload_n dX9_promise_0 rfl rfl ?_
  refine e_iload_n dX9_promise_1 rfl rfl ?_
  refine e_callV (k := 0) [.int (nI o)] dX9_promise_2 cc_X9_checkOrder lk_RX9_175 im_X9_checkOrder se_X9_checkOrder (by decide) (Ms.s 0 rfl) (Ms.n (by decide)) rfl (Nat.le_of_ble_eq_true rfl) (Nat.le_of_ble_eq_true rfl) ?_
  refine t_X9_checkOrder Ms Gr hD (by omega) (fK_v ?_)
  show fEv g _ mX9_promise 5 [some (.ref 0), some (.int (nI o)), some (.int a), some (.int (nI many)), none, none] [] σ Q
  refine e_iload_n dX9_promise_5 rfl rfl ?_
  refine e_iconst (nI 1) dX9_promise_6 (by decide) ?_
  refine e_bipush (nI 99) dX9_promise_7 (by decide) ?_
  refine e_callS [.int (nI many), .int (nI 1), .int (nI 99)] dX9_promise_9 cc_X9_checkRange lk_RX9_153 st_X9_checkRange in_RX9 rfl (Nat.le_of_ble_eq_true rfl) (Nat.le_of_ble_eq_true rfl) ?_
  refine t_X9_checkRange ⟨(nI_le' (by omega) (by omega)).mpr (by omega), (nI_le' (by omega) (by omega)).mpr (by omega)⟩ (fK_v ?_)
  show fEv g _ mX9_promise 12 [some (.ref 0), some (.int (nI o)), some (.int a), some (.int (nI many)), none, none] [] σ Q
  refine e_iconst (nI 0) dX9_promise_12 (by decide) ?_
  refine e_istore (L1 := [some (.ref 0), some (.int (nI o)), some (.int a), some (.int (nI many)), some (.int (nI 0)), none]) dX9_promise_13 (by decide) rfl ?_
  refine e_iconst (nI 0) dX9_promise_15 (by decide) ?_
  refine e_istore (L1 := [some (.ref 0), some (.int (nI o)), some (.int a), some (.int (nI many)), some (.int (nI 0)), some (.int (nI 0))]) dX9_promise_16 (by decide) rfl ?_
  exact l_X9_prom ok ho hm.2 many 0 0 σ (by omega) Ms Ic (by omega) h
set_option maxRecDepth 20000 in
theorem t_X9_promiseE1 {g : fGP} {d : Nat} {σ : fAH} {Q : fRes → fAH → Prop} {x : fXS} {a b c : Int32}  (Ms : fMs g σ) (ok : fOK x) (Ic : fIc σ x) (hv : ¬ (nI 0 ≤ a ∧ a < nI (dT (xD x) 2))) (rm : fnx σ + fgb σ + 1 ≤ 601024 ∧ fsu σ + 6 ≤ 7293034) (h : Q (.inr "java/util/NoSuchElementException") (fthr σ)) : fEv g (d + 1) mX9_promise 0 (fent [.ref 0, .int a, .int b, .int c] 6) [] σ Q := by
  obtain ⟨D, ⟨S, T, sd, pn, P, rn, R⟩, B, tp, pl, im, Im⟩ := x
  have hD : fWD D := ok.1
  have hW : fWS D S := ok.2.1.1
  have hC : fWC D S := ok.2.1.2.1
  have hN : fWN S 0 0 := ok.2.1.2.2.1
  have Gr : fGr σ 2 D := Ic.1
  obtain ⟨⟨m, Yr⟩, Yt⟩ : fYf σ 15 D S T sd := Ic.2.1
  have Gs := Ms.ground (k := 2) (by decide)
  have Ys := Ms.yard (k := 15) (by decide)
  obtain ⟨⟨g0, g1, g2, g3, g4, g5⟩, ⟨gn, gK⟩, ⟨gr0, gr1, gr2, gr3, gr4⟩⟩ := id Gs
  obtain ⟨⟨y0, y1, y2, y3, y4, y5, y6⟩, ⟨yn, yK⟩, ⟨yr0, yr1, yr2, yr3, yr4, yr5, yr6⟩⟩ := id Ys
  obtain ⟨t0, t1, t2, t3, t4, t5, t6⟩ := id hD.1
  have np := hW.n hD
  have n5 := hW.2.2.2.2
  have tp6 : tp ≤ 600 := ok.2.2.2.1
  have im3 : im ≤ 3 := ok.2.2.2.2.1
  have pn3 : pn ≤ 30 := ok.2.1.2.2.2.1
  have rn6 : rn ≤ 60 := ok.2.1.2.2.2.2.2.1
  have Dc : fDc σ 29 (S, T, sd, pn, P, rn, R) := Ic.2.2.1
  have w52 := hW.1
  show fEv g (d + 1) mX9_promise 0 [some (.ref 0), some (.int a), some (.int b), some (.int c), none, none] [] σ Q
  refine e_aload_n dX9_promise_0 rfl rfl ?_
  refine e_iload_n dX9_promise_1 rfl rfl ?_
  refine e_callV (k := 0) [.int a] dX9_promise_2 cc_X9_checkOrder lk_RX9_175 im_X9_checkOrder se_X9_checkOrder (by decide) (Ms.s 0 rfl) (Ms.n (by decide)) rfl (Nat.le_of_ble_eq_true rfl) (Nat.le_of_ble_eq_true rfl) ?_
  exact t_X9_checkOrderE Ms Gr hD hv rm (t_out rfl h)
set_option maxRecDepth 20000 in
theorem t_X9_promiseE2 {g : fGP} {d : Nat} {σ : fAH} {Q : fRes → fAH → Prop} {x : fXS} {o : Nat} {b c : Int32}  (Ms : fMs g σ) (ok : fOK x) (Ic : fIc σ x) (ho : o < dT (xD x) 2) (hv : ¬ (nI 1 ≤ c ∧ c ≤ nI 99)) (rm : fnx σ + fgb σ + 1 ≤ 601024 ∧ fsu σ + 6 ≤ 7293034) (h : Q (.inr "java/lang/IllegalArgumentException") (fthr σ)) : fEv g (d + 1) mX9_promise 0 (fent [.ref 0, .int (nI o), .int b, .int c] 6) [] σ Q := by
  obtain ⟨D, ⟨S, T, sd, pn, P, rn, R⟩, B, tp, pl, im, Im⟩ := x
  have hD : fWD D := ok.1
  have hW : fWS D S := ok.2.1.1
  have hC : fWC D S := ok.2.1.2.1
  have hN : fWN S 0 0 := ok.2.1.2.2.1
  have Gr : fGr σ 2 D := Ic.1
  obtain ⟨⟨m, Yr⟩, Yt⟩ : fYf σ 15 D S T sd := Ic.2.1
  have Gs := Ms.ground (k := 2) (by decide)
  have Ys := Ms.yard (k := 15) (by decide)
  obtain ⟨⟨g0, g1, g2, g3, g4, g5⟩, ⟨gn, gK⟩, ⟨gr0, gr1, gr2, gr3, gr4⟩⟩ := id Gs
  obtain ⟨⟨y0, y1, y2, y3, y4, y5, y6⟩, ⟨yn, yK⟩, ⟨yr0, yr1, yr2, yr3, yr4, yr5, yr6⟩⟩ := id Ys
  obtain ⟨t0, t1, t2, t3, t4, t5, t6⟩ := id hD.1
  have np := hW.n hD
  have n5 := hW.2.2.2.2
  have tp6 : tp ≤ 600 := ok.2.2.2.1
  have im3 : im ≤ 3 := ok.2.2.2.2.1
  have pn3 : pn ≤ 30 := ok.2.1.2.2.2.1
  have rn6 : rn ≤ 60 := ok.2.1.2.2.2.2.2.1
  have Dc : fDc σ 29 (S, T, sd, pn, P, rn, R) := Ic.2.2.1
  have w52 := hW.1
  have ho : o < dT D 2 := ho
  show fEv g (d + 1) mX9_promise 0 [some (.ref 0), some (.int (nI o)), some (.int b), some (.int c), none, none] [] σ Q
  refine e_aload_n dX9_promise_0 rfl rfl ?_
  refine e_iload_n dX9_promise_1 rfl rfl ?_
  refine e_callV (k := 0) [.int (nI o)] dX9_promise_2 cc_X9_checkOrder lk_RX9_175 im_X9_checkOrder se_X9_checkOrder (by decide) (Ms.s 0 rfl) (Ms.n (by decide)) rfl (Nat.le_of_ble_eq_true rfl) (Nat.le_of_ble_eq_true rfl) ?_
  refine t_X9_checkOrder Ms Gr hD (by omega) (fK_v ?_)
  show fEv g _ mX9_promise 5 [some (.ref 0), some (.int (nI o)), some (.int b), some (.int c), none, none] [] σ Q
  refine e_iload_n dX9_promise_5 rfl rfl ?_
  refine e_iconst (nI 1) dX9_promise_6 (by decide) ?_
  refine e_bipush (nI 99) dX9_promise_7 (by decide) ?_
  refine e_callS [.int c, .int (nI 1), .int (nI 99)] dX9_promise_9 cc_X9_checkRange lk_RX9_153 st_X9_checkRange in_RX9 rfl (Nat.le_of_ble_eq_true rfl) (Nat.le_of_ble_eq_true rfl) ?_
  exact t_X9_checkRangeE hv rm (t_out rfl h)
set_option maxRecDepth 20000 in
theorem t_X9_foresee {g : fGP} {d : Nat} {σ : fAH} {Q : fRes → fAH → Prop} {x : fXS} (Ms : fMs g σ) (ok : fOK x) (Ic : fIc σ x) (hn : (iS (xI x)) 155 < 30) (h : ∀ σ', fSm fClA σ σ' → fIc σ' x → fI σ' 0 15 = nI (mft (xD x) (iS (xI x))).2 → fJ σ' 0 16 = ob ((mft (xD x) (iS (xI x))).1.map (4096 * ·)) → Q (.inl none) σ') : fEv g (d + 9) mX9_foresee 0 (fent [.ref 0] 1) [] σ Q := by
  obtain ⟨D, ⟨S, T, sd, pn, P, rn, R⟩, B, tp, pl, im, Im⟩ := x
  have hD : fWD D := ok.1
  have hW : fWS D S := ok.2.1.1
  have hC : fWC D S := ok.2.1.2.1
  have hN : fWN S 0 0 := ok.2.1.2.2.1
  have Gr : fGr σ 2 D := Ic.1
  obtain ⟨⟨m, Yr⟩, Yt⟩ : fYf σ 15 D S T sd := Ic.2.1
  have Gs := Ms.ground (k := 2) (by decide)
  have Ys := Ms.yard (k := 15) (by decide)
  obtain ⟨⟨g0, g1, g2, g3, g4, g5⟩, ⟨gn, gK⟩, ⟨gr0, gr1, gr2, gr3, gr4⟩⟩ := id Gs
  obtain ⟨⟨y0, y1, y2, y3, y4, y5, y6⟩, ⟨yn, yK⟩, ⟨yr0, yr1, yr2, yr3, yr4, yr5, yr6⟩⟩ := id Ys
  obtain ⟨t0, t1, t2, t3, t4, t5, t6⟩ := id hD.1
  have np := hW.n hD
  have n5 := hW.2.2.2.2
  have tp6 : tp ≤ 600 := ok.2.2.2.1
  have im3 : im ≤ 3 := ok.2.2.2.2.1
  have pn3 : pn ≤ 30 := ok.2.1.2.2.2.1
  have rn6 : rn ≤ 60 := ok.2.1.2.2.2.2.2.1
  have Dc : fDc σ 29 (S, T, sd, pn, P, rn, R) := Ic.2.2.1
  have w52 := hW.1
  have hn : S 155 < 30 := hn
  rcases Ic.2.2.2.2.2.1 with f0 | ⟨f1, f2, f3, f4⟩
  · show fEv g (d + 9) mX9_foresee 0 [some (.ref 0)] [] σ Q
    refine e_aload_n dX9_foresee_0 rfl rfl ?_
    refine e_getZ dX9_foresee_1 fl_RX9_83 (Ms.s 0 rfl) (Ms.n (by decide)) rfl ?_
    refine e_int (nI 0) f0 ?_
    refine e_if_ne 39 dX9_foresee_4 (by decide) (fun c => absurd c (by decide)) (fun _ => ?_)
    refine e_aload_n dX9_foresee_7 rfl rfl ?_
    refine e_aload_n dX9_foresee_8 rfl rfl ?_
    refine e_getR (q := 34) dX9_foresee_9 fl_RX9_69 (Ms.s 0 rfl) (Ms.n (by decide)) rfl (Ms.r 0 11 rfl) (by unfold fscr; omega) ?_
    refine e_aload_n dX9_foresee_12 rfl rfl ?_
    refine e_getR (q := 15) dX9_foresee_13 fl_RX9_41 (Ms.s 0 rfl) (Ms.n (by decide)) rfl (Ms.r 0 5 rfl) (by unfold fscr; omega) ?_
    refine e_iconst (nI 2) dX9_foresee_16 (by decide) ?_
    refine e_callV (k := 34) [.ref 15, .int (nI 2)] dX9_foresee_17 cc_X2_mostOf lk_RX9_353 im_X2_mostOf se_X2_mostOf (by decide) (Ms.s 34 rfl) (Ms.n (by decide)) rfl (Nat.le_of_ble_eq_true rfl) (Nat.le_of_ble_eq_true rfl) ?_
    refine t_X2_mostOf2 Ms ww9 (fun i hi q => by unfold fF2 at q; omega) Gr hD Yr Yt hW hC hn Ic.2.2.2.2.2.2 (fun σ1 Sm1 Wx1 b1 => fK_i ?_)
    show fEv g _ mX9_foresee 20 [some (.ref 0)] [.long (ob ((mft D S).1.map (4096 * ·))), .ref 0] σ1 Q
    have Ms1 := Ms.sm Sm1
    refine e_putL dX9_foresee_20 fl_RX9_90 (Ms1.s 0 rfl) (Ms1.n (by decide)) rfl rfl ?_
    refine e_aload_n dX9_foresee_23 rfl rfl ?_
    refine e_aload_n dX9_foresee_24 rfl rfl ?_
    refine e_getR (q := 34) dX9_foresee_25 fl_RX9_69 (Ms1.s 0 rfl) (Ms1.n (by decide)) rfl (Ms1.r 0 11 rfl) (by unfold fscr; omega) ?_
    refine e_getI dX9_foresee_28 fl_RX9_357 (Ms1.s 34 rfl) (Ms1.n (by decide)) rfl ?_
    refine e_int (nI ((mft D S).2)) (by rw [fI_J]; exact b1) ?_
    refine e_putI dX9_foresee_31 fl_RX9_87 (Ms1.s 0 rfl) (Ms1.n (by decide)) rfl rfl ?_
    refine e_aload_n dX9_foresee_34 rfl rfl ?_
    refine e_iconst (nI 1) dX9_foresee_35 (by decide) ?_
    refine e_putZ dX9_foresee_36 fl_RX9_83 (Ms1.s 0 rfl) (Ms1.n (by decide)) rfl rfl (by decide) ?_
    have A1 : fSm (fun a => a = 0 ∨ fF2 a) σ (fsI (fsI (fsJ σ1 0 16 (ob ((mft D S).1.map (4096 * ·)))) 0 15 (nI ((mft D S).2))) 0 14 (nI 1)) := ((Sm1.to (fun a q => Or.inr q)).tr (fSm_J (A := fun a => a = 0 ∨ fF2 a) (Or.inl rfl))).tr ((fSm_I (A := fun a => a = 0 ∨ fF2 a) (Or.inl rfl)).tr (fSm_I (Or.inl rfl)))
    have k0 : ∀ j, fI σ1 0 j = fI σ 0 j := fun j => Sm1.i (fun q => by unfold fF2 at q; omega) j
    have e15 : fI (fsI (fsI (fsJ σ1 0 16 (ob ((mft D S).1.map (4096 * ·)))) 0 15 (nI ((mft D S).2))) 0 14 (nI 1)) 0 15 = nI (mft D S).2 := by rw [fI_I, if_neg (by omega), fI_I, if_pos ⟨rfl, rfl⟩]
    have e16 : fJ (fsI (fsI (fsJ σ1 0 16 (ob ((mft D S).1.map (4096 * ·)))) 0 15 (nI ((mft D S).2))) 0 14 (nI 1)) 0 16 = ob ((mft D S).1.map (4096 * ·)) := by rw [fJ_I, fJ_I, fJ_J, if_pos ⟨rfl, rfl⟩]
    have W9 : fWx2 (fsI (fsI (fsJ σ1 0 16 (ob ((mft D S).1.map (4096 * ·)))) 0 15 (nI ((mft D S).2))) 0 14 (nI 1)) := Wx1
    exact e_return dX9_foresee_39 rfl (h _ (A1.to (fun a q => by unfold fF2 at q; unfold fClA; omega)) (Ic.fr (tp := tp) (pl := pl) ok A1 (fun a q => by unfold fF2 at q; unfold fCsA; omega) (by rw [fI_I, if_neg (by omega), fI_I, if_neg (by omega)]; exact k0 10) (by rw [fI_I, if_neg (by omega), fI_I, if_neg (by omega)]; exact (k0 1).trans Ic.2.2.2.1.1) (by rw [fI_I, if_neg (by omega), fI_I, if_neg (by omega)]; exact (k0 2).trans Ic.2.2.2.1.2.2.1) (Or.inr ⟨by rw [fI_I, if_pos ⟨rfl, rfl⟩], hn, e15, e16⟩) W9) e15 e16)
  · show fEv g (d + 9) mX9_foresee 0 [some (.ref 0)] [] σ Q
    refine e_aload_n dX9_foresee_0 rfl rfl ?_
    refine e_getZ dX9_foresee_1 fl_RX9_83 (Ms.s 0 rfl) (Ms.n (by decide)) rfl ?_
    refine e_int (nI 1) f1 ?_
    refine e_if_ne 39 dX9_foresee_4 (by decide) (fun _ => ?_) (fun c => absurd c (by decide))
    exact e_return dX9_foresee_39 rfl (h σ fSm.rfl' Ic f3 f4)
set_option maxRecDepth 20000 in
theorem t_X9_tonight {g : fGP} {d : Nat} {σ : fAH} {Q : fRes → fAH → Prop} {x : fXS} (Ms : fMs g σ) (ok : fOK x) (Ic : fIc σ x) (hn : (iS (xI x)) 155 < 30) (h : ∀ σ', fSm fClA σ σ' → fIc σ' x → Q (.inl (some (.int (nI (mft (xD x) (iS (xI x))).2)))) σ') : fEv g (d + 10) mX9_tonight 0 (fent [.ref 0] 1) [] σ Q := by
  obtain ⟨D, ⟨S, T, sd, pn, P, rn, R⟩, B, tp, pl, im, Im⟩ := x
  have hD : fWD D := ok.1
  have hW : fWS D S := ok.2.1.1
  have hC : fWC D S := ok.2.1.2.1
  have hN : fWN S 0 0 := ok.2.1.2.2.1
  have Gr : fGr σ 2 D := Ic.1
  obtain ⟨⟨m, Yr⟩, Yt⟩ : fYf σ 15 D S T sd := Ic.2.1
  have Gs := Ms.ground (k := 2) (by decide)
  have Ys := Ms.yard (k := 15) (by decide)
  obtain ⟨⟨g0, g1, g2, g3, g4, g5⟩, ⟨gn, gK⟩, ⟨gr0, gr1, gr2, gr3, gr4⟩⟩ := id Gs
  obtain ⟨⟨y0, y1, y2, y3, y4, y5, y6⟩, ⟨yn, yK⟩, ⟨yr0, yr1, yr2, yr3, yr4, yr5, yr6⟩⟩ := id Ys
  obtain ⟨t0, t1, t2, t3, t4, t5, t6⟩ := id hD.1
  have np := hW.n hD
  have n5 := hW.2.2.2.2
  have tp6 : tp ≤ 600 := ok.2.2.2.1
  have im3 : im ≤ 3 := ok.2.2.2.2.1
  have pn3 : pn ≤ 30 := ok.2.1.2.2.2.1
  have rn6 : rn ≤ 60 := ok.2.1.2.2.2.2.2.1
  have Dc : fDc σ 29 (S, T, sd, pn, P, rn, R) := Ic.2.2.1
  have w52 := hW.1
  have hn : S 155 < 30 := hn
  show fEv g (d + 10) mX9_tonight 0 [some (.ref 0)] [] σ Q
  refine e_aload_n dX9_tonight_0 rfl rfl ?_
  refine e_callV (k := 0) [] dX9_tonight_1 cc_X9_checkNightLeft lk_RX9_207 im_X9_checkNightLeft se_X9_checkNightLeft (by decide) (Ms.s 0 rfl) (Ms.n (by decide)) rfl (Nat.le_of_ble_eq_true rfl) (Nat.le_of_ble_eq_true rfl) ?_
  refine t_X9_checkNightLeft Ms Yr n5 hn (fK_v ?_)
  show fEv g _ mX9_tonight 4 [some (.ref 0)] [] σ Q
  refine e_aload_n dX9_tonight_4 rfl rfl ?_
  refine e_callV (k := 0) [] dX9_tonight_5 cc_X9_foresee lk_RX9_278 im_X9_foresee se_X9_foresee (by decide) (Ms.s 0 rfl) (Ms.n (by decide)) rfl (Nat.le_of_ble_eq_true rfl) (Nat.le_of_ble_eq_true rfl) ?_
  refine t_X9_foresee Ms ok Ic hn (fun σ1 Sm1 Ic1 e15 e16 => fK_v ?_)
  show fEv g _ mX9_tonight 8 [some (.ref 0)] [] σ1 Q
  have Ms1 := Ms.sm Sm1
  refine e_aload_n dX9_tonight_8 rfl rfl ?_
  refine e_getI dX9_tonight_9 fl_RX9_87 (Ms1.s 0 rfl) (Ms1.n (by decide)) rfl ?_
  refine e_int (nI ((mft D S).2)) e15 ?_
  exact e_ireturn .int dX9_tonight_12 rfl rfl (h σ1 Sm1 Ic1)
set_option maxRecDepth 20000 in
theorem t_X9_tonightE {g : fGP} {d : Nat} {σ : fAH} {Q : fRes → fAH → Prop} {x : fXS}  (Ms : fMs g σ) (ok : fOK x) (Ic : fIc σ x) (hn : ¬ (iS (xI x)) 155 < 30) (rm : fnx σ + fgb σ + 1 ≤ 601024 ∧ fsu σ + 6 ≤ 7293034) (h : Q (.inr "java/lang/IllegalStateException") (fthr σ)) : fEv g (d + 1) mX9_tonight 0 (fent [.ref 0] 1) [] σ Q := by
  obtain ⟨D, ⟨S, T, sd, pn, P, rn, R⟩, B, tp, pl, im, Im⟩ := x
  have hD : fWD D := ok.1
  have hW : fWS D S := ok.2.1.1
  have hC : fWC D S := ok.2.1.2.1
  have hN : fWN S 0 0 := ok.2.1.2.2.1
  have Gr : fGr σ 2 D := Ic.1
  obtain ⟨⟨m, Yr⟩, Yt⟩ : fYf σ 15 D S T sd := Ic.2.1
  have Gs := Ms.ground (k := 2) (by decide)
  have Ys := Ms.yard (k := 15) (by decide)
  obtain ⟨⟨g0, g1, g2, g3, g4, g5⟩, ⟨gn, gK⟩, ⟨gr0, gr1, gr2, gr3, gr4⟩⟩ := id Gs
  obtain ⟨⟨y0, y1, y2, y3, y4, y5, y6⟩, ⟨yn, yK⟩, ⟨yr0, yr1, yr2, yr3, yr4, yr5, yr6⟩⟩ := id Ys
  obtain ⟨t0, t1, t2, t3, t4, t5, t6⟩ := id hD.1
  have np := hW.n hD
  have n5 := hW.2.2.2.2
  have tp6 : tp ≤ 600 := ok.2.2.2.1
  have im3 : im ≤ 3 := ok.2.2.2.2.1
  have pn3 : pn ≤ 30 := ok.2.1.2.2.2.1
  have rn6 : rn ≤ 60 := ok.2.1.2.2.2.2.2.1
  have Dc : fDc σ 29 (S, T, sd, pn, P, rn, R) := Ic.2.2.1
  have w52 := hW.1
  show fEv g (d + 1) mX9_tonight 0 [some (.ref 0)] [] σ Q
  refine e_aload_n dX9_tonight_0 rfl rfl ?_
  refine e_callV (k := 0) [] dX9_tonight_1 cc_X9_checkNightLeft lk_RX9_207 im_X9_checkNightLeft se_X9_checkNightLeft (by decide) (Ms.s 0 rfl) (Ms.n (by decide)) rfl (Nat.le_of_ble_eq_true rfl) (Nat.le_of_ble_eq_true rfl) ?_
  exact t_X9_checkNightLeftE Ms Yr n5 hn rm (t_out rfl h)
set_option maxRecDepth 20000 in
theorem t_X9_worth {g : fGP} {d : Nat} {σ : fAH} {Q : fRes → fAH → Prop} {x : fXS} {w : Nat}  (Ms : fMs g σ) (ok : fOK x) (Ic : fIc σ x) (hw : w ≤ 1) (hn : (iS (xI x)) 155 < 30) (h : ∀ σ', fSm fClA σ σ' → fIc σ' x → Q (.inl (some (.long (vWor (xD x) (iS (xI x)) w)))) σ') : fEv g (d + 10) mX9_worth 0 (fent [.ref 0, .int (nI w)] 2) [] σ Q := by
  obtain ⟨D, ⟨S, T, sd, pn, P, rn, R⟩, B, tp, pl, im, Im⟩ := x
  have hD : fWD D := ok.1
  have hW : fWS D S := ok.2.1.1
  have hC : fWC D S := ok.2.1.2.1
  have hN : fWN S 0 0 := ok.2.1.2.2.1
  have Gr : fGr σ 2 D := Ic.1
  obtain ⟨⟨m, Yr⟩, Yt⟩ : fYf σ 15 D S T sd := Ic.2.1
  have Gs := Ms.ground (k := 2) (by decide)
  have Ys := Ms.yard (k := 15) (by decide)
  obtain ⟨⟨g0, g1, g2, g3, g4, g5⟩, ⟨gn, gK⟩, ⟨gr0, gr1, gr2, gr3, gr4⟩⟩ := id Gs
  obtain ⟨⟨y0, y1, y2, y3, y4, y5, y6⟩, ⟨yn, yK⟩, ⟨yr0, yr1, yr2, yr3, yr4, yr5, yr6⟩⟩ := id Ys
  obtain ⟨t0, t1, t2, t3, t4, t5, t6⟩ := id hD.1
  have np := hW.n hD
  have n5 := hW.2.2.2.2
  have tp6 : tp ≤ 600 := ok.2.2.2.1
  have im3 : im ≤ 3 := ok.2.2.2.2.1
  have pn3 : pn ≤ 30 := ok.2.1.2.2.2.1
  have rn6 : rn ≤ 60 := ok.2.1.2.2.2.2.2.1
  have Dc : fDc σ 29 (S, T, sd, pn, P, rn, R) := Ic.2.2.1
  have w52 := hW.1
  have hn : S 155 < 30 := hn
  obtain ⟨v9, hv9⟩ := mft_some (S := S) hD
  have vl := mft_le hD hW hC hn v9 hv9
  show fEv g (d + 10) mX9_worth 0 [some (.ref 0), some (.int (nI w))] [] σ Q
  refine e_iload_n dX9_worth_0 rfl rfl ?_
  refine e_iconst (nI 0) dX9_worth_1 (by decide) ?_
  refine e_iconst (nI 1) dX9_worth_2 (by decide) ?_
  refine e_callS [.int (nI w), .int (nI 0), .int (nI 1)] dX9_worth_3 cc_X9_checkRange lk_RX9_153 st_X9_checkRange in_RX9 rfl (Nat.le_of_ble_eq_true rfl) (Nat.le_of_ble_eq_true rfl) ?_
  refine t_X9_checkRange ⟨(nI_le' (by omega) (by omega)).mpr (by omega), (nI_le' (by omega) (by omega)).mpr (by omega)⟩ (fK_v ?_)
  show fEv g _ mX9_worth 6 [some (.ref 0), some (.int (nI w))] [] σ Q
  refine e_aload_n dX9_worth_6 rfl rfl ?_
  refine e_callV (k := 0) [] dX9_worth_7 cc_X9_checkNightLeft lk_RX9_207 im_X9_checkNightLeft se_X9_checkNightLeft (by decide) (Ms.s 0 rfl) (Ms.n (by decide)) rfl (Nat.le_of_ble_eq_true rfl) (Nat.le_of_ble_eq_true rfl) ?_
  refine t_X9_checkNightLeft Ms Yr n5 hn (fK_v ?_)
  show fEv g _ mX9_worth 10 [some (.ref 0), some (.int (nI w))] [] σ Q
  refine e_aload_n dX9_worth_10 rfl rfl ?_
  refine e_callV (k := 0) [] dX9_worth_11 cc_X9_foresee lk_RX9_278 im_X9_foresee se_X9_foresee (by decide) (Ms.s 0 rfl) (Ms.n (by decide)) rfl (Nat.le_of_ble_eq_true rfl) (Nat.le_of_ble_eq_true rfl) ?_
  refine t_X9_foresee Ms ok Ic hn (fun σ1 Sm1 Ic1 e15 e16 => fK_v ?_)
  show fEv g _ mX9_worth 14 [some (.ref 0), some (.int (nI w))] [] σ1 Q
  have Ms1 := Ms.sm Sm1
  refine e_aload_n dX9_worth_14 rfl rfl ?_
  refine e_getL dX9_worth_15 fl_RX9_90 (Ms1.s 0 rfl) (Ms1.n (by decide)) rfl ?_
  refine e_long (nL (4096 * v9)) (e16.trans (by rw [hv9]; rfl)) ?_
  refine e_ldc2 (1073741824) dX9_worth_18 kc_RX9_281 ?_
  refine e_long (nL 1073741824) rfl ?_
  refine e_iload_n dX9_worth_21 rfl rfl ?_
  refine e_callS [.long (nL (4096 * v9)), .long (nL 1073741824), .int (nI w)] dX9_worth_22 cc_X9_inLeastTerms lk_RX9_283 st_X9_inLeastTerms in_RX9 rfl (Nat.le_of_ble_eq_true rfl) (Nat.le_of_ble_eq_true rfl) ?_
  refine t_X9_inLeastTerms (by omega) (by omega) (by omega) (by omega) (fK_i ?_)
  show fEv g _ mX9_worth 25 [some (.ref 0), some (.int (nI w))] [.long (nL (if w = 0 then (4096 * v9) / Nat.gcd (4096 * v9) (1073741824) else (1073741824) / Nat.gcd (4096 * v9) (1073741824)))] σ1 Q
  have h : ∀ σ', fSm fClA σ σ' → fIc σ' (D, (S, T, sd, pn, P, rn, R), B, tp, pl, im, Im) → Q (.inl (some (.long (vWor D S w)))) σ' := h
  unfold vWor at h
  rw [hv9] at h
  exact e_lreturn dX9_worth_25 rfl (h σ1 Sm1 Ic1)
set_option maxRecDepth 20000 in
theorem t_X9_worthE1 {g : fGP} {d : Nat} {σ : fAH} {Q : fRes → fAH → Prop} {x : fXS} {b : Int32}  (Ms : fMs g σ) (ok : fOK x) (Ic : fIc σ x) (hv : ¬ (nI 0 ≤ b ∧ b ≤ nI 1)) (rm : fnx σ + fgb σ + 1 ≤ 601024 ∧ fsu σ + 6 ≤ 7293034) (h : Q (.inr "java/lang/IllegalArgumentException") (fthr σ)) : fEv g (d + 1) mX9_worth 0 (fent [.ref 0, .int b] 2) [] σ Q := by
  obtain ⟨D, ⟨S, T, sd, pn, P, rn, R⟩, B, tp, pl, im, Im⟩ := x
  have hD : fWD D := ok.1
  have hW : fWS D S := ok.2.1.1
  have hC : fWC D S := ok.2.1.2.1
  have hN : fWN S 0 0 := ok.2.1.2.2.1
  have Gr : fGr σ 2 D := Ic.1
  obtain ⟨⟨m, Yr⟩, Yt⟩ : fYf σ 15 D S T sd := Ic.2.1
  have Gs := Ms.ground (k := 2) (by decide)
  have Ys := Ms.yard (k := 15) (by decide)
  obtain ⟨⟨g0, g1, g2, g3, g4, g5⟩, ⟨gn, gK⟩, ⟨gr0, gr1, gr2, gr3, gr4⟩⟩ := id Gs
  obtain ⟨⟨y0, y1, y2, y3, y4, y5, y6⟩, ⟨yn, yK⟩, ⟨yr0, yr1, yr2, yr3, yr4, yr5, yr6⟩⟩ := id Ys
  obtain ⟨t0, t1, t2, t3, t4, t5, t6⟩ := id hD.1
  have np := hW.n hD
  have n5 := hW.2.2.2.2
  have tp6 : tp ≤ 600 := ok.2.2.2.1
  have im3 : im ≤ 3 := ok.2.2.2.2.1
  have pn3 : pn ≤ 30 := ok.2.1.2.2.2.1
  have rn6 : rn ≤ 60 := ok.2.1.2.2.2.2.2.1
  have Dc : fDc σ 29 (S, T, sd, pn, P, rn, R) := Ic.2.2.1
  have w52 := hW.1
  show fEv g (d + 1) mX9_worth 0 [some (.ref 0), some (.int b)] [] σ Q
  refine e_iload_n dX9_worth_0 rfl rfl ?_
  refine e_iconst (nI 0) dX9_worth_1 (by decide) ?_
  refine e_iconst (nI 1) dX9_worth_2 (by decide) ?_
  refine e_callS [.int b, .int (nI 0), .int (nI 1)] dX9_worth_3 cc_X9_checkRange lk_RX9_153 st_X9_checkRange in_RX9 rfl (Nat.le_of_ble_eq_true rfl) (Nat.le_of_ble_eq_true rfl) ?_
  exact t_X9_checkRangeE hv rm (t_out rfl h)
set_option maxRecDepth 20000 in
theorem t_X9_worthE2 {g : fGP} {d : Nat} {σ : fAH} {Q : fRes → fAH → Prop} {x : fXS} {w : Nat}  (Ms : fMs g σ) (ok : fOK x) (Ic : fIc σ x) (hw : w ≤ 1) (hn : ¬ (iS (xI x)) 155 < 30) (rm : fnx σ + fgb σ + 1 ≤ 601024 ∧ fsu σ + 6 ≤ 7293034) (h : Q (.inr "java/lang/IllegalStateException") (fthr σ)) : fEv g (d + 1) mX9_worth 0 (fent [.ref 0, .int (nI w)] 2) [] σ Q := by
  obtain ⟨D, ⟨S, T, sd, pn, P, rn, R⟩, B, tp, pl, im, Im⟩ := x
  have hD : fWD D := ok.1
  have hW : fWS D S := ok.2.1.1
  have hC : fWC D S := ok.2.1.2.1
  have hN : fWN S 0 0 := ok.2.1.2.2.1
  have Gr : fGr σ 2 D := Ic.1
  obtain ⟨⟨m, Yr⟩, Yt⟩ : fYf σ 15 D S T sd := Ic.2.1
  have Gs := Ms.ground (k := 2) (by decide)
  have Ys := Ms.yard (k := 15) (by decide)
  obtain ⟨⟨g0, g1, g2, g3, g4, g5⟩, ⟨gn, gK⟩, ⟨gr0, gr1, gr2, gr3, gr4⟩⟩ := id Gs
  obtain ⟨⟨y0, y1, y2, y3, y4, y5, y6⟩, ⟨yn, yK⟩, ⟨yr0, yr1, yr2, yr3, yr4, yr5, yr6⟩⟩ := id Ys
  obtain ⟨t0, t1, t2, t3, t4, t5, t6⟩ := id hD.1
  have np := hW.n hD
  have n5 := hW.2.2.2.2
  have tp6 : tp ≤ 600 := ok.2.2.2.1
  have im3 : im ≤ 3 := ok.2.2.2.2.1
  have pn3 : pn ≤ 30 := ok.2.1.2.2.2.1
  have rn6 : rn ≤ 60 := ok.2.1.2.2.2.2.2.1
  have Dc : fDc σ 29 (S, T, sd, pn, P, rn, R) := Ic.2.2.1
  have w52 := hW.1
  show fEv g (d + 1) mX9_worth 0 [some (.ref 0), some (.int (nI w))] [] σ Q
  refine e_iload_n dX9_worth_0 rfl rfl ?_
  refine e_iconst (nI 0) dX9_worth_1 (by decide) ?_
  refine e_iconst (nI 1) dX9_worth_2 (by decide) ?_
  refine e_callS [.int (nI w), .int (nI 0), .int (nI 1)] dX9_worth_3 cc_X9_checkRange lk_RX9_153 st_X9_checkRange in_RX9 rfl (Nat.le_of_ble_eq_true rfl) (Nat.le_of_ble_eq_true rfl) ?_
  refine t_X9_checkRange ⟨(nI_le' (by omega) (by omega)).mpr (by omega), (nI_le' (by omega) (by omega)).mpr (by omega)⟩ (fK_v ?_)
  show fEv g _ mX9_worth 6 [some (.ref 0), some (.int (nI w))] [] σ Q
  refine e_aload_n dX9_worth_6 rfl rfl ?_
  refine e_callV (k := 0) [] dX9_worth_7 cc_X9_checkNightLeft lk_RX9_207 im_X9_checkNightLeft se_X9_checkNightLeft (by decide) (Ms.s 0 rfl) (Ms.n (by decide)) rfl (Nat.le_of_ble_eq_true rfl) (Nat.le_of_ble_eq_true rfl) ?_
  exact t_X9_checkNightLeftE Ms Yr n5 hn rm (t_out rfl h)
