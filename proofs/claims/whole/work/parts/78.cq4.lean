theorem ww9 : 15 ∈ [15, 22, 37, 46, 59, 69, 79] := by decide
theorem ww8 : 22 ∈ [15, 22, 37, 46, 59, 69, 79] := by decide
/-- a night -/
def xN (f c : Nat) (x : fXS) (z : Int32) : fXS := (xD x, ((mgo ldr (xD x) f c (iS (xI x), iT (xI x), z)).1, (mgo ldr (xD x) f c (iS (xI x), iT (xI x), z)).2.1, (mgo ldr (xD x) f c (iS (xI x), iT (xI x), z)).2.2, ipn (xI x), iP (xI x), irn (xI x), iR (xI x)), xB x, xt x, xp x, xm x, xM x)
theorem fOK.N {x : fXS} (ok : fOK x) (f c : Nat) (z : Int32) (hn : iS (xI x) 155 < 30) : fOK (xN f c x z) := by
  have k := fW_go (dr := ldr) (fill := f) (cold := c) (x := (iS (xI x), iT (xI x), z)) ok.1 ok.2.1.1 ok.2.1.2.1 ok.2.1.2.2.1 hn
  exact ⟨ok.1, ⟨k.1, k.2.1, k.2.2.1, ok.2.1.2.2.2⟩, ok.2.2⟩
theorem mdc_9 {D : fSD} (hD : fWD D) (S : Nat → Nat) (z : Int32) : (mdc D S z).1 ≤ 9 := by
  unfold mdc
  split
  · exact mco_le hD _ _ _ (by omega)
  · exact Nat.zero_le _
theorem t_X0_dup {σ : fAH} {i : fIm} {s c : Nat} (Dc : fDc σ 29 i) (hs : s ≤ 1) (hc : c ≤ 1) : fDc (fsI σ 31 (2 * s + c) (nI (mcr i (2 * s + c) + 1))) 29 (iS i, iT i, iq i, ipn i, iP i, irn i + 1, mup (iR i) (irn i) (2 * s + c)) := by
  refine ⟨Dc.1, Dc.2.1, fun q hq => ?_⟩
  rw [mcr_up]
  by_cases e : q = 2 * s + c
  · subst e
    rw [fI_I, if_pos ⟨rfl, rfl⟩, decide_eq_true rfl]
    rfl
  · rw [fI_I, if_neg (by omega), decide_eq_false (by omega)]
    exact Dc.2.2 q hq
set_option maxRecDepth 20000 in
theorem t_X0_addRecordN {g : fGP} {d : Nat} {σ : fAH} {Q : fRes → fAH → Prop} {s c : Nat} {i : fIm} {D : fSD} (Ms : fMs g σ) (hO : fOI D i) (Dc : fDc σ 29 i) (hn : irn i = 60) (h : Q (.inl (some (.int (-1)))) σ) : fEv g (d + 1) mX0_addRecord 0 (fent [.ref 29, .int (nI s), .int (nI c)] 3) [] σ Q := by
  show fEv g (d + 1) mX0_addRecord 0 [some (.ref 29), some (.int (nI s)), some (.int (nI c))] [] σ Q
  refine e_aload_n dX0_addRecord_0 rfl rfl ?_
  refine e_callV (k := 29) [] dX0_addRecord_1 cc_X0_records lk_RX0_34 im_X0_records se_X0_records (by decide) (Ms.s 29 rfl) (Ms.n (by decide)) rfl (Nat.le_of_ble_eq_true rfl) (Nat.le_of_ble_eq_true rfl) ?_
  refine t_X0_records Ms hO Dc (fK_i ?_)
  show fEv g _ mX0_addRecord 4 [some (.ref 29), some (.int (nI s)), some (.int (nI c))] [.int (nI (irn i))] σ Q
  refine e_bipush (nI 60) dX0_addRecord_4 (by decide) ?_
  refine e_icmp_lt 11 dX0_addRecord_6 (by decide) (fun c => absurd c (fun q => absurd ((nI_lt' (by omega) (by omega)).mp q) (by omega))) (fun _ => ?_)
  refine e_iconst (-1) dX0_addRecord_9 (by decide) ?_
  exact e_ireturn .int dX0_addRecord_10 rfl rfl h
set_option maxRecDepth 20000 in
theorem t_X0_addRecord {g : fGP} {d : Nat} {σ : fAH} {Q : fRes → fAH → Prop} {s c : Nat} {i : fIm} {D : fSD} (Ms : fMs g σ) (hO : fOI D i) (Dc : fDc σ 29 i) (hs : s ≤ 1) (hc : c ≤ 1) (hn : irn i < 60) (h : Q (.inl (some (.int (nI (irn i + 1))))) (fsI σ 31 (2 * s + c) (nI (mcr i (2 * s + c) + 1)))) : fEv g (d + 1) mX0_addRecord 0 (fent [.ref 29, .int (nI s), .int (nI c)] 3) [] σ Q := by
  show fEv g (d + 1) mX0_addRecord 0 [some (.ref 29), some (.int (nI s)), some (.int (nI c))] [] σ Q
  refine e_aload_n dX0_addRecord_0 rfl rfl ?_
  refine e_callV (k := 29) [] dX0_addRecord_1 cc_X0_records lk_RX0_34 im_X0_records se_X0_records (by decide) (Ms.s 29 rfl) (Ms.n (by decide)) rfl (Nat.le_of_ble_eq_true rfl) (Nat.le_of_ble_eq_true rfl) ?_
  refine t_X0_records Ms hO Dc (fK_i ?_)
  show fEv g _ mX0_addRecord 4 [some (.ref 29), some (.int (nI s)), some (.int (nI c))] [.int (nI (irn i))] σ Q
  refine e_bipush (nI 60) dX0_addRecord_4 (by decide) ?_
  refine e_icmp_lt 11 dX0_addRecord_6 (by decide) (fun _ => ?_) (fun c => absurd ((nI_lt' (by omega) (by omega)).mpr hn) c)
  refine e_aload_n dX0_addRecord_11 rfl rfl ?_
  refine e_getR (q := 31) dX0_addRecord_12 fl_RX0_19 (Ms.s 29 rfl) (Ms.n (by decide)) rfl (Ms.r 29 2 rfl) (by unfold fscr; omega) ?_
  refine e_iload_n dX0_addRecord_15 rfl rfl ?_
  refine e_iload_n dX0_addRecord_16 rfl rfl ?_
  refine e_callS [.int (nI s), .int (nI c)] dX0_addRecord_17 cc_X0_kindOf lk_RX0_38 st_X0_kindOf in_RX0 rfl (Nat.le_of_ble_eq_true rfl) (Nat.le_of_ble_eq_true rfl) ?_
  refine t_X0_kindOf (by omega) (by omega) (fK_i ?_)
  show fEv g _ mX0_addRecord 20 [some (.ref 29), some (.int (nI s)), some (.int (nI c))] [.int (nI (2 * s + c)), .ref 31] σ Q
  refine e_dup2 dX0_addRecord_20 rfl rfl ?_
  refine e_iaload (2 * s + c) dX0_addRecord_21 (Ms.s 31 rfl) (Ms.n (by decide)) rfl (by omega) (by decide) ?_
  refine e_int (nI (mcr i (2 * s + c))) (Dc.2.2 (2 * s + c) (by omega)) ?_
  refine e_iconst (nI 1) dX0_addRecord_22 (by decide) ?_
  refine e_iadd dX0_addRecord_23 ?_
  refine e_int (nI (mcr i (2 * s + c) + 1)) (nI_add (mcr i (2 * s + c)) 1) ?_
  refine e_iastore (2 * s + c) dX0_addRecord_24 (Ms.s 31 rfl) (Ms.n (by decide)) rfl (by omega) (by decide) ?_
  refine e_aload_n dX0_addRecord_25 rfl rfl ?_
  have Dc9 : fDc (fsI σ 31 (2 * s + c) (nI (mcr i (2 * s + c) + 1))) 29 (iS i, iT i, iq i, ipn i, iP i, irn i + 1, mup (iR i) (irn i) (2 * s + c)) := t_X0_dup Dc hs hc
  have hO9 : fOI D (iS i, iT i, iq i, ipn i, iP i, irn i + 1, mup (iR i) (irn i) (2 * s + c)) := ⟨hO.1, hO.2.1, hO.2.2.1, hO.2.2.2.1, hO.2.2.2.2.1, (show irn i + 1 ≤ 60 by omega), fun j => by have := hO.2.2.2.2.2.2 j; show mup (iR i) (irn i) (2 * s + c) j < 4; unfold mup; split <;> omega⟩
  refine e_callV (k := 29) [] dX0_addRecord_26 cc_X0_records lk_RX0_34 im_X0_records se_X0_records (by decide) (Ms.s 29 rfl) (Ms.n (by decide)) rfl (Nat.le_of_ble_eq_true rfl) (Nat.le_of_ble_eq_true rfl) ?_
  refine t_X0_records (i := (iS i, iT i, iq i, ipn i, iP i, irn i + 1, mup (iR i) (irn i) (2 * s + c))) Ms hO9 Dc9 (fK_i ?_)
  show fEv g _ mX0_addRecord 29 [some (.ref 29), some (.int (nI s)), some (.int (nI c))] [.int (nI (irn i + 1))] (fsI σ 31 (2 * s + c) (nI (mcr i (2 * s + c) + 1))) Q
  exact e_ireturn .int dX0_addRecord_29 rfl rfl h
set_option maxRecDepth 20000 in
theorem t_X9_thumbN {g : fGP} {d : Nat} {σ : fAH} {Q : fRes → fAH → Prop} {x : fXS} {s c : Nat}  (Ms : fMs g σ) (ok : fOK x) (Ic : fIc σ x) (hr9 : irn (xI x) = 60) (h : Q (.inl (some (.int (-1)))) σ) : fEv g (d + 2) mX9_thumb 0 (fent [.ref 0, .int (nI s), .int (nI c)] 3) [] σ Q := by
  obtain ⟨D, ⟨S, T, sd, pn, P, rn, R⟩, B, tp, pl, im, Im⟩ := x
  have hD : fWD D := ok.1
  have hW : fWS D S := ok.2.1.1
  have hC : fWC D S := ok.2.1.2.1
  have hN : fWN S 0 0 := ok.2.1.2.2.1
  have Gr : fGr σ 2 D := Ic.1
  obtain ⟨⟨m, Yr⟩, Yt⟩ : fYf σ 15 D S T sd := Ic.2.1
  have Gs := Ms.ground (k := 2) (by decide)
  have Ys := Ms.yard (k := 15) (by decide)
  obtain ⟨⟨g0, g1, g2, g3, g4, g5⟩, ⟨gn, gK⟩, ⟨gr0, gr1, gr2, gr3, gr4⟩⟩ := id Gs
  obtain ⟨⟨y0, y1, y2, y3, y4, y5, y6⟩, ⟨yn, yK⟩, ⟨yr0, yr1, yr2, yr3, yr4, yr5, yr6⟩⟩ := id Ys
  obtain ⟨t0, t1, t2, t3, t4, t5, t6⟩ := id hD.1
  have np := hW.n hD
  have n5 := hW.2.2.2.2
  have tp6 : tp ≤ 600 := ok.2.2.2.1
  have im3 : im ≤ 3 := ok.2.2.2.2.1
  have pn3 : pn ≤ 30 := ok.2.1.2.2.2.1
  have rn6 : rn ≤ 60 := ok.2.1.2.2.2.2.2.1
  have Dc : fDc σ 29 (S, T, sd, pn, P, rn, R) := Ic.2.2.1
  have w52 := hW.1
  have hO : fOI D (S, T, sd, pn, P, rn, R) := ok.2.1
  have ms : mcr (S, T, sd, pn, P, rn, R) 0 + mcr (S, T, sd, pn, P, rn, R) 1 + mcr (S, T, sd, pn, P, rn, R) 2 + mcr (S, T, sd, pn, P, rn, R) 3 = rn := mcr_sum hO
  show fEv g (d + 2) mX9_thumb 0 [some (.ref 0), some (.int (nI s)), some (.int (nI c))] [] σ Q
  refine e_aload_n dX9_thumb_0 rfl rfl ?_
  refine e_getR (q := 29) dX9_thumb_1 fl_RX9_51 (Ms.s 0 rfl) (Ms.n (by decide)) rfl (Ms.r 0 7 rfl) (by unfold fscr; omega) ?_
  refine e_iload_n dX9_thumb_4 rfl rfl ?_
  refine e_iload_n dX9_thumb_5 rfl rfl ?_
  refine e_callV (k := 29) [.int (nI s), .int (nI c)] dX9_thumb_6 cc_X0_addRecord lk_RX9_304 im_X0_addRecord se_X0_addRecord (by decide) (Ms.s 29 rfl) (Ms.n (by decide)) rfl (Nat.le_of_ble_eq_true rfl) (Nat.le_of_ble_eq_true rfl) ?_
  refine t_X0_addRecordN Ms hO Dc hr9 (fK_i ?_)
  show fEv g _ mX9_thumb 9 [some (.ref 0), some (.int (nI s)), some (.int (nI c))] [.int ((-1))] σ Q
  exact e_ireturn .int dX9_thumb_9 rfl rfl h
set_option maxRecDepth 20000 in
theorem t_X9_thumb {g : fGP} {d : Nat} {σ : fAH} {Q : fRes → fAH → Prop} {x : fXS} {s c : Nat}  (Ms : fMs g σ) (ok : fOK x) (Ic : fIc σ x) (hs : s ≤ 1) (hc : c ≤ 1) (hr9 : irn (xI x) < 60) (h : ∀ σ', fSm fClA σ σ' → fIc σ' ((xD x, (iS (xI x), iT (xI x), iq (xI x), ipn (xI x), iP (xI x), irn (xI x) + 1, mup (iR (xI x)) (irn (xI x)) (2 * s + c)), xB x, xt x, xp x, xm x, xM x)) → Q (.inl (some (.int (nI (irn (xI x) + 1))))) σ') : fEv g (d + 2) mX9_thumb 0 (fent [.ref 0, .int (nI s), .int (nI c)] 3) [] σ Q := by
  obtain ⟨D, ⟨S, T, sd, pn, P, rn, R⟩, B, tp, pl, im, Im⟩ := x
  have hD : fWD D := ok.1
  have hW : fWS D S := ok.2.1.1
  have hC : fWC D S := ok.2.1.2.1
  have hN : fWN S 0 0 := ok.2.1.2.2.1
  have Gr : fGr σ 2 D := Ic.1
  obtain ⟨⟨m, Yr⟩, Yt⟩ : fYf σ 15 D S T sd := Ic.2.1
  have Gs := Ms.ground (k := 2) (by decide)
  have Ys := Ms.yard (k := 15) (by decide)
  obtain ⟨⟨g0, g1, g2, g3, g4, g5⟩, ⟨gn, gK⟩, ⟨gr0, gr1, gr2, gr3, gr4⟩⟩ := id Gs
  obtain ⟨⟨y0, y1, y2, y3, y4, y5, y6⟩, ⟨yn, yK⟩, ⟨yr0, yr1, yr2, yr3, yr4, yr5, yr6⟩⟩ := id Ys
  obtain ⟨t0, t1, t2, t3, t4, t5, t6⟩ := id hD.1
  have np := hW.n hD
  have n5 := hW.2.2.2.2
  have tp6 : tp ≤ 600 := ok.2.2.2.1
  have im3 : im ≤ 3 := ok.2.2.2.2.1
  have pn3 : pn ≤ 30 := ok.2.1.2.2.2.1
  have rn6 : rn ≤ 60 := ok.2.1.2.2.2.2.2.1
  have Dc : fDc σ 29 (S, T, sd, pn, P, rn, R) := Ic.2.2.1
  have w52 := hW.1
  have hO : fOI D (S, T, sd, pn, P, rn, R) := ok.2.1
  have ms : mcr (S, T, sd, pn, P, rn, R) 0 + mcr (S, T, sd, pn, P, rn, R) 1 + mcr (S, T, sd, pn, P, rn, R) 2 + mcr (S, T, sd, pn, P, rn, R) 3 = rn := mcr_sum hO
  show fEv g (d + 2) mX9_thumb 0 [some (.ref 0), some (.int (nI s)), some (.int (nI c))] [] σ Q
  refine e_aload_n dX9_thumb_0 rfl rfl ?_
  refine e_getR (q := 29) dX9_thumb_1 fl_RX9_51 (Ms.s 0 rfl) (Ms.n (by decide)) rfl (Ms.r 0 7 rfl) (by unfold fscr; omega) ?_
  refine e_iload_n dX9_thumb_4 rfl rfl ?_
  refine e_iload_n dX9_thumb_5 rfl rfl ?_
  refine e_callV (k := 29) [.int (nI s), .int (nI c)] dX9_thumb_6 cc_X0_addRecord lk_RX9_304 im_X0_addRecord se_X0_addRecord (by decide) (Ms.s 29 rfl) (Ms.n (by decide)) rfl (Nat.le_of_ble_eq_true rfl) (Nat.le_of_ble_eq_true rfl) ?_
  refine t_X0_addRecord Ms hO Dc hs hc hr9 (fK_i ?_)
  show fEv g _ mX9_thumb 9 [some (.ref 0), some (.int (nI s)), some (.int (nI c))] [.int (nI (rn + 1))] (fsI σ 31 (2 * s + c) (nI (mcr (S, T, sd, pn, P, rn, R) (2 * s + c) + 1))) Q
  have sm9 : fSm (fun q => q = 31) σ (fsI σ 31 (2 * s + c) (nI (mcr (S, T, sd, pn, P, rn, R) (2 * s + c) + 1))) := fSm_I rfl
  exact e_ireturn .int dX9_thumb_9 rfl rfl (h _ (fSm_I (A := fClA) (by unfold fClA; omega)) (Ic.cur (i := (S, T, sd, pn, P, rn + 1, mup R rn (2 * s + c))) ok sm9 (fun q (e : q = 31) => by omega) (fun j _ => by rw [fI_I, if_neg (by omega)]) ⟨⟨m, Yr⟩, Yt⟩ (t_X0_dup (i := (S, T, sd, pn, P, rn, R)) Dc hs hc) Ic.2.2.2.2.2.1 (Ic.2.2.2.2.2.2.sm sm9 (fun q (e : q = 31) => by omega))))
set_option maxRecDepth 20000 in
theorem t_X9_tower {g : fGP} {d : Nat} {σ : fAH} {Q : fRes → fAH → Prop} {x : fXS} (Ms : fMs g σ) (ok : fOK x) (Ic : fIc σ x) (h : ∀ σ' R, fSm fClA σ σ' → fIc σ' x → mTop (iS (xI x)) R → R ≤ 18 → Q (.inl (some (.int (nI R)))) σ') : fEv g (d + 2) mX9_tower 0 (fent [.ref 0] 1) [] σ Q := by
  obtain ⟨D, ⟨S, T, sd, pn, P, rn, R⟩, B, tp, pl, im, Im⟩ := x
  have hD : fWD D := ok.1
  have hW : fWS D S := ok.2.1.1
  have hC : fWC D S := ok.2.1.2.1
  have hN : fWN S 0 0 := ok.2.1.2.2.1
  have Gr : fGr σ 2 D := Ic.1
  obtain ⟨⟨m, Yr⟩, Yt⟩ : fYf σ 15 D S T sd := Ic.2.1
  have Gs := Ms.ground (k := 2) (by decide)
  have Ys := Ms.yard (k := 15) (by decide)
  obtain ⟨⟨g0, g1, g2, g3, g4, g5⟩, ⟨gn, gK⟩, ⟨gr0, gr1, gr2, gr3, gr4⟩⟩ := id Gs
  obtain ⟨⟨y0, y1, y2, y3, y4, y5, y6⟩, ⟨yn, yK⟩, ⟨yr0, yr1, yr2, yr3, yr4, yr5, yr6⟩⟩ := id Ys
  obtain ⟨t0, t1, t2, t3, t4, t5, t6⟩ := id hD.1
  have np := hW.n hD
  have n5 := hW.2.2.2.2
  have tp6 : tp ≤ 600 := ok.2.2.2.1
  have im3 : im ≤ 3 := ok.2.2.2.2.1
  have pn3 : pn ≤ 30 := ok.2.1.2.2.2.1
  have rn6 : rn ≤ 60 := ok.2.1.2.2.2.2.2.1
  have Dc : fDc σ 29 (S, T, sd, pn, P, rn, R) := Ic.2.2.1
  have w52 := hW.1
  show fEv g (d + 2) mX9_tower 0 [some (.ref 0)] [] σ Q
  refine e_aload_n dX9_tower_0 rfl rfl ?_
  refine e_getR (q := 55) dX9_tower_1 fl_RX9_76 (Ms.s 0 rfl) (Ms.n (by decide)) rfl (Ms.r 0 12 rfl) (by unfold fscr; omega) ?_
  refine e_aload_n dX9_tower_4 rfl rfl ?_
  refine e_getR (q := 15) dX9_tower_5 fl_RX9_41 (Ms.s 0 rfl) (Ms.n (by decide)) rfl (Ms.r 0 5 rfl) (by unfold fscr; omega) ?_
  refine e_callV (k := 55) [.ref 15] dX9_tower_8 cc_X6_highest lk_RX9_319 im_X6_highest se_X6_highest (by decide) (Ms.s 55 rfl) (Ms.n (by decide)) rfl (Nat.le_of_ble_eq_true rfl) (Nat.le_of_ble_eq_true rfl) ?_
  refine t_X6_highest Ms ww9 hD Yr hW (fun σ1 R9 Sm1 hT1 hR1 => fK_i ?_)
  show fEv g _ mX9_tower 11 [some (.ref 0)] [.int (nI R9)] σ1 Q
  exact e_ireturn .int dX9_tower_11 rfl rfl (h σ1 R9 (Sm1.to (fun a q => by unfold fTwA at q; unfold fClA; omega)) (Ic.f1 ok Sm1 (fun a q => by unfold fTwA at q; omega)) hT1 hR1)
set_option maxRecDepth 20000 in
theorem t_X9_checkFill {g : fGP} {d : Nat} {σ : fAH} {Q : fRes → fAH → Prop} {f : Nat} {D : fSD} {S : Nat → Nat} {m : Nat} {sd : Int32} (Ms : fMs g σ) (Gr : fGr σ 2 D) (Yr : fYr σ 15 D S m sd) (hD : fWD D) (hW : fWS D S) (hf : f < 4096) (hv1 : nI f &&& (nI (mfa (mal D S) 12 (dT D 1) 0 0) ^^^ (-1)) = 0) (hv2 : mon f 12 0 ≤ dT D 3) (h : Q (.inl none) σ) : fEv g (d + 4) mX9_checkFill 0 (fent [.ref 0, .int (nI f)] 2) [] σ Q := by
  have Gs := Ms.ground (k := 2) (by decide)
  have Ys := Ms.yard (k := 15) (by decide)
  obtain ⟨⟨g0, g1, g2, g3, g4, g5⟩, ⟨gn, gK⟩, ⟨gr0, gr1, gr2, gr3, gr4⟩⟩ := id Gs
  obtain ⟨⟨y0, y1, y2, y3, y4, y5, y6⟩, ⟨yn, yK⟩, ⟨yr0, yr1, yr2, yr3, yr4, yr5, yr6⟩⟩ := id Ys
  obtain ⟨t0, t1, t2, t3, t4, t5, t6⟩ := id hD.1
  show fEv g (d + 4) mX9_checkFill 0 [some (.ref 0), some (.int (nI f))] [] σ Q
  refine e_iload_n dX9_checkFill_0 rfl rfl ?_
  refine e_aload_n dX9_checkFill_1 rfl rfl ?_
  refine e_getR (q := 15) dX9_checkFill_2 fl_RX9_41 (Ms.s 0 rfl) (Ms.n (by decide)) rfl (Ms.r 0 5 rfl) (by unfold fscr; omega) ?_
  refine e_bipush (nI 12) dX9_checkFill_5 (by decide) ?_
  refine e_callV (k := 15) [.int (nI 12)] dX9_checkFill_7 cc_X8_firstAlive lk_RX9_243 im_X8_firstAlive se_X8_firstAlive (by decide) y0 (show 15 < fnx σ by omega) rfl (Nat.le_of_ble_eq_true rfl) (Nat.le_of_ble_eq_true rfl) ?_
  refine t_X8_firstAlive Gs Gr hD Ys Yr hW (by omega) (fK_i ?_)
  show fEv g _ mX9_checkFill 10 [some (.ref 0), some (.int (nI f))] [.int (nI (mfa (mal D S) 12 (dT D 1) 0 0)), .int (nI f)] σ Q
  refine e_iconst (-1) dX9_checkFill_10 (by decide) ?_
  refine e_ixor dX9_checkFill_11 ?_
  refine e_iand dX9_checkFill_12 ?_
  refine e_if_eq 27 dX9_checkFill_13 (by decide) (fun _ => ?_) (fun c => absurd hv1 c)
  refine e_iload_n dX9_checkFill_27 rfl rfl ?_
  refine e_callS [.int (nI f)] dX9_checkFill_28 cc_J6_bitCount_0f7a4 lk_RX9_287 st_J6_bitCount_0f7a4 in_RJ6 rfl (Nat.le_of_ble_eq_true rfl) (Nat.le_of_ble_eq_true rfl) ?_
  refine t_J6_bitCount (by omega) (fK_i ?_)
  show fEv g _ mX9_checkFill 31 [some (.ref 0), some (.int (nI f))] [.int (nI (mon f 12 0))] σ Q
  refine e_aload_n dX9_checkFill_31 rfl rfl ?_
  refine e_getR (q := 2) dX9_checkFill_32 fl_RX9_23 (Ms.s 0 rfl) (Ms.n (by decide)) rfl (Ms.r 0 3 rfl) (by unfold fscr; omega) ?_
  refine e_getI dX9_checkFill_35 fl_RX9_133 g0 (show 2 < fnx σ by omega) rfl ?_
  refine e_int (nI (dT D 3)) Gr.1.2.2.2.2.1 ?_
  refine e_icmp_le 52 dX9_checkFill_38 (by decide) (fun _ => ?_) (fun c => absurd ((nI_le' (by omega) (by omega)).mpr hv2) c)
  exact e_return dX9_checkFill_52 rfl h
set_option maxRecDepth 20000 in
theorem t_X9_checkFillE1 {g : fGP} {d : Nat} {σ : fAH} {Q : fRes → fAH → Prop} {a : Int32} {D : fSD} {S : Nat → Nat} {m : Nat} {sd : Int32} (Ms : fMs g σ) (Gr : fGr σ 2 D) (Yr : fYr σ 15 D S m sd) (hD : fWD D) (hW : fWS D S) (hv1 : ¬ a &&& (nI (mfa (mal D S) 12 (dT D 1) 0 0) ^^^ (-1)) = 0) (rm : fnx σ + fgb σ + 1 ≤ 601024 ∧ fsu σ + 6 ≤ 7293034) (h : Q (.inr "java/lang/IllegalArgumentException") (fthr σ)) : fEv g (d + 4) mX9_checkFill 0 (fent [.ref 0, .int a] 2) [] σ Q := by
  have Gs := Ms.ground (k := 2) (by decide)
  have Ys := Ms.yard (k := 15) (by decide)
  obtain ⟨⟨g0, g1, g2, g3, g4, g5⟩, ⟨gn, gK⟩, ⟨gr0, gr1, gr2, gr3, gr4⟩⟩ := id Gs
  obtain ⟨⟨y0, y1, y2, y3, y4, y5, y6⟩, ⟨yn, yK⟩, ⟨yr0, yr1, yr2, yr3, yr4, yr5, yr6⟩⟩ := id Ys
  obtain ⟨t0, t1, t2, t3, t4, t5, t6⟩ := id hD.1
  show fEv g (d + 4) mX9_checkFill 0 [some (.ref 0), some (.int a)] [] σ Q
  refine e_iload_n dX9_checkFill_0 rfl rfl ?_
  refine e_aload_n dX9_checkFill_1 rfl rfl ?_
  refine e_getR (q := 15) dX9_checkFill_2 fl_RX9_41 (Ms.s 0 rfl) (Ms.n (by decide)) rfl (Ms.r 0 5 rfl) (by unfold fscr; omega) ?_
  refine e_bipush (nI 12) dX9_checkFill_5 (by decide) ?_
  refine e_callV (k := 15) [.int (nI 12)] dX9_checkFill_7 cc_X8_firstAlive lk_RX9_243 im_X8_firstAlive se_X8_firstAlive (by decide) y0 (show 15 < fnx σ by omega) rfl (Nat.le_of_ble_eq_true rfl) (Nat.le_of_ble_eq_true rfl) ?_
  refine t_X8_firstAlive Gs Gr hD Ys Yr hW (by omega) (fK_i ?_)
  show fEv g _ mX9_checkFill 10 [some (.ref 0), some (.int a)] [.int (nI (mfa (mal D S) 12 (dT D 1) 0 0)), .int a] σ Q
  refine e_iconst (-1) dX9_checkFill_10 (by decide) ?_
  refine e_ixor dX9_checkFill_11 ?_
  refine e_iand dX9_checkFill_12 ?_
  refine e_if_eq 27 dX9_checkFill_13 (by decide) (fun c => absurd c hv1) (fun _ => ?_)
  exact e_throwSW rfl rfl tw_A (fstr_m 6 rfl) dX9_checkFill_16 dX9_checkFill_19 dX9_checkFill_20 dX9_checkFill_23 dX9_checkFill_26 (Nat.le_of_ble_eq_true rfl) rm.1 rm.2 h
set_option maxRecDepth 20000 in
theorem t_X9_checkFillE2 {g : fGP} {d : Nat} {σ : fAH} {Q : fRes → fAH → Prop} {f : Nat} {D : fSD} {S : Nat → Nat} {m : Nat} {sd : Int32} (Ms : fMs g σ) (Gr : fGr σ 2 D) (Yr : fYr σ 15 D S m sd) (hD : fWD D) (hW : fWS D S) (hf : f < 4096) (hv1 : nI f &&& (nI (mfa (mal D S) 12 (dT D 1) 0 0) ^^^ (-1)) = 0) (hv2 : ¬ mon f 12 0 ≤ dT D 3) (rm : fnx σ + fgb σ + 1 ≤ 601024 ∧ fsu σ + 6 ≤ 7293034) (h : Q (.inr "java/lang/IllegalArgumentException") (fthr σ)) : fEv g (d + 4) mX9_checkFill 0 (fent [.ref 0, .int (nI f)] 2) [] σ Q := by
  have Gs := Ms.ground (k := 2) (by decide)
  have Ys := Ms.yard (k := 15) (by decide)
  obtain ⟨⟨g0, g1, g2, g3, g4, g5⟩, ⟨gn, gK⟩, ⟨gr0, gr1, gr2, gr3, gr4⟩⟩ := id Gs
  obtain ⟨⟨y0, y1, y2, y3, y4, y5, y6⟩, ⟨yn, yK⟩, ⟨yr0, yr1, yr2, yr3, yr4, yr5, yr6⟩⟩ := id Ys
  obtain ⟨t0, t1, t2, t3, t4, t5, t6⟩ := id hD.1
  show fEv g (d + 4) mX9_checkFill 0 [some (.ref 0), some (.int (nI f))] [] σ Q
  refine e_iload_n dX9_checkFill_0 rfl rfl ?_
  refine e_aload_n dX9_checkFill_1 rfl rfl ?_
  refine e_getR (q := 15) dX9_checkFill_2 fl_RX9_41 (Ms.s 0 rfl) (Ms.n (by decide)) rfl (Ms.r 0 5 rfl) (by unfold fscr; omega) ?_
  refine e_bipush (nI 12) dX9_checkFill_5 (by decide) ?_
  refine e_callV (k := 15) [.int (nI 12)] dX9_checkFill_7 cc_X8_firstAlive lk_RX9_243 im_X8_firstAlive se_X8_firstAlive (by decide) y0 (show 15 < fnx σ by omega) rfl (Nat.le_of_ble_eq_true rfl) (Nat.le_of_ble_eq_true rfl) ?_
  refine t_X8_firstAlive Gs Gr hD Ys Yr hW (by omega) (fK_i ?_)
  show fEv g _ mX9_checkFill 10 [some (.ref 0), some (.int (nI f))] [.int (nI (mfa (mal D S) 12 (dT D 1) 0 0)), .int (nI f)] σ Q
  refine e_iconst (-1) dX9_checkFill_10 (by decide) ?_
  refine e_ixor dX9_checkFill_11 ?_
  refine e_iand dX9_checkFill_12 ?_
  refine e_if_eq 27 dX9_checkFill_13 (by decide) (fun _ => ?_) (fun c => absurd hv1 c)
  refine e_iload_n dX9_checkFill_27 rfl rfl ?_
  refine e_callS [.int (nI f)] dX9_checkFill_28 cc_J6_bitCount_0f7a4 lk_RX9_287 st_J6_bitCount_0f7a4 in_RJ6 rfl (Nat.le_of_ble_eq_true rfl) (Nat.le_of_ble_eq_true rfl) ?_
  refine t_J6_bitCount (by omega) (fK_i ?_)
  show fEv g _ mX9_checkFill 31 [some (.ref 0), some (.int (nI f))] [.int (nI (mon f 12 0))] σ Q
  refine e_aload_n dX9_checkFill_31 rfl rfl ?_
  refine e_getR (q := 2) dX9_checkFill_32 fl_RX9_23 (Ms.s 0 rfl) (Ms.n (by decide)) rfl (Ms.r 0 3 rfl) (by unfold fscr; omega) ?_
  refine e_getI dX9_checkFill_35 fl_RX9_133 g0 (show 2 < fnx σ by omega) rfl ?_
  refine e_int (nI (dT D 3)) Gr.1.2.2.2.2.1 ?_
  refine e_icmp_le 52 dX9_checkFill_38 (by decide) (fun c => absurd c (fun q => hv2 ((nI_le' (by have := mon_le (b := f) 12 0; omega) (by omega)).mp q))) (fun _ => ?_)
  exact e_throwSW rfl rfl tw_A (fstr_m 7 rfl) dX9_checkFill_41 dX9_checkFill_44 dX9_checkFill_45 dX9_checkFill_48 dX9_checkFill_51 (Nat.le_of_ble_eq_true rfl) rm.1 rm.2 h
set_option maxRecDepth 20000 in
theorem t_X9_nightD {g : fGP} {d : Nat} {σ : fAH} {Q : fRes → fAH → Prop} {x : fXS} {f : Nat}  (Ms : fMs g σ) (ok : fOK x) (Ic : fIc σ x) (hf : f < 4096) (hv1 : nI f &&& (nI (mfa (mal (xD x) (iS (xI x))) 12 (dT (xD x) 1) 0 0) ^^^ (-1)) = 0) (hv2 : mon f 12 0 ≤ dT (xD x) 3) (hn : (iS (xI x)) 155 < 30) (h : ∀ σ', fSm fClA σ σ' → fIc σ' ((xN f (mdc (xD x) (iS (xI x)) (iq (xI x))).1 x (mdc (xD x) (iS (xI x)) (iq (xI x))).2)) → Q (.inl (some (.int (nI ((mgo ldr (xD x) f (mdc (xD x) (iS (xI x)) (iq (xI x))).1 ((iS (xI x)), (iT (xI x)), (mdc (xD x) (iS (xI x)) (iq (xI x))).2)).1 152) - nI ((iS (xI x)) 152))))) σ') : fEv g (d + 5) mX9_night 0 (fent [.ref 0, .int (nI f), .int ((-1))] 4) [] σ Q := by
  obtain ⟨D, ⟨S, T, sd, pn, P, rn, R⟩, B, tp, pl, im, Im⟩ := x
  have hD : fWD D := ok.1
  have hW : fWS D S := ok.2.1.1
  have hC : fWC D S := ok.2.1.2.1
  have hN : fWN S 0 0 := ok.2.1.2.2.1
  have Gr : fGr σ 2 D := Ic.1
  obtain ⟨⟨m, Yr⟩, Yt⟩ : fYf σ 15 D S T sd := Ic.2.1
  have Gs := Ms.ground (k := 2) (by decide)
  have Ys := Ms.yard (k := 15) (by decide)
  obtain ⟨⟨g0, g1, g2, g3, g4, g5⟩, ⟨gn, gK⟩, ⟨gr0, gr1, gr2, gr3, gr4⟩⟩ := id Gs
  obtain ⟨⟨y0, y1, y2, y3, y4, y5, y6⟩, ⟨yn, yK⟩, ⟨yr0, yr1, yr2, yr3, yr4, yr5, yr6⟩⟩ := id Ys
  obtain ⟨t0, t1, t2, t3, t4, t5, t6⟩ := id hD.1
  have np := hW.n hD
  have n5 := hW.2.2.2.2
  have tp6 : tp ≤ 600 := ok.2.2.2.1
  have im3 : im ≤ 3 := ok.2.2.2.2.1
  have pn3 : pn ≤ 30 := ok.2.1.2.2.2.1
  have rn6 : rn ≤ 60 := ok.2.1.2.2.2.2.2.1
  have Dc : fDc σ 29 (S, T, sd, pn, P, rn, R) := Ic.2.2.1
  have w52 := hW.1
  have hn : S 155 < 30 := hn
  show fEv g (d + 5) mX9_night 0 [some (.ref 0), some (.int (nI f)), some (.int ((-1))), none] [] σ Q
  refine e_aload_n dX9_night_0 rfl rfl ?_
  refine e_iload_n dX9_night_1 rfl rfl ?_
  refine e_callV (k := 0) [.int (nI f)] dX9_night_2 cc_X9_checkFill lk_RX9_204 im_X9_checkFill se_X9_checkFill (by decide) (Ms.s 0 rfl) (Ms.n (by decide)) rfl (Nat.le_of_ble_eq_true rfl) (Nat.le_of_ble_eq_true rfl) ?_
  refine t_X9_checkFill Ms Gr Yr hD hW hf hv1 hv2 (fK_v ?_)
  show fEv g _ mX9_night 5 [some (.ref 0), some (.int (nI f)), some (.int ((-1))), none] [] σ Q
  refine e_iload_n dX9_night_5 rfl rfl ?_
  refine e_iconst (-1) dX9_night_6 (by decide) ?_
  refine e_bipush (nI 9) dX9_night_7 (by decide) ?_
  refine e_callS [.int ((-1)), .int ((-1)), .int (nI 9)] dX9_night_9 cc_X9_checkRange lk_RX9_153 st_X9_checkRange in_RX9 rfl (Nat.le_of_ble_eq_true rfl) (Nat.le_of_ble_eq_true rfl) ?_
  refine t_X9_checkRange (by decide) (fK_v ?_)
  show fEv g _ mX9_night 12 [some (.ref 0), some (.int (nI f)), some (.int ((-1))), none] [] σ Q
  refine e_aload_n dX9_night_12 rfl rfl ?_
  refine e_callV (k := 0) [] dX9_night_13 cc_X9_checkNightLeft lk_RX9_207 im_X9_checkNightLeft se_X9_checkNightLeft (by decide) (Ms.s 0 rfl) (Ms.n (by decide)) rfl (Nat.le_of_ble_eq_true rfl) (Nat.le_of_ble_eq_true rfl) ?_
  refine t_X9_checkNightLeft Ms Yr n5 hn (fK_v ?_)
  show fEv g _ mX9_night 16 [some (.ref 0), some (.int (nI f)), some (.int ((-1))), none] [] σ Q
  refine e_aload_n dX9_night_16 rfl rfl ?_
  refine e_iconst (nI 0) dX9_night_17 (by decide) ?_
  refine e_putZ dX9_night_18 fl_RX9_83 (Ms.s 0 rfl) (Ms.n (by decide)) rfl rfl (by decide) ?_
  refine e_iload_n dX9_night_21 rfl rfl ?_
  refine e_iconst (-1) dX9_night_22 (by decide) ?_
  refine e_icmp_ne 36 dX9_night_23 (by decide) (fun c => absurd rfl c) (fun _ => ?_)
  refine e_aload_n dX9_night_26 rfl rfl ?_
  refine e_getR (q := 15) dX9_night_27 fl_RX9_41 (Ms.s 0 rfl) (Ms.n (by decide)) rfl (Ms.r 0 5 rfl) (by unfold fscr; omega) ?_
  refine e_callV (k := 15) [] dX9_night_30 cc_X8_drawCold lk_RX9_210 im_X8_drawCold se_X8_drawCold (by decide) y0 (show 15 < fnx σ by omega) rfl (Nat.le_of_ble_eq_true rfl) (Nat.le_of_ble_eq_true rfl) ?_
  refine t_X8_drawCold (σ := fsI σ 0 14 (nI 0)) Ms ww9 Gr hD Yr Yt hW hC hn (fun σ1 Sm1 Yf1 => fK_i ?_)
  show fEv g _ mX9_night 33 [some (.ref 0), some (.int (nI f)), some (.int ((-1))), none] [.int (nI ((mdc D S sd).1))] σ1 Q
  refine e_goto 37 dX9_night_33 (by decide) ?_
  have Ms1 := (show fMs g (fsI σ 0 14 (nI 0)) from Ms).sm Sm1
  have Gr1 : fGr σ1 2 D := (show fGr (fsI σ 0 14 (nI 0)) 2 D from Gr).y Sm1 ww9
  refine e_istore_n (L1 := [some (.ref 0), some (.int (nI f)), some (.int ((-1))), some (.int (nI ((mdc D S sd).1)))]) dX9_night_37 rfl (by decide) rfl ?_
  refine e_aload_n dX9_night_38 rfl rfl ?_
  refine e_getR (q := 15) dX9_night_39 fl_RX9_41 (Ms1.s 0 rfl) (Ms1.n (by decide)) rfl (Ms1.r 0 5 rfl) (by unfold fscr; omega) ?_
  refine e_iload_n dX9_night_42 rfl rfl ?_
  refine e_iload_n dX9_night_43 rfl rfl ?_
  refine e_aload_n dX9_night_44 rfl rfl ?_
  refine e_getR (q := 15) dX9_night_45 fl_RX9_41 (Ms1.s 0 rfl) (Ms1.n (by decide)) rfl (Ms1.r 0 5 rfl) (by unfold fscr; omega) ?_
  refine e_getR (q := 15 + 6) dX9_night_48 fl_RX9_195 y0 (show 15 < fnx σ1 by rw [Ms1.2.1]; decide) rfl (Sm1.r yr6) (by unfold fscr; omega) ?_
  refine e_callV (k := 15) [.int (nI f), .int (nI ((mdc D S sd).1)), .ref (15 + 6)] dX9_night_51 cc_X8_goThrough lk_RX9_214 im_X8_goThrough se_X8_goThrough (by decide) y0 (show 15 < fnx σ1 by rw [Ms1.2.1]; decide) rfl (Nat.le_of_ble_eq_true rfl) (Nat.le_of_ble_eq_true rfl) ?_
  refine t_X8_goThroughL Ms1 ww9 Gr1 hD Yf1.1.choose_spec Yf1.2 hW hC hf (by have := mdc_9 hD S sd; omega) hn (fun σ2 Sm2 Yf2 => fK_i ?_)
  show fEv g _ mX9_night 54 [some (.ref 0), some (.int (nI f)), some (.int ((-1))), some (.int (nI ((mdc D S sd).1)))] [.int (nI ((mgo ldr D f (mdc D S sd).1 (S, T, (mdc D S sd).2)).1 152) - nI (S 152))] σ2 Q
  have S0 : fSm (fun a => a = 0 ∨ (15 ≤ a ∧ a ≤ 21)) σ (fsI σ 0 14 (nI 0)) := fSm_I (Or.inl rfl)
  have S9 : fSm (fun a => a = 0 ∨ (15 ≤ a ∧ a ≤ 21)) σ σ2 := (S0.tr (Sm1.to (fun a (q : 15 ≤ a ∧ a ≤ 15 + 6) => Or.inr (by omega)))).tr (Sm2.to (fun a (q : 15 ≤ a ∧ a ≤ 15 + 6) => Or.inr (by omega)))
  have k0 : ∀ j, fI σ2 0 j = fI (fsI σ 0 14 (nI 0)) 0 j := fun j => (Sm2.i (fun (q : 15 ≤ 0 ∧ 0 ≤ 15 + 6) => by omega) j).trans (Sm1.i (fun (q : 15 ≤ 0 ∧ 0 ≤ 15 + 6) => by omega) j)
  have g9 := mgo ldr D f ((mdc D S sd).1) (S, T, (mdc D S sd).2)
  exact e_ireturn .int dX9_night_54 rfl rfl (h σ2 (S9.to (fun a q => by unfold fClA; omega)) (Ic.cur (i := ((mgo ldr D f ((mdc D S sd).1) (S, T, (mdc D S sd).2)).1, (mgo ldr D f ((mdc D S sd).1) (S, T, (mdc D S sd).2)).2.1, (mgo ldr D f ((mdc D S sd).1) (S, T, (mdc D S sd).2)).2.2, pn, P, rn, R)) ok S9 (fun a q => by omega) (fun j hj => (k0 j).trans (by simp only [List.mem_cons, List.not_mem_nil, or_false] at hj; rw [fI_I, if_neg (by omega)])) Yf2 (Dc.cg (S9.i (fun q => by omega)) (S9.i (fun q => by omega)) (S9.i (fun q => by omega))) (Or.inl ((k0 14).trans (by rw [fI_I, if_pos ⟨rfl, rfl⟩]))) (Ic.2.2.2.2.2.2.sm S9 (fun a q => by omega))))
set_option maxRecDepth 20000 in
theorem t_X9_night {g : fGP} {d : Nat} {σ : fAH} {Q : fRes → fAH → Prop} {x : fXS} {f c : Nat}  (Ms : fMs g σ) (ok : fOK x) (Ic : fIc σ x) (hf : f < 4096) (hv1 : nI f &&& (nI (mfa (mal (xD x) (iS (xI x))) 12 (dT (xD x) 1) 0 0) ^^^ (-1)) = 0) (hv2 : mon f 12 0 ≤ dT (xD x) 3) (hn : (iS (xI x)) 155 < 30) (hc : c ≤ 9) (h : ∀ σ', fSm fClA σ σ' → fIc σ' ((xN f c x (iq (xI x)))) → Q (.inl (some (.int (nI ((mgo ldr (xD x) f c ((iS (xI x)), (iT (xI x)), iq (xI x))).1 152) - nI ((iS (xI x)) 152))))) σ') : fEv g (d + 5) mX9_night 0 (fent [.ref 0, .int (nI f), .int (nI c)] 4) [] σ Q := by
  obtain ⟨D, ⟨S, T, sd, pn, P, rn, R⟩, B, tp, pl, im, Im⟩ := x
  have hD : fWD D := ok.1
  have hW : fWS D S := ok.2.1.1
  have hC : fWC D S := ok.2.1.2.1
  have hN : fWN S 0 0 := ok.2.1.2.2.1
  have Gr : fGr σ 2 D := Ic.1
  obtain ⟨⟨m, Yr⟩, Yt⟩ : fYf σ 15 D S T sd := Ic.2.1
  have Gs := Ms.ground (k := 2) (by decide)
  have Ys := Ms.yard (k := 15) (by decide)
  obtain ⟨⟨g0, g1, g2, g3, g4, g5⟩, ⟨gn, gK⟩, ⟨gr0, gr1, gr2, gr3, gr4⟩⟩ := id Gs
  obtain ⟨⟨y0, y1, y2, y3, y4, y5, y6⟩, ⟨yn, yK⟩, ⟨yr0, yr1, yr2, yr3, yr4, yr5, yr6⟩⟩ := id Ys
  obtain ⟨t0, t1, t2, t3, t4, t5, t6⟩ := id hD.1
  have np := hW.n hD
  have n5 := hW.2.2.2.2
  have tp6 : tp ≤ 600 := ok.2.2.2.1
  have im3 : im ≤ 3 := ok.2.2.2.2.1
  have pn3 : pn ≤ 30 := ok.2.1.2.2.2.1
  have rn6 : rn ≤ 60 := ok.2.1.2.2.2.2.2.1
  have Dc : fDc σ 29 (S, T, sd, pn, P, rn, R) := Ic.2.2.1
  have w52 := hW.1
  have hn : S 155 < 30 := hn
  show fEv g (d + 5) mX9_night 0 [some (.ref 0), some (.int (nI f)), some (.int (nI c)), none] [] σ Q
  refine e_aload_n dX9_night_0 rfl rfl ?_
  refine e_iload_n dX9_night_1 rfl rfl ?_
  refine e_callV (k := 0) [.int (nI f)] dX9_night_2 cc_X9_checkFill lk_RX9_204 im_X9_checkFill se_X9_checkFill (by decide) (Ms.s 0 rfl) (Ms.n (by decide)) rfl (Nat.le_of_ble_eq_true rfl) (Nat.le_of_ble_eq_true rfl) ?_
  refine t_X9_checkFill Ms Gr Yr hD hW hf hv1 hv2 (fK_v ?_)
  show fEv g _ mX9_night 5 [some (.ref 0), some (.int (nI f)), some (.int (nI c)), none] [] σ Q
  refine e_iload_n dX9_night_5 rfl rfl ?_
  refine e_iconst (-1) dX9_night_6 (by decide) ?_
  refine e_bipush (nI 9) dX9_night_7 (by decide) ?_
  refine e_callS [.int (nI c), .int ((-1)), .int (nI 9)] dX9_night_9 cc_X9_checkRange lk_RX9_153 st_X9_checkRange in_RX9 rfl (Nat.le_of_ble_eq_true rfl) (Nat.le_of_ble_eq_true rfl) ?_
  refine t_X9_checkRange ⟨Int32.le_trans (by decide) ((nI_zge (a := c) (by omega)).mpr (by omega)), (nI_le' (by omega) (by omega)).mpr (by omega)⟩ (fK_v ?_)
  show fEv g _ mX9_night 12 [some (.ref 0), some (.int (nI f)), some (.int (nI c)), none] [] σ Q
  refine e_aload_n dX9_night_12 rfl rfl ?_
  refine e_callV (k := 0) [] dX9_night_13 cc_X9_checkNightLeft lk_RX9_207 im_X9_checkNightLeft se_X9_checkNightLeft (by decide) (Ms.s 0 rfl) (Ms.n (by decide)) rfl (Nat.le_of_ble_eq_true rfl) (Nat.le_of_ble_eq_true rfl) ?_
  refine t_X9_checkNightLeft Ms Yr n5 hn (fK_v ?_)
  show fEv g _ mX9_night 16 [some (.ref 0), some (.int (nI f)), some (.int (nI c)), none] [] σ Q
  refine e_aload_n dX9_night_16 rfl rfl ?_
  refine e_iconst (nI 0) dX9_night_17 (by decide) ?_
  refine e_putZ dX9_night_18 fl_RX9_83 (Ms.s 0 rfl) (Ms.n (by decide)) rfl rfl (by decide) ?_
  refine e_iload_n dX9_night_21 rfl rfl ?_
  refine e_iconst (-1) dX9_night_22 (by decide) ?_
  refine e_icmp_ne 36 dX9_night_23 (by decide) (fun _ => ?_) (fun q => absurd q (nI_m1 (by omega)))
  refine e_iload_n dX9_night_36 rfl rfl ?_
  refine e_istore_n (L1 := [some (.ref 0), some (.int (nI f)), some (.int (nI c)), some (.int (nI c))]) dX9_night_37 rfl (by decide) rfl ?_
  refine e_aload_n dX9_night_38 rfl rfl ?_
  refine e_getR (q := 15) dX9_night_39 fl_RX9_41 (Ms.s 0 rfl) (Ms.n (by decide)) rfl (Ms.r 0 5 rfl) (by unfold fscr; omega) ?_
  refine e_iload_n dX9_night_42 rfl rfl ?_
  refine e_iload_n dX9_night_43 rfl rfl ?_
  refine e_aload_n dX9_night_44 rfl rfl ?_
  refine e_getR (q := 15) dX9_night_45 fl_RX9_41 (Ms.s 0 rfl) (Ms.n (by decide)) rfl (Ms.r 0 5 rfl) (by unfold fscr; omega) ?_
  refine e_getR (q := 15 + 6) dX9_night_48 fl_RX9_195 y0 (show 15 < fnx σ by omega) rfl yr6 (by unfold fscr; omega) ?_
  refine e_callV (k := 15) [.int (nI f), .int (nI c), .ref (15 + 6)] dX9_night_51 cc_X8_goThrough lk_RX9_214 im_X8_goThrough se_X8_goThrough (by decide) y0 (show 15 < fnx σ by omega) rfl (Nat.le_of_ble_eq_true rfl) (Nat.le_of_ble_eq_true rfl) ?_
  refine t_X8_goThroughL (σ := fsI σ 0 14 (nI 0)) Ms ww9 Gr hD Yr Yt hW hC hf (by omega) hn (fun σ2 Sm2 Yf2 => fK_i ?_)
  show fEv g _ mX9_night 54 [some (.ref 0), some (.int (nI f)), some (.int (nI c)), some (.int (nI c))] [.int (nI ((mgo ldr D f c (S, T, sd)).1 152) - nI (S 152))] σ2 Q
  have S0 : fSm (fun a => a = 0 ∨ (15 ≤ a ∧ a ≤ 21)) σ (fsI σ 0 14 (nI 0)) := fSm_I (Or.inl rfl)
  have S9 : fSm (fun a => a = 0 ∨ (15 ≤ a ∧ a ≤ 21)) σ σ2 := S0.tr (Sm2.to (fun a (q : 15 ≤ a ∧ a ≤ 15 + 6) => Or.inr (by omega)))
  have k0 : ∀ j, fI σ2 0 j = fI (fsI σ 0 14 (nI 0)) 0 j := fun j => Sm2.i (fun (q : 15 ≤ 0 ∧ 0 ≤ 15 + 6) => by omega) j
  have g9 := mgo ldr D f (c) (S, T, sd)
  exact e_ireturn .int dX9_night_54 rfl rfl (h σ2 (S9.to (fun a q => by unfold fClA; omega)) (Ic.cur (i := ((mgo ldr D f (c) (S, T, sd)).1, (mgo ldr D f (c) (S, T, sd)).2.1, (mgo ldr D f (c) (S, T, sd)).2.2, pn, P, rn, R)) ok S9 (fun a q => by omega) (fun j hj => (k0 j).trans (by simp only [List.mem_cons, List.not_mem_nil, or_false] at hj; rw [fI_I, if_neg (by omega)])) Yf2 (Dc.cg (S9.i (fun q => by omega)) (S9.i (fun q => by omega)) (S9.i (fun q => by omega))) (Or.inl ((k0 14).trans (by rw [fI_I, if_pos ⟨rfl, rfl⟩]))) (Ic.2.2.2.2.2.2.sm S9 (fun a q => by omega))))
