def fFP : Nat → Prop := fun a => a = 0 ∨ (22 ≤ a ∧ a ≤ 28)
set_option maxRecDepth 20000 in
theorem t_X9_nightE1 {g : fGP} {d : Nat} {σ : fAH} {Q : fRes → fAH → Prop} {x : fXS} {a b : Int32}  (Ms : fMs g σ) (ok : fOK x) (Ic : fIc σ x) (hv1 : ¬ a &&& (nI (mfa (mal (xD x) (iS (xI x))) 12 (dT (xD x) 1) 0 0) ^^^ (-1)) = 0) (rm : fnx σ + fgb σ + 1 ≤ 601024 ∧ fsu σ + 6 ≤ 7293034) (h : Q (.inr "java/lang/IllegalArgumentException") (fthr σ)) : fEv g (d + 5) mX9_night 0 (fent [.ref 0, .int a, .int b] 4) [] σ Q := by
  obtain ⟨D, ⟨S, T, sd, pn, P, rn, R⟩, B, tp, pl, im, Im⟩ := x
  have hD : fWD D := ok.1
  have hW : fWS D S := ok.2.1.1
  have hC : fWC D S := ok.2.1.2.1
  have hN : fWN S 0 0 := ok.2.1.2.2.1
  have Gr : fGr σ 2 D := Ic.1
  obtain ⟨⟨m, Yr⟩, Yt⟩ : fYf σ 15 D S T sd := Ic.2.1
  have Gs := Ms.ground (k := 2) (by decide)
  have Ys := Ms.yard (k := 15) (by decide)
  obtain ⟨⟨g0, g1, g2, g3, g4, g5⟩, ⟨gn, gK⟩, ⟨gr0, gr1, gr2, gr3, gr4⟩⟩ := id Gs
  obtain ⟨⟨y0, y1, y2, y3, y4, y5, y6⟩, ⟨yn, yK⟩, ⟨yr0, yr1, yr2, yr3, yr4, yr5, yr6⟩⟩ := id Ys
  obtain ⟨t0, t1, t2, t3, t4, t5, t6⟩ := id hD.1
  have np := hW.n hD
  have n5 := hW.2.2.2.2
  have tp6 : tp ≤ 600 := ok.2.2.2.1
  have im3 : im ≤ 3 := ok.2.2.2.2.1
  have pn3 : pn ≤ 30 := ok.2.1.2.2.2.1
  have rn6 : rn ≤ 60 := ok.2.1.2.2.2.2.2.1
  have Dc : fDc σ 29 (S, T, sd, pn, P, rn, R) := Ic.2.2.1
  have w52 := hW.1
  show fEv g (d + 5) mX9_night 0 [some (.ref 0), some (.int a), some (.int b), none] [] σ Q
  refine e_aload_n dX9_night_0 rfl rfl ?_
  refine e_iload_n dX9_night_1 rfl rfl ?_
  refine e_callV (k := 0) [.int a] dX9_night_2 cc_X9_checkFill lk_RX9_204 im_X9_checkFill se_X9_checkFill (by decide) (Ms.s 0 rfl) (Ms.n (by decide)) rfl (Nat.le_of_ble_eq_true rfl) (Nat.le_of_ble_eq_true rfl) ?_
  exact t_X9_checkFillE1 Ms Gr Yr hD hW hv1 rm (t_out rfl h)
set_option maxRecDepth 20000 in
theorem t_X9_nightE2 {g : fGP} {d : Nat} {σ : fAH} {Q : fRes → fAH → Prop} {x : fXS} {f : Nat} {b : Int32}  (Ms : fMs g σ) (ok : fOK x) (Ic : fIc σ x) (hf : f < 4096) (hv1 : nI f &&& (nI (mfa (mal (xD x) (iS (xI x))) 12 (dT (xD x) 1) 0 0) ^^^ (-1)) = 0) (hv2 : ¬ mon f 12 0 ≤ dT (xD x) 3) (rm : fnx σ + fgb σ + 1 ≤ 601024 ∧ fsu σ + 6 ≤ 7293034) (h : Q (.inr "java/lang/IllegalArgumentException") (fthr σ)) : fEv g (d + 5) mX9_night 0 (fent [.ref 0, .int (nI f), .int b] 4) [] σ Q := by
  obtain ⟨D, ⟨S, T, sd, pn, P, rn, R⟩, B, tp, pl, im, Im⟩ := x
  have hD : fWD D := ok.1
  have hW : fWS D S := ok.2.1.1
  have hC : fWC D S := ok.2.1.2.1
  have hN : fWN S 0 0 := ok.2.1.2.2.1
  have Gr : fGr σ 2 D := Ic.1
  obtain ⟨⟨m, Yr⟩, Yt⟩ : fYf σ 15 D S T sd := Ic.2.1
  have Gs := Ms.ground (k := 2) (by decide)
  have Ys := Ms.yard (k := 15) (by decide)
  obtain ⟨⟨g0, g1, g2, g3, g4, g5⟩, ⟨gn, gK⟩, ⟨gr0, gr1, gr2, gr3, gr4⟩⟩ := id Gs
  obtain ⟨⟨y0, y1, y2, y3, y4, y5, y6⟩, ⟨yn, yK⟩, ⟨yr0, yr1, yr2, yr3, yr4, yr5, yr6⟩⟩ := id Ys
  obtain ⟨t0, t1, t2, t3, t4, t5, t6⟩ := id hD.1
  have np := hW.n hD
  have n5 := hW.2.2.2.2
  have tp6 : tp ≤ 600 := ok.2.2.2.1
  have im3 : im ≤ 3 := ok.2.2.2.2.1
  have pn3 : pn ≤ 30 := ok.2.1.2.2.2.1
  have rn6 : rn ≤ 60 := ok.2.1.2.2.2.2.2.1
  have Dc : fDc σ 29 (S, T, sd, pn, P, rn, R) := Ic.2.2.1
  have w52 := hW.1
  show fEv g (d + 5) mX9_night 0 [some (.ref 0), some (.int (nI f)), some (.int b), none] [] σ Q
  refine e_aload_n dX9_night_0 rfl rfl ?_
  refine e_iload_n dX9_night_1 rfl rfl ?_
  refine e_callV (k := 0) [.int (nI f)] dX9_night_2 cc_X9_checkFill lk_RX9_204 im_X9_checkFill se_X9_checkFill (by decide) (Ms.s 0 rfl) (Ms.n (by decide)) rfl (Nat.le_of_ble_eq_true rfl) (Nat.le_of_ble_eq_true rfl) ?_
  exact t_X9_checkFillE2 Ms Gr Yr hD hW hf hv1 hv2 rm (t_out rfl h)
set_option maxRecDepth 20000 in
theorem t_X9_nightE3 {g : fGP} {d : Nat} {σ : fAH} {Q : fRes → fAH → Prop} {x : fXS} {f : Nat} {b : Int32}  (Ms : fMs g σ) (ok : fOK x) (Ic : fIc σ x) (hf : f < 4096) (hv1 : nI f &&& (nI (mfa (mal (xD x) (iS (xI x))) 12 (dT (xD x) 1) 0 0) ^^^ (-1)) = 0) (hv2 : mon f 12 0 ≤ dT (xD x) 3) (hv : ¬ (-1 ≤ b ∧ b ≤ nI 9)) (rm : fnx σ + fgb σ + 1 ≤ 601024 ∧ fsu σ + 6 ≤ 7293034) (h : Q (.inr "java/lang/IllegalArgumentException") (fthr σ)) : fEv g (d + 5) mX9_night 0 (fent [.ref 0, .int (nI f), .int b] 4) [] σ Q := by
  obtain ⟨D, ⟨S, T, sd, pn, P, rn, R⟩, B, tp, pl, im, Im⟩ := x
  have hD : fWD D := ok.1
  have hW : fWS D S := ok.2.1.1
  have hC : fWC D S := ok.2.1.2.1
  have hN : fWN S 0 0 := ok.2.1.2.2.1
  have Gr : fGr σ 2 D := Ic.1
  obtain ⟨⟨m, Yr⟩, Yt⟩ : fYf σ 15 D S T sd := Ic.2.1
  have Gs := Ms.ground (k := 2) (by decide)
  have Ys := Ms.yard (k := 15) (by decide)
  obtain ⟨⟨g0, g1, g2, g3, g4, g5⟩, ⟨gn, gK⟩, ⟨gr0, gr1, gr2, gr3, gr4⟩⟩ := id Gs
  obtain ⟨⟨y0, y1, y2, y3, y4, y5, y6⟩, ⟨yn, yK⟩, ⟨yr0, yr1, yr2, yr3, yr4, yr5, yr6⟩⟩ := id Ys
  obtain ⟨t0, t1, t2, t3, t4, t5, t6⟩ := id hD.1
  have np := hW.n hD
  have n5 := hW.2.2.2.2
  have tp6 : tp ≤ 600 := ok.2.2.2.1
  have im3 : im ≤ 3 := ok.2.2.2.2.1
  have pn3 : pn ≤ 30 := ok.2.1.2.2.2.1
  have rn6 : rn ≤ 60 := ok.2.1.2.2.2.2.2.1
  have Dc : fDc σ 29 (S, T, sd, pn, P, rn, R) := Ic.2.2.1
  have w52 := hW.1
  show fEv g (d + 5) mX9_night 0 [some (.ref 0), some (.int (nI f)), some (.int b), none] [] σ Q
  refine e_aload_n dX9_night_0 rfl rfl ?_
  refine e_iload_n dX9_night_1 rfl rfl ?_
  refine e_callV (k := 0) [.int (nI f)] dX9_night_2 cc_X9_checkFill lk_RX9_204 im_X9_checkFill se_X9_checkFill (by decide) (Ms.s 0 rfl) (Ms.n (by decide)) rfl (Nat.le_of_ble_eq_true rfl) (Nat.le_of_ble_eq_true rfl) ?_
  refine t_X9_checkFill Ms Gr Yr hD hW hf hv1 hv2 (fK_v ?_)
  show fEv g _ mX9_night 5 [some (.ref 0), some (.int (nI f)), some (.int b), none] [] σ Q
  refine e_iload_n dX9_night_5 rfl rfl ?_
  refine e_iconst (-1) dX9_night_6 (by decide) ?_
  refine e_bipush (nI 9) dX9_night_7 (by decide) ?_
  refine e_callS [.int b, .int ((-1)), .int (nI 9)] dX9_night_9 cc_X9_checkRange lk_RX9_153 st_X9_checkRange in_RX9 rfl (Nat.le_of_ble_eq_true rfl) (Nat.le_of_ble_eq_true rfl) ?_
  exact t_X9_checkRangeE hv rm (t_out rfl h)
set_option maxRecDepth 20000 in
theorem t_X9_nightE4 {g : fGP} {d : Nat} {σ : fAH} {Q : fRes → fAH → Prop} {x : fXS} {f : Nat} {b : Int32}  (Ms : fMs g σ) (ok : fOK x) (Ic : fIc σ x) (hf : f < 4096) (hv1 : nI f &&& (nI (mfa (mal (xD x) (iS (xI x))) 12 (dT (xD x) 1) 0 0) ^^^ (-1)) = 0) (hv2 : mon f 12 0 ≤ dT (xD x) 3) (hv : -1 ≤ b ∧ b ≤ nI 9) (hn : ¬ (iS (xI x)) 155 < 30) (rm : fnx σ + fgb σ + 1 ≤ 601024 ∧ fsu σ + 6 ≤ 7293034) (h : Q (.inr "java/lang/IllegalStateException") (fthr σ)) : fEv g (d + 5) mX9_night 0 (fent [.ref 0, .int (nI f), .int b] 4) [] σ Q := by
  obtain ⟨D, ⟨S, T, sd, pn, P, rn, R⟩, B, tp, pl, im, Im⟩ := x
  have hD : fWD D := ok.1
  have hW : fWS D S := ok.2.1.1
  have hC : fWC D S := ok.2.1.2.1
  have hN : fWN S 0 0 := ok.2.1.2.2.1
  have Gr : fGr σ 2 D := Ic.1
  obtain ⟨⟨m, Yr⟩, Yt⟩ : fYf σ 15 D S T sd := Ic.2.1
  have Gs := Ms.ground (k := 2) (by decide)
  have Ys := Ms.yard (k := 15) (by decide)
  obtain ⟨⟨g0, g1, g2, g3, g4, g5⟩, ⟨gn, gK⟩, ⟨gr0, gr1, gr2, gr3, gr4⟩⟩ := id Gs
  obtain ⟨⟨y0, y1, y2, y3, y4, y5, y6⟩, ⟨yn, yK⟩, ⟨yr0, yr1, yr2, yr3, yr4, yr5, yr6⟩⟩ := id Ys
  obtain ⟨t0, t1, t2, t3, t4, t5, t6⟩ := id hD.1
  have np := hW.n hD
  have n5 := hW.2.2.2.2
  have tp6 : tp ≤ 600 := ok.2.2.2.1
  have im3 : im ≤ 3 := ok.2.2.2.2.1
  have pn3 : pn ≤ 30 := ok.2.1.2.2.2.1
  have rn6 : rn ≤ 60 := ok.2.1.2.2.2.2.2.1
  have Dc : fDc σ 29 (S, T, sd, pn, P, rn, R) := Ic.2.2.1
  have w52 := hW.1
  show fEv g (d + 5) mX9_night 0 [some (.ref 0), some (.int (nI f)), some (.int b), none] [] σ Q
  refine e_aload_n dX9_night_0 rfl rfl ?_
  refine e_iload_n dX9_night_1 rfl rfl ?_
  refine e_callV (k := 0) [.int (nI f)] dX9_night_2 cc_X9_checkFill lk_RX9_204 im_X9_checkFill se_X9_checkFill (by decide) (Ms.s 0 rfl) (Ms.n (by decide)) rfl (Nat.le_of_ble_eq_true rfl) (Nat.le_of_ble_eq_true rfl) ?_
  refine t_X9_checkFill Ms Gr Yr hD hW hf hv1 hv2 (fK_v ?_)
  show fEv g _ mX9_night 5 [some (.ref 0), some (.int (nI f)), some (.int b), none] [] σ Q
  refine e_iload_n dX9_night_5 rfl rfl ?_
  refine e_iconst (-1) dX9_night_6 (by decide) ?_
  refine e_bipush (nI 9) dX9_night_7 (by decide) ?_
  refine e_callS [.int b, .int ((-1)), .int (nI 9)] dX9_night_9 cc_X9_checkRange lk_RX9_153 st_X9_checkRange in_RX9 rfl (Nat.le_of_ble_eq_true rfl) (Nat.le_of_ble_eq_true rfl) ?_
  refine t_X9_checkRange hv (fK_v ?_)
  show fEv g _ mX9_night 12 [some (.ref 0), some (.int (nI f)), some (.int b), none] [] σ Q
  refine e_aload_n dX9_night_12 rfl rfl ?_
  refine e_callV (k := 0) [] dX9_night_13 cc_X9_checkNightLeft lk_RX9_207 im_X9_checkNightLeft se_X9_checkNightLeft (by decide) (Ms.s 0 rfl) (Ms.n (by decide)) rfl (Nat.le_of_ble_eq_true rfl) (Nat.le_of_ble_eq_true rfl) ?_
  exact t_X9_checkNightLeftE Ms Yr n5 hn rm (t_out rfl h)
set_option maxRecDepth 20000 in
theorem t_X0_planOf {g : fGP} {d : Nat} {σ : fAH} {Q : fRes → fAH → Prop} {P : Nat → Nat} {pn i : Nat} (Ms : fMs g σ) (hpn : fI σ 29 1 = nI pn) (hpl : pn ≤ 30) (hP : ∀ j, j < pn → fI σ 30 j = nI (P j)) (hi : i < pn) (h : Q (.inl (some (.int (nI (P i))))) σ) : fEv g d mX0_planOf 0 (fent [.ref 29, .int (nI i)] 2) [] σ Q := by
  show fEv g d mX0_planOf 0 [some (.ref 29), some (.int (nI i))] [] σ Q
  refine e_iload_n dX0_planOf_0 rfl rfl ?_
  refine e_if_lt 12 dX0_planOf_1 (by decide) (fun c => absurd c (fun q => absurd ((nI_zlt (by omega)).mp q) (by omega))) (fun _ => ?_)
  refine e_iload_n dX0_planOf_4 rfl rfl ?_
  refine e_aload_n dX0_planOf_5 rfl rfl ?_
  refine e_getI dX0_planOf_6 fl_RX0_15 (Ms.s 29 rfl) (Ms.n (by decide)) rfl ?_
  refine e_int (nI pn) hpn ?_
  refine e_icmp_lt 16 dX0_planOf_9 (by decide) (fun _ => ?_) (fun c => absurd ((nI_lt' (by omega) (by omega)).mpr hi) c)
  refine e_aload_n dX0_planOf_16 rfl rfl ?_
  refine e_getR (q := 30) dX0_planOf_17 fl_RX0_9 (Ms.s 29 rfl) (Ms.n (by decide)) rfl (Ms.r 29 0 rfl) (by unfold fscr; omega) ?_
  refine e_iload_n dX0_planOf_20 rfl rfl ?_
  refine e_iaload i dX0_planOf_21 (Ms.s 30 rfl) (Ms.n (by decide)) rfl (by omega) (by decide) ?_
  refine e_int (nI (P i)) (hP i hi) ?_
  exact e_ireturn .int dX0_planOf_22 rfl rfl h
set_option maxRecDepth 20000 in
theorem l_X9_follow {g : fGP} {d : Nat} {Q : fRes → fAH → Prop} {D : fSD} {P : Nat → Nat} {pn : Nat} {a1 : Int32} (hD : fWD D) (hpl : pn ≤ 30) (hPb : ∀ j, P j < 4096) : ∀ (n i : Nat) (a : Nat) (o3 : Option Value) (σ : fAH) (S : Nat → Nat) (T : Nat → Int32) (sd : Int32), i + n = pn → fMs g σ → fGr σ 2 D → fYf σ 22 D S T sd → fWS D S → fWC D S → fWN S 0 0 → fI σ 29 1 = nI pn → (∀ j, j < pn → fI σ 30 j = nI (P j)) → fI σ 0 13 = nI a → a ≤ i → (∀ σ', fSm fFP σ σ' → (∀ j, j ≠ 13 → fI σ' 0 j = fI σ 0 j) → fJ σ' 0 16 = fJ σ 0 16 → fYf σ' 22 D (mplan D P n i (S, T, sd) a).1.1 (mplan D P n i (S, T, sd) a).1.2.1 (mplan D P n i (S, T, sd) a).1.2.2 → fI σ' 0 13 = nI (mplan D P n i (S, T, sd) a).2 → Q (.inl none) σ') → fEv g (d + 5) mX9_followPlan 29 [some (.ref 0), some (.int a1), some (.int (nI i)), o3] [] σ Q := by
  intro n
  induction n with
  | zero =>
    intro i a o3 σ S T sd hin Ms Gr Yf hW hC hN hpn hP hid ha9 h
    have n5 := hW.2.2.2.2
    obtain ⟨⟨m, Yr⟩, Yt⟩ := id Yf
    have Gs := Ms.ground (k := 2) (by decide)
    have Ys := Ms.yard (k := 22) (by decide)
    obtain ⟨⟨g0, g1, g2, g3, g4, g5⟩, ⟨gn, gK⟩, ⟨gr0, gr1, gr2, gr3, gr4⟩⟩ := id Gs
    obtain ⟨⟨y0, y1, y2, y3, y4, y5, y6⟩, ⟨yn, yK⟩, ⟨yr0, yr1, yr2, yr3, yr4, yr5, yr6⟩⟩ := id Ys
    obtain ⟨t0, t1, t2, t3, t4, t5, t6⟩ := id hD.1
    refine e_iload_n dX9_followPlan_29 rfl rfl ?_
    refine e_aload_n dX9_followPlan_30 rfl rfl ?_
    refine e_getR (q := 29) dX9_followPlan_31 fl_RX9_51 (Ms.s 0 rfl) (Ms.n (by decide)) rfl (Ms.r 0 7 rfl) (by unfold fscr; omega) ?_
    refine e_getI dX9_followPlan_34 fl_RX9_266 (Ms.s 29 rfl) (Ms.n (by decide)) rfl ?_
    refine e_int (nI pn) hpn ?_
    refine e_icmp_ge 111 dX9_followPlan_37 (by decide) (fun cz => ?_) (fun cz => absurd ((nI_le' (by omega) (by omega)).mpr (by omega)) cz)
    exact e_return dX9_followPlan_111 rfl (h σ fSm.rfl' (fun j _ => rfl) rfl ⟨⟨m, Yr⟩, Yt⟩ hid)
  | succ n ih =>
    intro i a o3 σ S T sd hin Ms Gr Yf hW hC hN hpn hP hid ha9 h
    have n5 := hW.2.2.2.2
    obtain ⟨⟨m, Yr⟩, Yt⟩ := id Yf
    have Gs := Ms.ground (k := 2) (by decide)
    have Ys := Ms.yard (k := 22) (by decide)
    obtain ⟨⟨g0, g1, g2, g3, g4, g5⟩, ⟨gn, gK⟩, ⟨gr0, gr1, gr2, gr3, gr4⟩⟩ := id Gs
    obtain ⟨⟨y0, y1, y2, y3, y4, y5, y6⟩, ⟨yn, yK⟩, ⟨yr0, yr1, yr2, yr3, yr4, yr5, yr6⟩⟩ := id Ys
    obtain ⟨t0, t1, t2, t3, t4, t5, t6⟩ := id hD.1
    have hi : i < pn := by omega
    have ml := mfill_lt hD S (P i)
    refine e_iload_n dX9_followPlan_29 rfl rfl ?_
    refine e_aload_n dX9_followPlan_30 rfl rfl ?_
    refine e_getR (q := 29) dX9_followPlan_31 fl_RX9_51 (Ms.s 0 rfl) (Ms.n (by decide)) rfl (Ms.r 0 7 rfl) (by unfold fscr; omega) ?_
    refine e_getI dX9_followPlan_34 fl_RX9_266 (Ms.s 29 rfl) (Ms.n (by decide)) rfl ?_
    refine e_int (nI pn) hpn ?_
    refine e_icmp_ge 111 dX9_followPlan_37 (by decide) (fun cz => absurd ((nI_le' (by omega) (by omega)).mp cz) (by omega)) (fun cz => ?_)
    refine e_aload_n dX9_followPlan_40 rfl rfl ?_
    refine e_getR (q := 22) dX9_followPlan_41 fl_RX9_45 (Ms.s 0 rfl) (Ms.n (by decide)) rfl (Ms.r 0 6 rfl) (by unfold fscr; omega) ?_
    refine e_getI dX9_followPlan_44 fl_RX9_142 y0 (show 22 < fnx σ by omega) rfl ?_
    refine e_int (nI (S 155)) Yr.1.2.2.1 ?_
    refine e_bipush (nI 30) dX9_followPlan_47 (by decide) ?_
    refine e_icmp_ge 111 dX9_followPlan_49 (by decide) (fun c49 => ?_) (fun c49 => ?_)
    · rw [nI_le' (by omega) (by omega)] at c49
      rw [mplan_0 (show (S, T, sd).1 155 = 30 by show S 155 = 30; omega)] at h
      exact e_return dX9_followPlan_111 rfl (h σ fSm.rfl' (fun j _ => rfl) rfl ⟨⟨m, Yr⟩, Yt⟩ hid)
    · rw [nI_le' (by omega) (by omega)] at c49
      have hn9 : S 155 < 30 := by omega
      refine e_aload_n dX9_followPlan_52 rfl rfl ?_
      refine e_getR (q := 22) dX9_followPlan_53 fl_RX9_45 (Ms.s 0 rfl) (Ms.n (by decide)) rfl (Ms.r 0 6 rfl) (by unfold fscr; omega) ?_
      refine e_aload_n dX9_followPlan_56 rfl rfl ?_
      refine e_getR (q := 29) dX9_followPlan_57 fl_RX9_51 (Ms.s 0 rfl) (Ms.n (by decide)) rfl (Ms.r 0 7 rfl) (by unfold fscr; omega) ?_
      refine e_iload_n dX9_followPlan_60 rfl rfl ?_
      refine e_callV (k := 29) [.int (nI i)] dX9_followPlan_61 cc_X0_planOf lk_RX9_347 im_X0_planOf se_X0_planOf (by decide) (Ms.s 29 rfl) (Ms.n (by decide)) rfl (Nat.le_of_ble_eq_true rfl) (Nat.le_of_ble_eq_true rfl) ?_
      refine t_X0_planOf Ms hpn hpl (fun j hj => hP j hj) hi (fK_i ?_)
      show fEv g _ mX9_followPlan 64 [some (.ref 0), some (.int a1), some (.int (nI i)), o3] [.int (nI (P i)), .ref 22] σ Q
      refine e_callV (k := 22) [.int (nI (P i))] dX9_followPlan_64 cc_X8_fillable lk_RX9_350 im_X8_fillable se_X8_fillable (by decide) y0 (show 22 < fnx σ by omega) rfl (Nat.le_of_ble_eq_true rfl) (Nat.le_of_ble_eq_true rfl) ?_
      refine t_X8_fillable Gs Gr hD Ys Yr hW (hPb i) (fK_i ?_)
      show fEv g _ mX9_followPlan 67 [some (.ref 0), some (.int a1), some (.int (nI i)), o3] [.int (nI (mfill D S (P i)))] σ Q
      refine e_istore_n (L1 := [some (.ref 0), some (.int a1), some (.int (nI i)), some (.int (nI (mfill D S (P i))))]) dX9_followPlan_67 rfl (by decide) rfl ?_
      refine e_iload_n dX9_followPlan_68 rfl rfl ?_
      refine e_if_ne 82 dX9_followPlan_69 (by decide) (fun c69 => ?_) (fun c69 => ?_)
      · rw [nI_z (by omega)] at c69
        refine e_aload_n dX9_followPlan_82 rfl rfl ?_
        refine e_getR (q := 22) dX9_followPlan_83 fl_RX9_45 (Ms.s 0 rfl) (Ms.n (by decide)) rfl (Ms.r 0 6 rfl) (by unfold fscr; omega) ?_
        refine e_iload_n dX9_followPlan_86 rfl rfl ?_
        refine e_aload_n dX9_followPlan_87 rfl rfl ?_
        refine e_getR (q := 22) dX9_followPlan_88 fl_RX9_45 (Ms.s 0 rfl) (Ms.n (by decide)) rfl (Ms.r 0 6 rfl) (by unfold fscr; omega) ?_
        refine e_callV (k := 22) [] dX9_followPlan_91 cc_X8_drawCold lk_RX9_210 im_X8_drawCold se_X8_drawCold (by decide) y0 (show 22 < fnx σ by omega) rfl (Nat.le_of_ble_eq_true rfl) (Nat.le_of_ble_eq_true rfl) ?_
        refine t_X8_drawCold (σ := σ) Ms ww8 Gr hD Yr Yt hW hC hn9 (fun σ1 Sm1 Yf1 => fK_i ?_)
        show fEv g _ mX9_followPlan 94 [some (.ref 0), some (.int a1), some (.int (nI i)), some (.int (nI (mfill D S (P i))))] [.int (nI ((mdc D S sd).1)), .int (nI (mfill D S (P i))), .ref 22] σ1 Q
        obtain ⟨⟨m1, Yr1⟩, Yt1⟩ := Yf1
        have Ms1 := (show fMs g (σ) from Ms).sm Sm1
        have Gr1 : fGr σ1 2 D := (show fGr (σ) 2 D from Gr).y Sm1 ww8
        have H9 : fSm fFP σ (σ) := fSm.rfl'
        have k9 : ∀ j, j ≠ 13 → fI (σ) 0 j = fI σ 0 j := fun j hj => rfl
        have i9 : fI (σ) 0 13 = nI (a + if mfill D S (P i) = 0 then 1 else 0) := by rw [if_neg c69]; exact hid
        have j9 : fJ (σ) 0 16 = fJ σ 0 16 := rfl
        have e9 := (rfl : σ = σ)
        refine e_aload_n dX9_followPlan_94 rfl rfl ?_
        refine e_getR (q := 22) dX9_followPlan_95 fl_RX9_45 (Ms1.s 0 rfl) (Ms1.n (by decide)) rfl (Ms1.r 0 6 rfl) (by unfold fscr; omega) ?_
        refine e_getR (q := 22 + 6) dX9_followPlan_98 fl_RX9_195 y0 (show 22 < fnx σ1 by rw [Ms1.2.1]; decide) rfl (show fR σ1 22 8 = some (22 + 6) from Ms1.r 22 8 rfl) (by unfold fscr; omega) ?_
        refine e_callV (k := 22) [.int (nI (mfill D S (P i))), .int (nI ((mdc D S sd).1)), .ref (22 + 6)] dX9_followPlan_101 cc_X8_goThrough lk_RX9_214 im_X8_goThrough se_X8_goThrough (by decide) y0 (show 22 < fnx σ1 by rw [Ms1.2.1]; decide) rfl (Nat.le_of_ble_eq_true rfl) (Nat.le_of_ble_eq_true rfl) ?_
        refine t_X8_goThroughL Ms1 ww8 Gr1 hD Yr1 Yt1 hW hC (mfill_lt hD S _) (by have := mdc_9 hD S sd; omega) hn9 (fun σ2 Sm2 Yf2 => fK_i ?_)
        show fEv g _ mX9_followPlan 104 [some (.ref 0), some (.int a1), some (.int (nI i)), some (.int (nI (mfill D S (P i))))] [.int (nI ((mgo ldr D (mfill D S (P i)) (mdc D S sd).1 (S, T, (mdc D S sd).2)).1 152) - nI (S 152))] σ2 Q
        refine e_pop dX9_followPlan_104 rfl ?_
        refine e_iinc (v := nI (i + 1)) (L1 := [some (.ref 0), some (.int a1), some (.int (nI (i + 1))), some (.int (nI (mfill D S (P i))))]) dX9_followPlan_105 rfl (show nI i + Int32.ofInt 1 = nI (i + 1) from nI_add i 1) (by decide) rfl ?_
        refine e_goto 29 dX9_followPlan_108 (by decide) ?_
        have hs9 : ¬ (S, T, sd).1 155 = 30 := by show ¬ S 155 = 30; omega
        rw [mplan_s hs9] at h
        have q9 := fW_go (dr := ldr) (fill := mfill D S (P i)) (cold := (mdc D S sd).1) (x := (S, T, (mdc D S sd).2)) hD hW hC hN hn9
        have s12 : fSm fFP σ σ2 := (H9.tr (Sm1.to (fun a (q : 22 ≤ a ∧ a ≤ 22 + 6) => Or.inr (by omega)))).tr (Sm2.to (fun a (q : 22 ≤ a ∧ a ≤ 22 + 6) => Or.inr (by omega)))
        have k12 : ∀ j, fI σ2 0 j = fI σ 0 j := fun j => (Sm2.i (fun (q : 22 ≤ 0 ∧ 0 ≤ 22 + 6) => by omega) j).trans (Sm1.i (fun (q : 22 ≤ 0 ∧ 0 ≤ 22 + 6) => by omega) j)
        have j12 : fJ σ2 0 16 = fJ σ 0 16 := ((Sm2.j (fun (q : 22 ≤ 0 ∧ 0 ≤ 22 + 6) => by omega) 16).trans (Sm1.j (fun (q : 22 ≤ 0 ∧ 0 ≤ 22 + 6) => by omega) 16)).trans j9
        exact ih (i + 1) _ _ σ2 _ _ _ (by omega) (Ms.sm s12) (Gr.sm s12 (fun i hi q => by unfold fFP at q; omega)) Yf2 q9.1 q9.2.1 q9.2.2.1 ((s12.i (fun q => by unfold fFP at q; omega) 1).trans hpn) (fun j hj => (s12.i (fun q => by unfold fFP at q; omega) j).trans (hP j hj)) ((k12 13).trans i9) (by split <;> omega) (fun σ' Sm' p1 p2 p3 p4 => h σ' (s12.tr Sm') (fun j hj => (p1 j hj).trans ((k12 j).trans (k9 j hj))) (p2.trans j12) p3 p4)
      · rw [nI_z (by omega)] at c69
        refine e_aload_n dX9_followPlan_72 rfl rfl ?_
        refine e_dup dX9_followPlan_73 rfl ?_
        refine e_getI dX9_followPlan_74 fl_RX9_80 (Ms.s 0 rfl) (Ms.n (by decide)) rfl ?_
        refine e_int (nI a) hid ?_
        refine e_iconst (nI 1) dX9_followPlan_77 (by decide) ?_
        refine e_iadd dX9_followPlan_78 ?_
        refine e_int (nI (a + 1)) (nI_add a 1) ?_
        refine e_putI dX9_followPlan_79 fl_RX9_80 (Ms.s 0 rfl) (Ms.n (by decide)) rfl rfl ?_
        refine e_aload_n dX9_followPlan_82 rfl rfl ?_
        refine e_getR (q := 22) dX9_followPlan_83 fl_RX9_45 (Ms.s 0 rfl) (Ms.n (by decide)) rfl (Ms.r 0 6 rfl) (by unfold fscr; omega) ?_
        refine e_iload_n dX9_followPlan_86 rfl rfl ?_
        refine e_aload_n dX9_followPlan_87 rfl rfl ?_
        refine e_getR (q := 22) dX9_followPlan_88 fl_RX9_45 (Ms.s 0 rfl) (Ms.n (by decide)) rfl (Ms.r 0 6 rfl) (by unfold fscr; omega) ?_
        refine e_callV (k := 22) [] dX9_followPlan_91 cc_X8_drawCold lk_RX9_210 im_X8_drawCold se_X8_drawCold (by decide) y0 (show 22 < fnx σ by omega) rfl (Nat.le_of_ble_eq_true rfl) (Nat.le_of_ble_eq_true rfl) ?_
        refine t_X8_drawCold (σ := fsI σ 0 13 (nI (a + 1))) Ms ww8 Gr hD Yr Yt hW hC hn9 (fun σ1 Sm1 Yf1 => fK_i ?_)
        show fEv g _ mX9_followPlan 94 [some (.ref 0), some (.int a1), some (.int (nI i)), some (.int (nI (mfill D S (P i))))] [.int (nI ((mdc D S sd).1)), .int (nI (mfill D S (P i))), .ref 22] σ1 Q
        obtain ⟨⟨m1, Yr1⟩, Yt1⟩ := Yf1
        have Ms1 := (show fMs g (fsI σ 0 13 (nI (a + 1))) from Ms).sm Sm1
        have Gr1 : fGr σ1 2 D := (show fGr (fsI σ 0 13 (nI (a + 1))) 2 D from Gr).y Sm1 ww8
        have H9 : fSm fFP σ (fsI σ 0 13 (nI (a + 1))) := (fSm_I (Or.inl rfl))
        have k9 : ∀ j, j ≠ 13 → fI (fsI σ 0 13 (nI (a + 1))) 0 j = fI σ 0 j := fun j hj => by rw [fI_I, if_neg (by omega)]
        have i9 : fI (fsI σ 0 13 (nI (a + 1))) 0 13 = nI (a + if mfill D S (P i) = 0 then 1 else 0) := by rw [if_pos c69, fI_I, if_pos ⟨rfl, rfl⟩]
        have j9 : fJ (fsI σ 0 13 (nI (a + 1))) 0 16 = fJ σ 0 16 := rfl
        generalize fsI σ 0 13 (nI (a + 1)) = σ0 at Sm1 H9 k9 i9 j9
        refine e_aload_n dX9_followPlan_94 rfl rfl ?_
        refine e_getR (q := 22) dX9_followPlan_95 fl_RX9_45 (Ms1.s 0 rfl) (Ms1.n (by decide)) rfl (Ms1.r 0 6 rfl) (by unfold fscr; omega) ?_
        refine e_getR (q := 22 + 6) dX9_followPlan_98 fl_RX9_195 y0 (show 22 < fnx σ1 by rw [Ms1.2.1]; decide) rfl (show fR σ1 22 8 = some (22 + 6) from Ms1.r 22 8 rfl) (by unfold fscr; omega) ?_
        refine e_callV (k := 22) [.int (nI (mfill D S (P i))), .int (nI ((mdc D S sd).1)), .ref (22 + 6)] dX9_followPlan_101 cc_X8_goThrough lk_RX9_214 im_X8_goThrough se_X8_goThrough (by decide) y0 (show 22 < fnx σ1 by rw [Ms1.2.1]; decide) rfl (Nat.le_of_ble_eq_true rfl) (Nat.le_of_ble_eq_true rfl) ?_
        refine t_X8_goThroughL Ms1 ww8 Gr1 hD Yr1 Yt1 hW hC (mfill_lt hD S _) (by have := mdc_9 hD S sd; omega) hn9 (fun σ2 Sm2 Yf2 => fK_i ?_)
        show fEv g _ mX9_followPlan 104 [some (.ref 0), some (.int a1), some (.int (nI i)), some (.int (nI (mfill D S (P i))))] [.int (nI ((mgo ldr D (mfill D S (P i)) (mdc D S sd).1 (S, T, (mdc D S sd).2)).1 152) - nI (S 152))] σ2 Q
        refine e_pop dX9_followPlan_104 rfl ?_
        refine e_iinc (v := nI (i + 1)) (L1 := [some (.ref 0), some (.int a1), some (.int (nI (i + 1))), some (.int (nI (mfill D S (P i))))]) dX9_followPlan_105 rfl (show nI i + Int32.ofInt 1 = nI (i + 1) from nI_add i 1) (by decide) rfl ?_
        refine e_goto 29 dX9_followPlan_108 (by decide) ?_
        have hs9 : ¬ (S, T, sd).1 155 = 30 := by show ¬ S 155 = 30; omega
        rw [mplan_s hs9] at h
        have q9 := fW_go (dr := ldr) (fill := mfill D S (P i)) (cold := (mdc D S sd).1) (x := (S, T, (mdc D S sd).2)) hD hW hC hN hn9
        have s12 : fSm fFP σ σ2 := (H9.tr (Sm1.to (fun a (q : 22 ≤ a ∧ a ≤ 22 + 6) => Or.inr (by omega)))).tr (Sm2.to (fun a (q : 22 ≤ a ∧ a ≤ 22 + 6) => Or.inr (by omega)))
        have k12 : ∀ j, fI σ2 0 j = fI σ0 0 j := fun j => (Sm2.i (fun (q : 22 ≤ 0 ∧ 0 ≤ 22 + 6) => by omega) j).trans (Sm1.i (fun (q : 22 ≤ 0 ∧ 0 ≤ 22 + 6) => by omega) j)
        have j12 : fJ σ2 0 16 = fJ σ 0 16 := ((Sm2.j (fun (q : 22 ≤ 0 ∧ 0 ≤ 22 + 6) => by omega) 16).trans (Sm1.j (fun (q : 22 ≤ 0 ∧ 0 ≤ 22 + 6) => by omega) 16)).trans j9
        exact ih (i + 1) _ _ σ2 _ _ _ (by omega) (Ms.sm s12) (Gr.sm s12 (fun i hi q => by unfold fFP at q; omega)) Yf2 q9.1 q9.2.1 q9.2.2.1 ((s12.i (fun q => by unfold fFP at q; omega) 1).trans hpn) (fun j hj => (s12.i (fun q => by unfold fFP at q; omega) j).trans (hP j hj)) ((k12 13).trans i9) (by split <;> omega) (fun σ' Sm' p1 p2 p3 p4 => h σ' (s12.tr Sm') (fun j hj => (p1 j hj).trans ((k12 j).trans (k9 j hj))) (p2.trans j12) p3 p4)
set_option maxRecDepth 20000 in
theorem t_X9_followPlan {g : fGP} {d : Nat} {σ : fAH} {Q : fRes → fAH → Prop} {x : fXS} {a : Int32}  (Ms : fMs g σ) (ok : fOK x) (Ic : fIc σ x) (h : ∀ σ', fSm fFP σ σ' → (∀ j, j ≠ 13 → fI σ' 0 j = fI σ 0 j) → fJ σ' 0 16 = fJ σ 0 16 → fYf σ' 22 (xD x) (mplan (xD x) (iP (xI x)) (ipn (xI x)) 0 ((iS (xI x)), (iT (xI x)), a) 0).1.1 (mplan (xD x) (iP (xI x)) (ipn (xI x)) 0 ((iS (xI x)), (iT (xI x)), a) 0).1.2.1 (mplan (xD x) (iP (xI x)) (ipn (xI x)) 0 ((iS (xI x)), (iT (xI x)), a) 0).1.2.2 → fI σ' 0 13 = nI (mplan (xD x) (iP (xI x)) (ipn (xI x)) 0 ((iS (xI x)), (iT (xI x)), a) 0).2 → Q (.inl none) σ') : fEv g (d + 5) mX9_followPlan 0 (fent [.ref 0, .int a] 4) [] σ Q := by
  obtain ⟨D, ⟨S, T, sd, pn, P, rn, R⟩, B, tp, pl, im, Im⟩ := x
  have hD : fWD D := ok.1
  have hW : fWS D S := ok.2.1.1
  have hC : fWC D S := ok.2.1.2.1
  have hN : fWN S 0 0 := ok.2.1.2.2.1
  have Gr : fGr σ 2 D := Ic.1
  obtain ⟨⟨m, Yr⟩, Yt⟩ : fYf σ 15 D S T sd := Ic.2.1
  have Gs := Ms.ground (k := 2) (by decide)
  have Ys := Ms.yard (k := 15) (by decide)
  obtain ⟨⟨g0, g1, g2, g3, g4, g5⟩, ⟨gn, gK⟩, ⟨gr0, gr1, gr2, gr3, gr4⟩⟩ := id Gs
  obtain ⟨⟨y0, y1, y2, y3, y4, y5, y6⟩, ⟨yn, yK⟩, ⟨yr0, yr1, yr2, yr3, yr4, yr5, yr6⟩⟩ := id Ys
  obtain ⟨t0, t1, t2, t3, t4, t5, t6⟩ := id hD.1
  have np := hW.n hD
  have n5 := hW.2.2.2.2
  have tp6 : tp ≤ 600 := ok.2.2.2.1
  have im3 : im ≤ 3 := ok.2.2.2.2.1
  have pn3 : pn ≤ 30 := ok.2.1.2.2.2.1
  have rn6 : rn ≤ 60 := ok.2.1.2.2.2.2.2.1
  have Dc : fDc σ 29 (S, T, sd, pn, P, rn, R) := Ic.2.2.1
  have w52 := hW.1
  show fEv g (d + 5) mX9_followPlan 0 [some (.ref 0), some (.int a), none, none] [] σ Q
  refine e_aload_n dX9_followPlan_0 rfl rfl ?_
  refine e_getR (q := 22) dX9_followPlan_1 fl_RX9_45 (Ms.s 0 rfl) (Ms.n (by decide)) rfl (Ms.r 0 6 rfl) (by unfold fscr; omega) ?_
  refine e_aload_n dX9_followPlan_4 rfl rfl ?_
  refine e_getR (q := 15) dX9_followPlan_5 fl_RX9_41 (Ms.s 0 rfl) (Ms.n (by decide)) rfl (Ms.r 0 5 rfl) (by unfold fscr; omega) ?_
  refine e_callV (k := 22) [.ref 15] dX9_followPlan_8 cc_X8_copyFrom lk_RX9_323 im_X8_copyFrom se_X8_copyFrom (by decide) (Ms.s 22 rfl) (Ms.n (by decide)) rfl (Nat.le_of_ble_eq_true rfl) (Nat.le_of_ble_eq_true rfl) ?_
  refine t_X8_copyFrom Ms ww8 ww9 (by decide) hD Yr Yt hW (fun σ1 Sm1 Yf1 => fK_v ?_)
  show fEv g _ mX9_followPlan 11 [some (.ref 0), some (.int a), none, none] [] σ1 Q
  refine e_aload_n dX9_followPlan_11 rfl rfl ?_
  refine e_getR (q := 22) dX9_followPlan_12 fl_RX9_45 (Ms.s 0 rfl) ((Ms.sm Sm1).n (by decide)) rfl (Sm1.r (Ms.r 0 6 rfl)) (by unfold fscr; omega) ?_
  refine e_getR (q := 28) dX9_followPlan_15 fl_RX9_195 (Ms.s 22 rfl) ((Ms.sm Sm1).n (by decide)) rfl (Sm1.r (Ms.r 22 8 rfl)) (by unfold fscr; omega) ?_
  refine e_iload_n dX9_followPlan_18 rfl rfl ?_
  refine e_putI dX9_followPlan_19 fl_RX9_199 (Ms.s 28 rfl) ((Ms.sm Sm1).n (by decide)) rfl rfl ?_
  refine e_aload_n dX9_followPlan_22 rfl rfl ?_
  refine e_iconst (nI 0) dX9_followPlan_23 (by decide) ?_
  refine e_putI dX9_followPlan_24 fl_RX9_80 (Ms.s 0 rfl) ((Ms.sm Sm1).n (by decide)) rfl rfl ?_
  refine e_iconst (nI 0) dX9_followPlan_27 (by decide) ?_
  refine e_istore_n (L1 := [some (.ref 0), some (.int a), some (.int (nI 0)), none]) dX9_followPlan_28 rfl (by decide) rfl ?_
  obtain ⟨⟨m1, Yr1⟩, Yt1⟩ := Yf1
  have S1 : fSm fFP σ σ1 := Sm1.to (fun a (q : 22 ≤ a ∧ a ≤ 22 + 6) => Or.inr (by omega))
  have S2 : fSm fFP σ (fsI (fsI σ1 28 0 a) 0 13 (nI 0)) := (S1.tr (fSm_I (Or.inr (by decide)))).tr (fSm_I (Or.inl rfl))
  have k0 : ∀ j, fI σ1 0 j = fI σ 0 j := fun j => Sm1.i (fun (q : 22 ≤ 0 ∧ 0 ≤ 22 + 6) => by omega) j
  exact l_X9_follow hD pn3 ok.2.1.2.2.2.2.1 pn 0 0 _ _ S T a (by omega) (Ms.sm S2) (Gr.sm S2 (fun i hi q => by unfold fFP at q; omega)) ⟨⟨m1, Yr1.sdx a⟩, Yt1.cg (fI_ne (by omega)) (fI_ne (by omega)) rfl rfl⟩ hW hC hN ((S2.i (fun q => by unfold fFP at q; omega) 1).trans Dc.1) (fun j hj => (S2.i (fun q => by unfold fFP at q; omega) j).trans (Dc.2.1 j hj)) (by rw [fI_I, if_pos ⟨rfl, rfl⟩]) (by omega) (fun σ' Sm' p1 p2 p3 p4 => h σ' (S2.tr Sm') (fun j hj => (p1 j hj).trans ((by rw [fI_I, if_neg (by omega), fI_I, if_neg (by omega)] : fI (fsI (fsI σ1 28 0 a) 0 13 (nI 0)) 0 j = fI σ1 0 j).trans (k0 j))) (p2.trans (Sm1.j (fun (q : 22 ≤ 0 ∧ 0 ≤ 22 + 6) => by omega) 16)) p3 p4)
