def vTold (D : fSD) (S : Nat → Nat) (w : Nat) : Int32 := if w < 6 then nI (dT D w) else if w = 6 then nI (S 155) else nI (S 120)
def vSlot (D : fSD) (S : Nat → Nat) (k w : Nat) : Int32 := if w < 4 then nI (dS D k w) else if w = 4 then nI (S (121 + k)) else if w = 5 then nI (mneed D S k) else if w = 6 then nI (bn (mal D S k)) else mo (mpc D S k)
def vOrd (D : fSD) (S : Nat → Nat) (o w : Nat) : Int32 := if w = 5 then nI (S (145 + o)) else nI (dO D o w)
def vSum (D : fSD) (S : Nat → Nat) (w : Nat) : Int32 := if w = 0 then nI (msf (mstn S true) (S 120) 0 + msf (mstn S false) (S 120) 0) else if w = 1 then nI (msf (mstn S true) (S 120) 0) else if w = 2 then nI (msf (mstn S false) (S 120) 0) else if w < 7 then nI (S (148 + w)) else nI (mct (muw D S) (S 120) 0)
def vLeft (D : fSD) (S : Nat → Nat) (k w pt : Nat) : Int32 := if mcs D S k (dS D k 2 + w - 1) then nI (msd D S k ((mpc D S k).getD 0) (dS D k 2 + w - 1) pt 0 * msd D S k ((mpc D S k).getD 0) (dS D k 2 + w - 1) pt 1) else -1
def vFit (D : fSD) (S : Nat → Nat) (k w pt : Nat) : Int32 := if mcs D S k (dS D k 2 + w - 1) then mo (mof D (msd D S k ((mpc D S k).getD 0) (dS D k 2 + w - 1) pt 0) (msd D S k ((mpc D S k).getD 0) (dS D k 2 + w - 1) pt 1)) else -1
/-- the nights that may have split: n more from i on -/
def mfc (T : Nat → Int32) (nd : Nat) : Nat → Nat → Int32 → Int32
  | 0, _, b => b
  | n + 1, i, b => mfc T nd n (i + 1) (if T (100 + i) < nI nd then b else b ||| (nI 1 <<< (nI i &&& 31)))
/-- of 8, how many have a cold of at least k: n more colds from c on -/
def moc (D : fSD) (t : Nat) : Nat → Nat → Nat → Nat
  | 0, _, a => a
  | n + 1, c, a => moc D t n (c + 1) (a + mpart D t c)
theorem aw_l {a w : Nat} (h : 1 ≤ a + w) : nI a + (nI w - nI 1) = nI (a + w - 1) := by
  rw [← pk_sub h, ← nI_add, Int32.sub_eq_add_neg, Int32.sub_eq_add_neg, Int32.add_assoc]
theorem mcs_p {D : fSD} {S : Nat → Nat} {k ln : Nat} (h : mcs D S k ln = true) : ∃ p, mpc D S k = some p ∧ (mpc D S k).getD 0 = p ∧ mins D S k p ln = true ∧ p < S 120 := by
  unfold mcs at h
  rw [Bool.and_eq_true] at h
  obtain ⟨p, h1, h2, h3, h4⟩ := mal_pc h.1
  rw [h1] at h
  exact ⟨p, h1, by rw [h1]; rfl, h.2, h2⟩
set_option maxRecDepth 20000 in
theorem t_X9_fault {g : fGP} {d : Nat} {σ : fAH} {Q : fRes → fAH → Prop} {x : fXS}  (Ms : fMs g σ) (ok : fOK x) (Ic : fIc σ x) (h : Q (.inl (some (.int (xp x)))) σ) : fEv g (d) mX9_fault 0 (fent [.ref 0] 1) [] σ Q := by
  obtain ⟨D, ⟨S, T, sd, pn, P, rn, R⟩, B, tp, pl, im, Im⟩ := x
  have hD : fWD D := ok.1
  have hW : fWS D S := ok.2.1.1
  have hC : fWC D S := ok.2.1.2.1
  have hN : fWN S 0 0 := ok.2.1.2.2.1
  have Gr : fGr σ 2 D := Ic.1
  obtain ⟨⟨m, Yr⟩, Yt⟩ : fYf σ 15 D S T sd := Ic.2.1
  have Gs := Ms.ground (k := 2) (by decide)
  have Ys := Ms.yard (k := 15) (by decide)
  obtain ⟨⟨g0, g1, g2, g3, g4, g5⟩, ⟨gn, gK⟩, ⟨gr0, gr1, gr2, gr3, gr4⟩⟩ := id Gs
  obtain ⟨⟨y0, y1, y2, y3, y4, y5, y6⟩, ⟨yn, yK⟩, ⟨yr0, yr1, yr2, yr3, yr4, yr5, yr6⟩⟩ := id Ys
  obtain ⟨t0, t1, t2, t3, t4, t5, t6⟩ := id hD.1
  have np := hW.n hD
  have n5 := hW.2.2.2.2
  have tp6 : tp ≤ 600 := ok.2.2.2.1
  have im3 : im ≤ 3 := ok.2.2.2.2.1
  have pn3 : pn ≤ 30 := ok.2.1.2.2.2.1
  have rn6 : rn ≤ 60 := ok.2.1.2.2.2.2.2.1
  have Dc : fDc σ 29 (S, T, sd, pn, P, rn, R) := Ic.2.2.1
  have w52 := hW.1
  show fEv g (d) mX9_fault 0 [some (.ref 0)] [] σ Q
  refine e_aload_n dX9_fault_0 rfl rfl ?_
  refine e_getI dX9_fault_1 fl_RX9_17 (Ms.s 0 rfl) (Ms.n (by decide)) rfl ?_
  refine e_int (pl) Ic.2.2.2.1.2.2.1 ?_
  exact e_ireturn .int dX9_fault_4 rfl rfl h
set_option maxRecDepth 20000 in
theorem t_X9_told {g : fGP} {d : Nat} {σ : fAH} {Q : fRes → fAH → Prop} {x : fXS} {w : Nat}  (Ms : fMs g σ) (ok : fOK x) (Ic : fIc σ x) (hw : w < 8) (h : Q (.inl (some (.int (vTold (xD x) (iS (xI x)) w)))) σ) : fEv g (d) mX9_told 0 (fent [.ref 0, .int (nI w)] 2) [] σ Q := by
  obtain ⟨D, ⟨S, T, sd, pn, P, rn, R⟩, B, tp, pl, im, Im⟩ := x
  have hD : fWD D := ok.1
  have hW : fWS D S := ok.2.1.1
  have hC : fWC D S := ok.2.1.2.1
  have hN : fWN S 0 0 := ok.2.1.2.2.1
  have Gr : fGr σ 2 D := Ic.1
  obtain ⟨⟨m, Yr⟩, Yt⟩ : fYf σ 15 D S T sd := Ic.2.1
  have Gs := Ms.ground (k := 2) (by decide)
  have Ys := Ms.yard (k := 15) (by decide)
  obtain ⟨⟨g0, g1, g2, g3, g4, g5⟩, ⟨gn, gK⟩, ⟨gr0, gr1, gr2, gr3, gr4⟩⟩ := id Gs
  obtain ⟨⟨y0, y1, y2, y3, y4, y5, y6⟩, ⟨yn, yK⟩, ⟨yr0, yr1, yr2, yr3, yr4, yr5, yr6⟩⟩ := id Ys
  obtain ⟨t0, t1, t2, t3, t4, t5, t6⟩ := id hD.1
  have np := hW.n hD
  have n5 := hW.2.2.2.2
  have tp6 : tp ≤ 600 := ok.2.2.2.1
  have im3 : im ≤ 3 := ok.2.2.2.2.1
  have pn3 : pn ≤ 30 := ok.2.1.2.2.2.1
  have rn6 : rn ≤ 60 := ok.2.1.2.2.2.2.2.1
  have Dc : fDc σ 29 (S, T, sd, pn, P, rn, R) := Ic.2.2.1
  have w52 := hW.1
  rcases (show w = 0 ∨ w = 1 ∨ w = 2 ∨ w = 3 ∨ w = 4 ∨ w = 5 ∨ w = 6 ∨ w = 7 by omega) with rfl | rfl | rfl | rfl | rfl | rfl | rfl | rfl
  · show fEv g (d) mX9_told 0 [some (.ref 0), some (.int (nI 0))] [] σ Q
    refine e_iload_n dX9_told_0 rfl rfl ?_
    refine e_tswIn (off := 47) 48 dX9_told_1 (by decide) (by decide) (by decide) (by decide) ?_
    refine e_aload_n dX9_told_48 rfl rfl ?_
    refine e_getR (q := 2) dX9_told_49 fl_RX9_23 (Ms.s 0 rfl) (Ms.n (by decide)) rfl (Ms.r 0 3 rfl) (by unfold fscr; omega) ?_
    refine e_getI dX9_told_52 fl_RX9_124 g0 (show 2 < fnx σ by omega) rfl ?_
    refine e_int (nI (dT D 0)) Gr.1.1 ?_
    exact e_ireturn .int dX9_told_55 rfl rfl h
  · show fEv g (d) mX9_told 0 [some (.ref 0), some (.int (nI 1))] [] σ Q
    refine e_iload_n dX9_told_0 rfl rfl ?_
    refine e_tswIn (off := 55) 56 dX9_told_1 (by decide) (by decide) (by decide) (by decide) ?_
    refine e_aload_n dX9_told_56 rfl rfl ?_
    refine e_getR (q := 2) dX9_told_57 fl_RX9_23 (Ms.s 0 rfl) (Ms.n (by decide)) rfl (Ms.r 0 3 rfl) (by unfold fscr; omega) ?_
    refine e_getI dX9_told_60 fl_RX9_127 g0 (show 2 < fnx σ by omega) rfl ?_
    refine e_int (nI (dT D 1)) Gr.1.2.1 ?_
    exact e_ireturn .int dX9_told_63 rfl rfl h
  · show fEv g (d) mX9_told 0 [some (.ref 0), some (.int (nI 2))] [] σ Q
    refine e_iload_n dX9_told_0 rfl rfl ?_
    refine e_tswIn (off := 63) 64 dX9_told_1 (by decide) (by decide) (by decide) (by decide) ?_
    refine e_aload_n dX9_told_64 rfl rfl ?_
    refine e_getR (q := 2) dX9_told_65 fl_RX9_23 (Ms.s 0 rfl) (Ms.n (by decide)) rfl (Ms.r 0 3 rfl) (by unfold fscr; omega) ?_
    refine e_getI dX9_told_68 fl_RX9_130 g0 (show 2 < fnx σ by omega) rfl ?_
    refine e_int (nI (dT D 2)) Gr.1.2.2.1 ?_
    exact e_ireturn .int dX9_told_71 rfl rfl h
  · show fEv g (d) mX9_told 0 [some (.ref 0), some (.int (nI 3))] [] σ Q
    refine e_iload_n dX9_told_0 rfl rfl ?_
    refine e_tswIn (off := 71) 72 dX9_told_1 (by decide) (by decide) (by decide) (by decide) ?_
    refine e_aload_n dX9_told_72 rfl rfl ?_
    refine e_getR (q := 2) dX9_told_73 fl_RX9_23 (Ms.s 0 rfl) (Ms.n (by decide)) rfl (Ms.r 0 3 rfl) (by unfold fscr; omega) ?_
    refine e_getI dX9_told_76 fl_RX9_133 g0 (show 2 < fnx σ by omega) rfl ?_
    refine e_int (nI (dT D 3)) Gr.1.2.2.2.2.1 ?_
    exact e_ireturn .int dX9_told_79 rfl rfl h
  · show fEv g (d) mX9_told 0 [some (.ref 0), some (.int (nI 4))] [] σ Q
    refine e_iload_n dX9_told_0 rfl rfl ?_
    refine e_tswIn (off := 79) 80 dX9_told_1 (by decide) (by decide) (by decide) (by decide) ?_
    refine e_aload_n dX9_told_80 rfl rfl ?_
    refine e_getR (q := 2) dX9_told_81 fl_RX9_23 (Ms.s 0 rfl) (Ms.n (by decide)) rfl (Ms.r 0 3 rfl) (by unfold fscr; omega) ?_
    refine e_getI dX9_told_84 fl_RX9_136 g0 (show 2 < fnx σ by omega) rfl ?_
    refine e_int (nI (dT D 4)) Gr.1.2.2.2.2.2.1 ?_
    exact e_ireturn .int dX9_told_87 rfl rfl h
  · show fEv g (d) mX9_told 0 [some (.ref 0), some (.int (nI 5))] [] σ Q
    refine e_iload_n dX9_told_0 rfl rfl ?_
    refine e_tswIn (off := 87) 88 dX9_told_1 (by decide) (by decide) (by decide) (by decide) ?_
    refine e_aload_n dX9_told_88 rfl rfl ?_
    refine e_getR (q := 2) dX9_told_89 fl_RX9_23 (Ms.s 0 rfl) (Ms.n (by decide)) rfl (Ms.r 0 3 rfl) (by unfold fscr; omega) ?_
    refine e_getI dX9_told_92 fl_RX9_139 g0 (show 2 < fnx σ by omega) rfl ?_
    refine e_int (nI (dT D 5)) Gr.1.2.2.2.2.2.2 ?_
    exact e_ireturn .int dX9_told_95 rfl rfl h
  · show fEv g (d) mX9_told 0 [some (.ref 0), some (.int (nI 6))] [] σ Q
    refine e_iload_n dX9_told_0 rfl rfl ?_
    refine e_tswIn (off := 95) 96 dX9_told_1 (by decide) (by decide) (by decide) (by decide) ?_
    refine e_aload_n dX9_told_96 rfl rfl ?_
    refine e_getR (q := 15) dX9_told_97 fl_RX9_41 (Ms.s 0 rfl) (Ms.n (by decide)) rfl (Ms.r 0 5 rfl) (by unfold fscr; omega) ?_
    refine e_getI dX9_told_100 fl_RX9_142 y0 (show 15 < fnx σ by omega) rfl ?_
    refine e_int (nI (S 155)) Yr.1.2.2.1 ?_
    exact e_ireturn .int dX9_told_103 rfl rfl h
  · show fEv g (d) mX9_told 0 [some (.ref 0), some (.int (nI 7))] [] σ Q
    refine e_iload_n dX9_told_0 rfl rfl ?_
    refine e_tswIn (off := 103) 104 dX9_told_1 (by decide) (by decide) (by decide) (by decide) ?_
    refine e_aload_n dX9_told_104 rfl rfl ?_
    refine e_getR (q := 15) dX9_told_105 fl_RX9_41 (Ms.s 0 rfl) (Ms.n (by decide)) rfl (Ms.r 0 5 rfl) (by unfold fscr; omega) ?_
    refine e_getI dX9_told_108 fl_RX9_145 y0 (show 15 < fnx σ by omega) rfl ?_
    refine e_int (nI (S 120)) Yr.1.1 ?_
    exact e_ireturn .int dX9_told_111 rfl rfl h
set_option maxRecDepth 20000 in
theorem t_X9_toldE {g : fGP} {d : Nat} {σ : fAH} {Q : fRes → fAH → Prop} {x : fXS} {a : Int32}  (Ms : fMs g σ) (ok : fOK x) (Ic : fIc σ x) (hv : ¬ (nI 0 ≤ a ∧ a ≤ nI 7)) (rm : fnx σ + fgb σ + 1 ≤ 601024 ∧ fsu σ + 6 ≤ 7293034) (h : Q (.inr "java/lang/IllegalArgumentException") (fthr σ)) : fEv g d mX9_told 0 (fent [.ref 0, .int a] 2) [] σ Q := by
  show fEv g d mX9_told 0 [some (.ref 0), some (.int a)] [] σ Q
  refine e_iload_n dX9_told_0 rfl rfl ?_
  refine e_tswOut 112 dX9_told_1 (tsw_out (k := 7) (by decide) hv) (by decide) ?_
  exact e_throwS rfl rfl tw_A (fstr_m 1 rfl) dX9_told_112 dX9_told_115 dX9_told_116 dX9_told_118 dX9_told_121 (Nat.le_of_ble_eq_true rfl) rm.1 rm.2 h
set_option maxRecDepth 20000 in
theorem t_X9_sumsE {g : fGP} {d : Nat} {σ : fAH} {Q : fRes → fAH → Prop} {x : fXS} {a : Int32}  (Ms : fMs g σ) (ok : fOK x) (Ic : fIc σ x) (hv : ¬ (nI 0 ≤ a ∧ a ≤ nI 7)) (rm : fnx σ + fgb σ + 1 ≤ 601024 ∧ fsu σ + 6 ≤ 7293034) (h : Q (.inr "java/lang/IllegalArgumentException") (fthr σ)) : fEv g d mX9_sums 0 (fent [.ref 0, .int a] 2) [] σ Q := by
  show fEv g d mX9_sums 0 [some (.ref 0), some (.int a)] [] σ Q
  refine e_iload_n dX9_sums_0 rfl rfl ?_
  refine e_tswOut 124 dX9_sums_1 (tsw_out (k := 7) (by decide) hv) (by decide) ?_
  exact e_throwS rfl rfl tw_A (fstr_m 1 rfl) dX9_sums_124 dX9_sums_127 dX9_sums_128 dX9_sums_130 dX9_sums_133 (Nat.le_of_ble_eq_true rfl) rm.1 rm.2 h
set_option maxRecDepth 20000 in
theorem t_X9_slot {g : fGP} {d : Nat} {σ : fAH} {Q : fRes → fAH → Prop} {x : fXS} {k w : Nat}  (Ms : fMs g σ) (ok : fOK x) (Ic : fIc σ x) (hk : k < dT (xD x) 1) (hw : w < 8) (h : Q (.inl (some (.int (vSlot (xD x) (iS (xI x)) k w)))) σ) : fEv g (d + 3) mX9_slot 0 (fent [.ref 0, .int (nI k), .int (nI w)] 3) [] σ Q := by
  obtain ⟨D, ⟨S, T, sd, pn, P, rn, R⟩, B, tp, pl, im, Im⟩ := x
  have hD : fWD D := ok.1
  have hW : fWS D S := ok.2.1.1
  have hC : fWC D S := ok.2.1.2.1
  have hN : fWN S 0 0 := ok.2.1.2.2.1
  have Gr : fGr σ 2 D := Ic.1
  obtain ⟨⟨m, Yr⟩, Yt⟩ : fYf σ 15 D S T sd := Ic.2.1
  have Gs := Ms.ground (k := 2) (by decide)
  have Ys := Ms.yard (k := 15) (by decide)
  obtain ⟨⟨g0, g1, g2, g3, g4, g5⟩, ⟨gn, gK⟩, ⟨gr0, gr1, gr2, gr3, gr4⟩⟩ := id Gs
  obtain ⟨⟨y0, y1, y2, y3, y4, y5, y6⟩, ⟨yn, yK⟩, ⟨yr0, yr1, yr2, yr3, yr4, yr5, yr6⟩⟩ := id Ys
  obtain ⟨t0, t1, t2, t3, t4, t5, t6⟩ := id hD.1
  have np := hW.n hD
  have n5 := hW.2.2.2.2
  have tp6 : tp ≤ 600 := ok.2.2.2.1
  have im3 : im ≤ 3 := ok.2.2.2.2.1
  have pn3 : pn ≤ 30 := ok.2.1.2.2.2.1
  have rn6 : rn ≤ 60 := ok.2.1.2.2.2.2.2.1
  have Dc : fDc σ 29 (S, T, sd, pn, P, rn, R) := Ic.2.2.1
  have w52 := hW.1
  have hk : k < dT D 1 := hk
  rcases (show w = 0 ∨ w = 1 ∨ w = 2 ∨ w = 3 ∨ w = 4 ∨ w = 5 ∨ w = 6 ∨ w = 7 by omega) with rfl | rfl | rfl | rfl | rfl | rfl | rfl | rfl
  · show fEv g (d + 3) mX9_slot 0 [some (.ref 0), some (.int (nI k)), some (.int (nI 0))] [] σ Q
    refine e_aload_n dX9_slot_0 rfl rfl ?_
    refine e_iload_n dX9_slot_1 rfl rfl ?_
    refine e_callV (k := 0) [.int (nI k)] dX9_slot_2 cc_X9_checkSlot lk_RX9_150 im_X9_checkSlot se_X9_checkSlot (by decide) (Ms.s 0 rfl) (Ms.n (by decide)) rfl (Nat.le_of_ble_eq_true rfl) (Nat.le_of_ble_eq_true rfl) ?_
    refine t_X9_checkSlot Ms Gr hD (by omega) (fK_v ?_)
    show fEv g _ mX9_slot 5 [some (.ref 0), some (.int (nI k)), some (.int (nI 0))] [] σ Q
    refine e_iload_n dX9_slot_5 rfl rfl ?_
    refine e_iconst (nI 0) dX9_slot_6 (by decide) ?_
    refine e_bipush (nI 7) dX9_slot_7 (by decide) ?_
    refine e_callS [.int (nI 0), .int (nI 0), .int (nI 7)] dX9_slot_9 cc_X9_checkRange lk_RX9_153 st_X9_checkRange in_RX9 rfl (Nat.le_of_ble_eq_true rfl) (Nat.le_of_ble_eq_true rfl) ?_
    refine t_X9_checkRange ⟨(nI_le' (by omega) (by omega)).mpr (by omega), (nI_le' (by omega) (by omega)).mpr (by omega)⟩ (fK_v ?_)
    show fEv g _ mX9_slot 12 [some (.ref 0), some (.int (nI k)), some (.int (nI 0))] [] σ Q
    refine e_iload_n dX9_slot_12 rfl rfl ?_
    refine e_tswOut 89 dX9_slot_13 (by decide) (by decide) ?_
    refine e_aload_n dX9_slot_89 rfl rfl ?_
    refine e_getR (q := 2) dX9_slot_90 fl_RX9_23 (Ms.s 0 rfl) (Ms.n (by decide)) rfl (Ms.r 0 3 rfl) (by unfold fscr; omega) ?_
    refine e_getR (q := 2 + 2) dX9_slot_93 fl_RX9_172 g0 (show 2 < fnx σ by omega) rfl gr1 (by unfold fscr; omega) ?_
    refine e_iload_n dX9_slot_96 rfl rfl ?_
    refine e_iconst (nI 5) dX9_slot_97 (by decide) ?_
    refine e_imul dX9_slot_98 ?_
    refine e_int (nI (k * 5)) (pk_mul k 5) ?_
    refine e_iload_n dX9_slot_99 rfl rfl ?_
    refine e_iadd dX9_slot_100 ?_
    refine e_int (nI (k * 5)) (nI_add (k * 5) 0) ?_
    refine e_iaload (k * 5) dX9_slot_101 g2 (show 2 + 2 < fnx σ by omega) rfl (by omega) (by decide) ?_
    refine e_int (nI (dS D k 0)) (Gr.2.2.1 k (by omega) 0 (by decide)) ?_
    exact e_ireturn .int dX9_slot_102 rfl rfl h
  · show fEv g (d + 3) mX9_slot 0 [some (.ref 0), some (.int (nI k)), some (.int (nI 1))] [] σ Q
    refine e_aload_n dX9_slot_0 rfl rfl ?_
    refine e_iload_n dX9_slot_1 rfl rfl ?_
    refine e_callV (k := 0) [.int (nI k)] dX9_slot_2 cc_X9_checkSlot lk_RX9_150 im_X9_checkSlot se_X9_checkSlot (by decide) (Ms.s 0 rfl) (Ms.n (by decide)) rfl (Nat.le_of_ble_eq_true rfl) (Nat.le_of_ble_eq_true rfl) ?_
    refine t_X9_checkSlot Ms Gr hD (by omega) (fK_v ?_)
    show fEv g _ mX9_slot 5 [some (.ref 0), some (.int (nI k)), some (.int (nI 1))] [] σ Q
    refine e_iload_n dX9_slot_5 rfl rfl ?_
    refine e_iconst (nI 0) dX9_slot_6 (by decide) ?_
    refine e_bipush (nI 7) dX9_slot_7 (by decide) ?_
    refine e_callS [.int (nI 1), .int (nI 0), .int (nI 7)] dX9_slot_9 cc_X9_checkRange lk_RX9_153 st_X9_checkRange in_RX9 rfl (Nat.le_of_ble_eq_true rfl) (Nat.le_of_ble_eq_true rfl) ?_
    refine t_X9_checkRange ⟨(nI_le' (by omega) (by omega)).mpr (by omega), (nI_le' (by omega) (by omega)).mpr (by omega)⟩ (fK_v ?_)
    show fEv g _ mX9_slot 12 [some (.ref 0), some (.int (nI k)), some (.int (nI 1))] [] σ Q
    refine e_iload_n dX9_slot_12 rfl rfl ?_
    refine e_tswOut 89 dX9_slot_13 (by decide) (by decide) ?_
    refine e_aload_n dX9_slot_89 rfl rfl ?_
    refine e_getR (q := 2) dX9_slot_90 fl_RX9_23 (Ms.s 0 rfl) (Ms.n (by decide)) rfl (Ms.r 0 3 rfl) (by unfold fscr; omega) ?_
    refine e_getR (q := 2 + 2) dX9_slot_93 fl_RX9_172 g0 (show 2 < fnx σ by omega) rfl gr1 (by unfold fscr; omega) ?_
    refine e_iload_n dX9_slot_96 rfl rfl ?_
    refine e_iconst (nI 5) dX9_slot_97 (by decide) ?_
    refine e_imul dX9_slot_98 ?_
    refine e_int (nI (k * 5)) (pk_mul k 5) ?_
    refine e_iload_n dX9_slot_99 rfl rfl ?_
    refine e_iadd dX9_slot_100 ?_
    refine e_int (nI (k * 5 + 1)) (nI_add (k * 5) 1) ?_
    refine e_iaload (k * 5 + 1) dX9_slot_101 g2 (show 2 + 2 < fnx σ by omega) rfl (by omega) (by decide) ?_
    refine e_int (nI (dS D k 1)) (Gr.2.2.1 k (by omega) 1 (by omega)) ?_
    exact e_ireturn .int dX9_slot_102 rfl rfl h
  · show fEv g (d + 3) mX9_slot 0 [some (.ref 0), some (.int (nI k)), some (.int (nI 2))] [] σ Q
    refine e_aload_n dX9_slot_0 rfl rfl ?_
    refine e_iload_n dX9_slot_1 rfl rfl ?_
    refine e_callV (k := 0) [.int (nI k)] dX9_slot_2 cc_X9_checkSlot lk_RX9_150 im_X9_checkSlot se_X9_checkSlot (by decide) (Ms.s 0 rfl) (Ms.n (by decide)) rfl (Nat.le_of_ble_eq_true rfl) (Nat.le_of_ble_eq_true rfl) ?_
    refine t_X9_checkSlot Ms Gr hD (by omega) (fK_v ?_)
    show fEv g _ mX9_slot 5 [some (.ref 0), some (.int (nI k)), some (.int (nI 2))] [] σ Q
    refine e_iload_n dX9_slot_5 rfl rfl ?_
    refine e_iconst (nI 0) dX9_slot_6 (by decide) ?_
    refine e_bipush (nI 7) dX9_slot_7 (by decide) ?_
    refine e_callS [.int (nI 2), .int (nI 0), .int (nI 7)] dX9_slot_9 cc_X9_checkRange lk_RX9_153 st_X9_checkRange in_RX9 rfl (Nat.le_of_ble_eq_true rfl) (Nat.le_of_ble_eq_true rfl) ?_
    refine t_X9_checkRange ⟨(nI_le' (by omega) (by omega)).mpr (by omega), (nI_le' (by omega) (by omega)).mpr (by omega)⟩ (fK_v ?_)
    show fEv g _ mX9_slot 12 [some (.ref 0), some (.int (nI k)), some (.int (nI 2))] [] σ Q
    refine e_iload_n dX9_slot_12 rfl rfl ?_
    refine e_tswOut 89 dX9_slot_13 (by decide) (by decide) ?_
    refine e_aload_n dX9_slot_89 rfl rfl ?_
    refine e_getR (q := 2) dX9_slot_90 fl_RX9_23 (Ms.s 0 rfl) (Ms.n (by decide)) rfl (Ms.r 0 3 rfl) (by unfold fscr; omega) ?_
    refine e_getR (q := 2 + 2) dX9_slot_93 fl_RX9_172 g0 (show 2 < fnx σ by omega) rfl gr1 (by unfold fscr; omega) ?_
    refine e_iload_n dX9_slot_96 rfl rfl ?_
    refine e_iconst (nI 5) dX9_slot_97 (by decide) ?_
    refine e_imul dX9_slot_98 ?_
    refine e_int (nI (k * 5)) (pk_mul k 5) ?_
    refine e_iload_n dX9_slot_99 rfl rfl ?_
    refine e_iadd dX9_slot_100 ?_
    refine e_int (nI (k * 5 + 2)) (nI_add (k * 5) 2) ?_
    refine e_iaload (k * 5 + 2) dX9_slot_101 g2 (show 2 + 2 < fnx σ by omega) rfl (by omega) (by decide) ?_
    refine e_int (nI (dS D k 2)) (Gr.2.2.1 k (by omega) 2 (by omega)) ?_
    exact e_ireturn .int dX9_slot_102 rfl rfl h
  · show fEv g (d + 3) mX9_slot 0 [some (.ref 0), some (.int (nI k)), some (.int (nI 3))] [] σ Q
    refine e_aload_n dX9_slot_0 rfl rfl ?_
    refine e_iload_n dX9_slot_1 rfl rfl ?_
    refine e_callV (k := 0) [.int (nI k)] dX9_slot_2 cc_X9_checkSlot lk_RX9_150 im_X9_checkSlot se_X9_checkSlot (by decide) (Ms.s 0 rfl) (Ms.n (by decide)) rfl (Nat.le_of_ble_eq_true rfl) (Nat.le_of_ble_eq_true rfl) ?_
    refine t_X9_checkSlot Ms Gr hD (by omega) (fK_v ?_)
    show fEv g _ mX9_slot 5 [some (.ref 0), some (.int (nI k)), some (.int (nI 3))] [] σ Q
    refine e_iload_n dX9_slot_5 rfl rfl ?_
    refine e_iconst (nI 0) dX9_slot_6 (by decide) ?_
    refine e_bipush (nI 7) dX9_slot_7 (by decide) ?_
    refine e_callS [.int (nI 3), .int (nI 0), .int (nI 7)] dX9_slot_9 cc_X9_checkRange lk_RX9_153 st_X9_checkRange in_RX9 rfl (Nat.le_of_ble_eq_true rfl) (Nat.le_of_ble_eq_true rfl) ?_
    refine t_X9_checkRange ⟨(nI_le' (by omega) (by omega)).mpr (by omega), (nI_le' (by omega) (by omega)).mpr (by omega)⟩ (fK_v ?_)
    show fEv g _ mX9_slot 12 [some (.ref 0), some (.int (nI k)), some (.int (nI 3))] [] σ Q
    refine e_iload_n dX9_slot_12 rfl rfl ?_
    refine e_tswOut 89 dX9_slot_13 (by decide) (by decide) ?_
    refine e_aload_n dX9_slot_89 rfl rfl ?_
    refine e_getR (q := 2) dX9_slot_90 fl_RX9_23 (Ms.s 0 rfl) (Ms.n (by decide)) rfl (Ms.r 0 3 rfl) (by unfold fscr; omega) ?_
    refine e_getR (q := 2 + 2) dX9_slot_93 fl_RX9_172 g0 (show 2 < fnx σ by omega) rfl gr1 (by unfold fscr; omega) ?_
    refine e_iload_n dX9_slot_96 rfl rfl ?_
    refine e_iconst (nI 5) dX9_slot_97 (by decide) ?_
    refine e_imul dX9_slot_98 ?_
    refine e_int (nI (k * 5)) (pk_mul k 5) ?_
    refine e_iload_n dX9_slot_99 rfl rfl ?_
    refine e_iadd dX9_slot_100 ?_
    refine e_int (nI (k * 5 + 3)) (nI_add (k * 5) 3) ?_
    refine e_iaload (k * 5 + 3) dX9_slot_101 g2 (show 2 + 2 < fnx σ by omega) rfl (by omega) (by decide) ?_
    refine e_int (nI (dS D k 3)) (Gr.2.2.1 k (by omega) 3 (by omega)) ?_
    exact e_ireturn .int dX9_slot_102 rfl rfl h
  · show fEv g (d + 3) mX9_slot 0 [some (.ref 0), some (.int (nI k)), some (.int (nI 4))] [] σ Q
    refine e_aload_n dX9_slot_0 rfl rfl ?_
    refine e_iload_n dX9_slot_1 rfl rfl ?_
    refine e_callV (k := 0) [.int (nI k)] dX9_slot_2 cc_X9_checkSlot lk_RX9_150 im_X9_checkSlot se_X9_checkSlot (by decide) (Ms.s 0 rfl) (Ms.n (by decide)) rfl (Nat.le_of_ble_eq_true rfl) (Nat.le_of_ble_eq_true rfl) ?_
    refine t_X9_checkSlot Ms Gr hD (by omega) (fK_v ?_)
    show fEv g _ mX9_slot 5 [some (.ref 0), some (.int (nI k)), some (.int (nI 4))] [] σ Q
    refine e_iload_n dX9_slot_5 rfl rfl ?_
    refine e_iconst (nI 0) dX9_slot_6 (by decide) ?_
    refine e_bipush (nI 7) dX9_slot_7 (by decide) ?_
    refine e_callS [.int (nI 4), .int (nI 0), .int (nI 7)] dX9_slot_9 cc_X9_checkRange lk_RX9_153 st_X9_checkRange in_RX9 rfl (Nat.le_of_ble_eq_true rfl) (Nat.le_of_ble_eq_true rfl) ?_
    refine t_X9_checkRange ⟨(nI_le' (by omega) (by omega)).mpr (by omega), (nI_le' (by omega) (by omega)).mpr (by omega)⟩ (fK_v ?_)
    show fEv g _ mX9_slot 12 [some (.ref 0), some (.int (nI k)), some (.int (nI 4))] [] σ Q
    refine e_iload_n dX9_slot_12 rfl rfl ?_
    refine e_tswIn (off := 31) 44 dX9_slot_13 (by decide) (by decide) (by decide) (by decide) ?_
    refine e_aload_n dX9_slot_44 rfl rfl ?_
    refine e_getR (q := 15) dX9_slot_45 fl_RX9_41 (Ms.s 0 rfl) (Ms.n (by decide)) rfl (Ms.r 0 5 rfl) (by unfold fscr; omega) ?_
    refine e_getR (q := 15 + 2) dX9_slot_48 fl_RX9_157 y0 (show 15 < fnx σ by omega) rfl yr2 (by unfold fscr; omega) ?_
    refine e_iload_n dX9_slot_51 rfl rfl ?_
    refine e_iaload k dX9_slot_52 y2 (show 15 + 2 < fnx σ by omega) rfl (by omega) (by decide) ?_
    refine e_int (nI (S (121 + k))) (Yr.2.2.1 k (by omega)) ?_
    exact e_ireturn .int dX9_slot_53 rfl rfl h
  · show fEv g (d + 3) mX9_slot 0 [some (.ref 0), some (.int (nI k)), some (.int (nI 5))] [] σ Q
    refine e_aload_n dX9_slot_0 rfl rfl ?_
    refine e_iload_n dX9_slot_1 rfl rfl ?_
    refine e_callV (k := 0) [.int (nI k)] dX9_slot_2 cc_X9_checkSlot lk_RX9_150 im_X9_checkSlot se_X9_checkSlot (by decide) (Ms.s 0 rfl) (Ms.n (by decide)) rfl (Nat.le_of_ble_eq_true rfl) (Nat.le_of_ble_eq_true rfl) ?_
    refine t_X9_checkSlot Ms Gr hD (by omega) (fK_v ?_)
    show fEv g _ mX9_slot 5 [some (.ref 0), some (.int (nI k)), some (.int (nI 5))] [] σ Q
    refine e_iload_n dX9_slot_5 rfl rfl ?_
    refine e_iconst (nI 0) dX9_slot_6 (by decide) ?_
    refine e_bipush (nI 7) dX9_slot_7 (by decide) ?_
    refine e_callS [.int (nI 5), .int (nI 0), .int (nI 7)] dX9_slot_9 cc_X9_checkRange lk_RX9_153 st_X9_checkRange in_RX9 rfl (Nat.le_of_ble_eq_true rfl) (Nat.le_of_ble_eq_true rfl) ?_
    refine t_X9_checkRange ⟨(nI_le' (by omega) (by omega)).mpr (by omega), (nI_le' (by omega) (by omega)).mpr (by omega)⟩ (fK_v ?_)
    show fEv g _ mX9_slot 12 [some (.ref 0), some (.int (nI k)), some (.int (nI 5))] [] σ Q
    refine e_iload_n dX9_slot_12 rfl rfl ?_
    refine e_tswIn (off := 41) 54 dX9_slot_13 (by decide) (by decide) (by decide) (by decide) ?_
    refine e_aload_n dX9_slot_54 rfl rfl ?_
    refine e_getR (q := 15) dX9_slot_55 fl_RX9_41 (Ms.s 0 rfl) (Ms.n (by decide)) rfl (Ms.r 0 5 rfl) (by unfold fscr; omega) ?_
    refine e_iload_n dX9_slot_58 rfl rfl ?_
    refine e_callV (k := 15) [.int (nI k)] dX9_slot_59 cc_X8_needOf lk_RX9_161 im_X8_needOf se_X8_needOf (by decide) y0 (show 15 < fnx σ by omega) rfl (Nat.le_of_ble_eq_true rfl) (Nat.le_of_ble_eq_true rfl) ?_
    refine t_X8_needOf Gs Gr hD Ys Yr hW (by omega) (fK_i ?_)
    show fEv g _ mX9_slot 62 [some (.ref 0), some (.int (nI k)), some (.int (nI 5))] [.int (nI (mneed D S k))] σ Q
    exact e_ireturn .int dX9_slot_62 rfl rfl h
  · show fEv g (d + 3) mX9_slot 0 [some (.ref 0), some (.int (nI k)), some (.int (nI 6))] [] σ Q
    refine e_aload_n dX9_slot_0 rfl rfl ?_
    refine e_iload_n dX9_slot_1 rfl rfl ?_
    refine e_callV (k := 0) [.int (nI k)] dX9_slot_2 cc_X9_checkSlot lk_RX9_150 im_X9_checkSlot se_X9_checkSlot (by decide) (Ms.s 0 rfl) (Ms.n (by decide)) rfl (Nat.le_of_ble_eq_true rfl) (Nat.le_of_ble_eq_true rfl) ?_
    refine t_X9_checkSlot Ms Gr hD (by omega) (fK_v ?_)
    show fEv g _ mX9_slot 5 [some (.ref 0), some (.int (nI k)), some (.int (nI 6))] [] σ Q
    refine e_iload_n dX9_slot_5 rfl rfl ?_
    refine e_iconst (nI 0) dX9_slot_6 (by decide) ?_
    refine e_bipush (nI 7) dX9_slot_7 (by decide) ?_
    refine e_callS [.int (nI 6), .int (nI 0), .int (nI 7)] dX9_slot_9 cc_X9_checkRange lk_RX9_153 st_X9_checkRange in_RX9 rfl (Nat.le_of_ble_eq_true rfl) (Nat.le_of_ble_eq_true rfl) ?_
    refine t_X9_checkRange ⟨(nI_le' (by omega) (by omega)).mpr (by omega), (nI_le' (by omega) (by omega)).mpr (by omega)⟩ (fK_v ?_)
    show fEv g _ mX9_slot 12 [some (.ref 0), some (.int (nI k)), some (.int (nI 6))] [] σ Q
    refine e_iload_n dX9_slot_12 rfl rfl ?_
    refine e_tswIn (off := 50) 63 dX9_slot_13 (by decide) (by decide) (by decide) (by decide) ?_
    refine e_aload_n dX9_slot_63 rfl rfl ?_
    refine e_getR (q := 15) dX9_slot_64 fl_RX9_41 (Ms.s 0 rfl) (Ms.n (by decide)) rfl (Ms.r 0 5 rfl) (by unfold fscr; omega) ?_
    refine e_iload_n dX9_slot_67 rfl rfl ?_
    refine e_callV (k := 15) [.int (nI k)] dX9_slot_68 cc_X8_isAlive lk_RX9_165 im_X8_isAlive se_X8_isAlive (by decide) y0 (show 15 < fnx σ by omega) rfl (Nat.le_of_ble_eq_true rfl) (Nat.le_of_ble_eq_true rfl) ?_
    refine t_X8_isAlive Gs Gr hD Ys Yr hW (by omega) (fK_i ?_)
    show fEv g _ mX9_slot 71 [some (.ref 0), some (.int (nI k)), some (.int (nI 6))] [.int (nI (bn (mal D S k)))] σ Q
    refine e_if_eq 78 dX9_slot_71 (by decide) (fun c71 => ?_) (fun c71 => ?_)
    · have c71 := bn0 c71
      refine e_iconst (nI 0) dX9_slot_78 (by decide) ?_
      have h : Q (.inl (some (.int (nI (bn (mal D S k)))))) σ := h
      rw [c71] at h
      exact e_ireturn .int dX9_slot_79 rfl rfl h
    · have c71 := bn1 c71
      refine e_iconst (nI 1) dX9_slot_74 (by decide) ?_
      refine e_goto 79 dX9_slot_75 (by decide) ?_
      have h : Q (.inl (some (.int (nI (bn (mal D S k)))))) σ := h
      rw [c71] at h
      exact e_ireturn .int dX9_slot_79 rfl rfl h
  · show fEv g (d + 3) mX9_slot 0 [some (.ref 0), some (.int (nI k)), some (.int (nI 7))] [] σ Q
    refine e_aload_n dX9_slot_0 rfl rfl ?_
    refine e_iload_n dX9_slot_1 rfl rfl ?_
    refine e_callV (k := 0) [.int (nI k)] dX9_slot_2 cc_X9_checkSlot lk_RX9_150 im_X9_checkSlot se_X9_checkSlot (by decide) (Ms.s 0 rfl) (Ms.n (by decide)) rfl (Nat.le_of_ble_eq_true rfl) (Nat.le_of_ble_eq_true rfl) ?_
    refine t_X9_checkSlot Ms Gr hD (by omega) (fK_v ?_)
    show fEv g _ mX9_slot 5 [some (.ref 0), some (.int (nI k)), some (.int (nI 7))] [] σ Q
    refine e_iload_n dX9_slot_5 rfl rfl ?_
    refine e_iconst (nI 0) dX9_slot_6 (by decide) ?_
    refine e_bipush (nI 7) dX9_slot_7 (by decide) ?_
    refine e_callS [.int (nI 7), .int (nI 0), .int (nI 7)] dX9_slot_9 cc_X9_checkRange lk_RX9_153 st_X9_checkRange in_RX9 rfl (Nat.le_of_ble_eq_true rfl) (Nat.le_of_ble_eq_true rfl) ?_
    refine t_X9_checkRange ⟨(nI_le' (by omega) (by omega)).mpr (by omega), (nI_le' (by omega) (by omega)).mpr (by omega)⟩ (fK_v ?_)
    show fEv g _ mX9_slot 12 [some (.ref 0), some (.int (nI k)), some (.int (nI 7))] [] σ Q
    refine e_iload_n dX9_slot_12 rfl rfl ?_
    refine e_tswIn (off := 67) 80 dX9_slot_13 (by decide) (by decide) (by decide) (by decide) ?_
    refine e_aload_n dX9_slot_80 rfl rfl ?_
    refine e_getR (q := 15) dX9_slot_81 fl_RX9_41 (Ms.s 0 rfl) (Ms.n (by decide)) rfl (Ms.r 0 5 rfl) (by unfold fscr; omega) ?_
    refine e_iload_n dX9_slot_84 rfl rfl ?_
    refine e_callV (k := 15) [.int (nI k)] dX9_slot_85 cc_X8_pieceUnder lk_RX9_169 im_X8_pieceUnder se_X8_pieceUnder (by decide) y0 (show 15 < fnx σ by omega) rfl (Nat.le_of_ble_eq_true rfl) (Nat.le_of_ble_eq_true rfl) ?_
    refine t_X8_pieceUnder Gs Gr hD Ys Yr hW (by omega) (fK_i ?_)
    show fEv g _ mX9_slot 88 [some (.ref 0), some (.int (nI k)), some (.int (nI 7))] [.int (mo (mpc D S k))] σ Q
    exact e_ireturn .int dX9_slot_88 rfl rfl h
set_option maxRecDepth 20000 in
theorem t_X9_slotE1 {g : fGP} {d : Nat} {σ : fAH} {Q : fRes → fAH → Prop} {x : fXS} {a b : Int32}  (Ms : fMs g σ) (ok : fOK x) (Ic : fIc σ x) (hv : ¬ (nI 0 ≤ a ∧ a < nI (dT (xD x) 1))) (rm : fnx σ + fgb σ + 1 ≤ 601024 ∧ fsu σ + 6 ≤ 7293034) (h : Q (.inr "java/util/NoSuchElementException") (fthr σ)) : fEv g (d + 1) mX9_slot 0 (fent [.ref 0, .int a, .int b] 3) [] σ Q := by
  obtain ⟨D, ⟨S, T, sd, pn, P, rn, R⟩, B, tp, pl, im, Im⟩ := x
  have hD : fWD D := ok.1
  have hW : fWS D S := ok.2.1.1
  have hC : fWC D S := ok.2.1.2.1
  have hN : fWN S 0 0 := ok.2.1.2.2.1
  have Gr : fGr σ 2 D := Ic.1
  obtain ⟨⟨m, Yr⟩, Yt⟩ : fYf σ 15 D S T sd := Ic.2.1
  have Gs := Ms.ground (k := 2) (by decide)
  have Ys := Ms.yard (k := 15) (by decide)
  obtain ⟨⟨g0, g1, g2, g3, g4, g5⟩, ⟨gn, gK⟩, ⟨gr0, gr1, gr2, gr3, gr4⟩⟩ := id Gs
  obtain ⟨⟨y0, y1, y2, y3, y4, y5, y6⟩, ⟨yn, yK⟩, ⟨yr0, yr1, yr2, yr3, yr4, yr5, yr6⟩⟩ := id Ys
  obtain ⟨t0, t1, t2, t3, t4, t5, t6⟩ := id hD.1
  have np := hW.n hD
  have n5 := hW.2.2.2.2
  have tp6 : tp ≤ 600 := ok.2.2.2.1
  have im3 : im ≤ 3 := ok.2.2.2.2.1
  have pn3 : pn ≤ 30 := ok.2.1.2.2.2.1
  have rn6 : rn ≤ 60 := ok.2.1.2.2.2.2.2.1
  have Dc : fDc σ 29 (S, T, sd, pn, P, rn, R) := Ic.2.2.1
  have w52 := hW.1
  show fEv g (d + 1) mX9_slot 0 [some (.ref 0), some (.int a), some (.int b)] [] σ Q
  refine e_aload_n dX9_slot_0 rfl rfl ?_
  refine e_iload_n dX9_slot_1 rfl rfl ?_
  refine e_callV (k := 0) [.int a] dX9_slot_2 cc_X9_checkSlot lk_RX9_150 im_X9_checkSlot se_X9_checkSlot (by decide) (Ms.s 0 rfl) (Ms.n (by decide)) rfl (Nat.le_of_ble_eq_true rfl) (Nat.le_of_ble_eq_true rfl) ?_
  exact t_X9_checkSlotE Ms Gr hD hv rm (t_out rfl h)
set_option maxRecDepth 20000 in
theorem t_X9_slotE2 {g : fGP} {d : Nat} {σ : fAH} {Q : fRes → fAH → Prop} {x : fXS} {k : Nat} {b : Int32}  (Ms : fMs g σ) (ok : fOK x) (Ic : fIc σ x) (hk : k < dT (xD x) 1) (hv : ¬ (nI 0 ≤ b ∧ b ≤ nI 7)) (rm : fnx σ + fgb σ + 1 ≤ 601024 ∧ fsu σ + 6 ≤ 7293034) (h : Q (.inr "java/lang/IllegalArgumentException") (fthr σ)) : fEv g (d + 1) mX9_slot 0 (fent [.ref 0, .int (nI k), .int b] 3) [] σ Q := by
  obtain ⟨D, ⟨S, T, sd, pn, P, rn, R⟩, B, tp, pl, im, Im⟩ := x
  have hD : fWD D := ok.1
  have hW : fWS D S := ok.2.1.1
  have hC : fWC D S := ok.2.1.2.1
  have hN : fWN S 0 0 := ok.2.1.2.2.1
  have Gr : fGr σ 2 D := Ic.1
  obtain ⟨⟨m, Yr⟩, Yt⟩ : fYf σ 15 D S T sd := Ic.2.1
  have Gs := Ms.ground (k := 2) (by decide)
  have Ys := Ms.yard (k := 15) (by decide)
  obtain ⟨⟨g0, g1, g2, g3, g4, g5⟩, ⟨gn, gK⟩, ⟨gr0, gr1, gr2, gr3, gr4⟩⟩ := id Gs
  obtain ⟨⟨y0, y1, y2, y3, y4, y5, y6⟩, ⟨yn, yK⟩, ⟨yr0, yr1, yr2, yr3, yr4, yr5, yr6⟩⟩ := id Ys
  obtain ⟨t0, t1, t2, t3, t4, t5, t6⟩ := id hD.1
  have np := hW.n hD
  have n5 := hW.2.2.2.2
  have tp6 : tp ≤ 600 := ok.2.2.2.1
  have im3 : im ≤ 3 := ok.2.2.2.2.1
  have pn3 : pn ≤ 30 := ok.2.1.2.2.2.1
  have rn6 : rn ≤ 60 := ok.2.1.2.2.2.2.2.1
  have Dc : fDc σ 29 (S, T, sd, pn, P, rn, R) := Ic.2.2.1
  have w52 := hW.1
  show fEv g (d + 1) mX9_slot 0 [some (.ref 0), some (.int (nI k)), some (.int b)] [] σ Q
  refine e_aload_n dX9_slot_0 rfl rfl ?_
  refine e_iload_n dX9_slot_1 rfl rfl ?_
  refine e_callV (k := 0) [.int (nI k)] dX9_slot_2 cc_X9_checkSlot lk_RX9_150 im_X9_checkSlot se_X9_checkSlot (by decide) (Ms.s 0 rfl) (Ms.n (by decide)) rfl (Nat.le_of_ble_eq_true rfl) (Nat.le_of_ble_eq_true rfl) ?_
  refine t_X9_checkSlot Ms Gr hD (by omega) (fK_v ?_)
  show fEv g _ mX9_slot 5 [some (.ref 0), some (.int (nI k)), some (.int b)] [] σ Q
  refine e_iload_n dX9_slot_5 rfl rfl ?_
  refine e_iconst (nI 0) dX9_slot_6 (by decide) ?_
  refine e_bipush (nI 7) dX9_slot_7 (by decide) ?_
  refine e_callS [.int b, .int (nI 0), .int (nI 7)] dX9_slot_9 cc_X9_checkRange lk_RX9_153 st_X9_checkRange in_RX9 rfl (Nat.le_of_ble_eq_true rfl) (Nat.le_of_ble_eq_true rfl) ?_
  exact t_X9_checkRangeE hv rm (t_out rfl h)
set_option maxRecDepth 20000 in
theorem t_X9_order {g : fGP} {d : Nat} {σ : fAH} {Q : fRes → fAH → Prop} {x : fXS} {k w : Nat}  (Ms : fMs g σ) (ok : fOK x) (Ic : fIc σ x) (hk : k < dT (xD x) 2) (hw : w < 6) (h : Q (.inl (some (.int (vOrd (xD x) (iS (xI x)) k w)))) σ) : fEv g (d + 1) mX9_order 0 (fent [.ref 0, .int (nI k), .int (nI w)] 3) [] σ Q := by
  obtain ⟨D, ⟨S, T, sd, pn, P, rn, R⟩, B, tp, pl, im, Im⟩ := x
  have hD : fWD D := ok.1
  have hW : fWS D S := ok.2.1.1
  have hC : fWC D S := ok.2.1.2.1
  have hN : fWN S 0 0 := ok.2.1.2.2.1
  have Gr : fGr σ 2 D := Ic.1
  obtain ⟨⟨m, Yr⟩, Yt⟩ : fYf σ 15 D S T sd := Ic.2.1
  have Gs := Ms.ground (k := 2) (by decide)
  have Ys := Ms.yard (k := 15) (by decide)
  obtain ⟨⟨g0, g1, g2, g3, g4, g5⟩, ⟨gn, gK⟩, ⟨gr0, gr1, gr2, gr3, gr4⟩⟩ := id Gs
  obtain ⟨⟨y0, y1, y2, y3, y4, y5, y6⟩, ⟨yn, yK⟩, ⟨yr0, yr1, yr2, yr3, yr4, yr5, yr6⟩⟩ := id Ys
  obtain ⟨t0, t1, t2, t3, t4, t5, t6⟩ := id hD.1
  have np := hW.n hD
  have n5 := hW.2.2.2.2
  have tp6 : tp ≤ 600 := ok.2.2.2.1
  have im3 : im ≤ 3 := ok.2.2.2.2.1
  have pn3 : pn ≤ 30 := ok.2.1.2.2.2.1
  have rn6 : rn ≤ 60 := ok.2.1.2.2.2.2.2.1
  have Dc : fDc σ 29 (S, T, sd, pn, P, rn, R) := Ic.2.2.1
  have w52 := hW.1
  have hk : k < dT D 2 := hk
  rcases (show w = 0 ∨ w = 1 ∨ w = 2 ∨ w = 3 ∨ w = 4 ∨ w = 5 by omega) with rfl | rfl | rfl | rfl | rfl | rfl
  · show fEv g (d + 1) mX9_order 0 [some (.ref 0), some (.int (nI k)), some (.int (nI 0))] [] σ Q
    refine e_aload_n dX9_order_0 rfl rfl ?_
    refine e_iload_n dX9_order_1 rfl rfl ?_
    refine e_callV (k := 0) [.int (nI k)] dX9_order_2 cc_X9_checkOrder lk_RX9_175 im_X9_checkOrder se_X9_checkOrder (by decide) (Ms.s 0 rfl) (Ms.n (by decide)) rfl (Nat.le_of_ble_eq_true rfl) (Nat.le_of_ble_eq_true rfl) ?_
    refine t_X9_checkOrder Ms Gr hD (by omega) (fK_v ?_)
    show fEv g _ mX9_order 5 [some (.ref 0), some (.int (nI k)), some (.int (nI 0))] [] σ Q
    refine e_iload_n dX9_order_5 rfl rfl ?_
    refine e_iconst (nI 0) dX9_order_6 (by decide) ?_
    refine e_iconst (nI 5) dX9_order_7 (by decide) ?_
    refine e_callS [.int (nI 0), .int (nI 0), .int (nI 5)] dX9_order_8 cc_X9_checkRange lk_RX9_153 st_X9_checkRange in_RX9 rfl (Nat.le_of_ble_eq_true rfl) (Nat.le_of_ble_eq_true rfl) ?_
    refine t_X9_checkRange ⟨(nI_le' (by omega) (by omega)).mpr (by omega), (nI_le' (by omega) (by omega)).mpr (by omega)⟩ (fK_v ?_)
    show fEv g _ mX9_order 11 [some (.ref 0), some (.int (nI k)), some (.int (nI 0))] [] σ Q
    refine e_iload_n dX9_order_11 rfl rfl ?_
    refine e_iconst (nI 5) dX9_order_12 (by decide) ?_
    refine e_icmp_ne 28 dX9_order_13 (by decide) (fun _ => ?_) (fun c => absurd c (by decide))
    refine e_aload_n dX9_order_28 rfl rfl ?_
    refine e_getR (q := 2) dX9_order_29 fl_RX9_23 (Ms.s 0 rfl) (Ms.n (by decide)) rfl (Ms.r 0 3 rfl) (by unfold fscr; omega) ?_
    refine e_getR (q := 2 + 3) dX9_order_32 fl_RX9_181 g0 (show 2 < fnx σ by omega) rfl gr2 (by unfold fscr; omega) ?_
    refine e_iload_n dX9_order_35 rfl rfl ?_
    refine e_iconst (nI 5) dX9_order_36 (by decide) ?_
    refine e_imul dX9_order_37 ?_
    refine e_int (nI (k * 5)) (pk_mul k 5) ?_
    refine e_iload_n dX9_order_38 rfl rfl ?_
    refine e_iadd dX9_order_39 ?_
    refine e_int (nI (k * 5)) (nI_add (k * 5) 0) ?_
    refine e_iaload (k * 5) dX9_order_40 g3 (show 2 + 3 < fnx σ by omega) rfl (by omega) (by decide) ?_
    refine e_int (nI (dO D k 0)) (Gr.2.2.2.1 k (by omega) 0 (by decide)) ?_
    exact e_ireturn .int dX9_order_41 rfl rfl h
  · show fEv g (d + 1) mX9_order 0 [some (.ref 0), some (.int (nI k)), some (.int (nI 1))] [] σ Q
    refine e_aload_n dX9_order_0 rfl rfl ?_
    refine e_iload_n dX9_order_1 rfl rfl ?_
    refine e_callV (k := 0) [.int (nI k)] dX9_order_2 cc_X9_checkOrder lk_RX9_175 im_X9_checkOrder se_X9_checkOrder (by decide) (Ms.s 0 rfl) (Ms.n (by decide)) rfl (Nat.le_of_ble_eq_true rfl) (Nat.le_of_ble_eq_true rfl) ?_
    refine t_X9_checkOrder Ms Gr hD (by omega) (fK_v ?_)
    show fEv g _ mX9_order 5 [some (.ref 0), some (.int (nI k)), some (.int (nI 1))] [] σ Q
    refine e_iload_n dX9_order_5 rfl rfl ?_
    refine e_iconst (nI 0) dX9_order_6 (by decide) ?_
    refine e_iconst (nI 5) dX9_order_7 (by decide) ?_
    refine e_callS [.int (nI 1), .int (nI 0), .int (nI 5)] dX9_order_8 cc_X9_checkRange lk_RX9_153 st_X9_checkRange in_RX9 rfl (Nat.le_of_ble_eq_true rfl) (Nat.le_of_ble_eq_true rfl) ?_
    refine t_X9_checkRange ⟨(nI_le' (by omega) (by omega)).mpr (by omega), (nI_le' (by omega) (by omega)).mpr (by omega)⟩ (fK_v ?_)
    show fEv g _ mX9_order 11 [some (.ref 0), some (.int (nI k)), some (.int (nI 1))] [] σ Q
    refine e_iload_n dX9_order_11 rfl rfl ?_
    refine e_iconst (nI 5) dX9_order_12 (by decide) ?_
    refine e_icmp_ne 28 dX9_order_13 (by decide) (fun _ => ?_) (fun c => absurd c (by decide))
    refine e_aload_n dX9_order_28 rfl rfl ?_
    refine e_getR (q := 2) dX9_order_29 fl_RX9_23 (Ms.s 0 rfl) (Ms.n (by decide)) rfl (Ms.r 0 3 rfl) (by unfold fscr; omega) ?_
    refine e_getR (q := 2 + 3) dX9_order_32 fl_RX9_181 g0 (show 2 < fnx σ by omega) rfl gr2 (by unfold fscr; omega) ?_
    refine e_iload_n dX9_order_35 rfl rfl ?_
    refine e_iconst (nI 5) dX9_order_36 (by decide) ?_
    refine e_imul dX9_order_37 ?_
    refine e_int (nI (k * 5)) (pk_mul k 5) ?_
    refine e_iload_n dX9_order_38 rfl rfl ?_
    refine e_iadd dX9_order_39 ?_
    refine e_int (nI (k * 5 + 1)) (nI_add (k * 5) 1) ?_
    refine e_iaload (k * 5 + 1) dX9_order_40 g3 (show 2 + 3 < fnx σ by omega) rfl (by omega) (by decide) ?_
    refine e_int (nI (dO D k 1)) (Gr.2.2.2.1 k (by omega) 1 (by omega)) ?_
    exact e_ireturn .int dX9_order_41 rfl rfl h
  · show fEv g (d + 1) mX9_order 0 [some (.ref 0), some (.int (nI k)), some (.int (nI 2))] [] σ Q
    refine e_aload_n dX9_order_0 rfl rfl ?_
    refine e_iload_n dX9_order_1 rfl rfl ?_
    refine e_callV (k := 0) [.int (nI k)] dX9_order_2 cc_X9_checkOrder lk_RX9_175 im_X9_checkOrder se_X9_checkOrder (by decide) (Ms.s 0 rfl) (Ms.n (by decide)) rfl (Nat.le_of_ble_eq_true rfl) (Nat.le_of_ble_eq_true rfl) ?_
    refine t_X9_checkOrder Ms Gr hD (by omega) (fK_v ?_)
    show fEv g _ mX9_order 5 [some (.ref 0), some (.int (nI k)), some (.int (nI 2))] [] σ Q
    refine e_iload_n dX9_order_5 rfl rfl ?_
    refine e_iconst (nI 0) dX9_order_6 (by decide) ?_
    refine e_iconst (nI 5) dX9_order_7 (by decide) ?_
    refine e_callS [.int (nI 2), .int (nI 0), .int (nI 5)] dX9_order_8 cc_X9_checkRange lk_RX9_153 st_X9_checkRange in_RX9 rfl (Nat.le_of_ble_eq_true rfl) (Nat.le_of_ble_eq_true rfl) ?_
    refine t_X9_checkRange ⟨(nI_le' (by omega) (by omega)).mpr (by omega), (nI_le' (by omega) (by omega)).mpr (by omega)⟩ (fK_v ?_)
    show fEv g _ mX9_order 11 [some (.ref 0), some (.int (nI k)), some (.int (nI 2))] [] σ Q
    refine e_iload_n dX9_order_11 rfl rfl ?_
    refine e_iconst (nI 5) dX9_order_12 (by decide) ?_
    refine e_icmp_ne 28 dX9_order_13 (by decide) (fun _ => ?_) (fun c => absurd c (by decide))
    refine e_aload_n dX9_order_28 rfl rfl ?_
    refine e_getR (q := 2) dX9_order_29 fl_RX9_23 (Ms.s 0 rfl) (Ms.n (by decide)) rfl (Ms.r 0 3 rfl) (by unfold fscr; omega) ?_
    refine e_getR (q := 2 + 3) dX9_order_32 fl_RX9_181 g0 (show 2 < fnx σ by omega) rfl gr2 (by unfold fscr; omega) ?_
    refine e_iload_n dX9_order_35 rfl rfl ?_
    refine e_iconst (nI 5) dX9_order_36 (by decide) ?_
    refine e_imul dX9_order_37 ?_
    refine e_int (nI (k * 5)) (pk_mul k 5) ?_
    refine e_iload_n dX9_order_38 rfl rfl ?_
    refine e_iadd dX9_order_39 ?_
    refine e_int (nI (k * 5 + 2)) (nI_add (k * 5) 2) ?_
    refine e_iaload (k * 5 + 2) dX9_order_40 g3 (show 2 + 3 < fnx σ by omega) rfl (by omega) (by decide) ?_
    refine e_int (nI (dO D k 2)) (Gr.2.2.2.1 k (by omega) 2 (by omega)) ?_
    exact e_ireturn .int dX9_order_41 rfl rfl h
  · show fEv g (d + 1) mX9_order 0 [some (.ref 0), some (.int (nI k)), some (.int (nI 3))] [] σ Q
    refine e_aload_n dX9_order_0 rfl rfl ?_
    refine e_iload_n dX9_order_1 rfl rfl ?_
    refine e_callV (k := 0) [.int (nI k)] dX9_order_2 cc_X9_checkOrder lk_RX9_175 im_X9_checkOrder se_X9_checkOrder (by decide) (Ms.s 0 rfl) (Ms.n (by decide)) rfl (Nat.le_of_ble_eq_true rfl) (Nat.le_of_ble_eq_true rfl) ?_
    refine t_X9_checkOrder Ms Gr hD (by omega) (fK_v ?_)
    show fEv g _ mX9_order 5 [some (.ref 0), some (.int (nI k)), some (.int (nI 3))] [] σ Q
    refine e_iload_n dX9_order_5 rfl rfl ?_
    refine e_iconst (nI 0) dX9_order_6 (by decide) ?_
    refine e_iconst (nI 5) dX9_order_7 (by decide) ?_
    refine e_callS [.int (nI 3), .int (nI 0), .int (nI 5)] dX9_order_8 cc_X9_checkRange lk_RX9_153 st_X9_checkRange in_RX9 rfl (Nat.le_of_ble_eq_true rfl) (Nat.le_of_ble_eq_true rfl) ?_
    refine t_X9_checkRange ⟨(nI_le' (by omega) (by omega)).mpr (by omega), (nI_le' (by omega) (by omega)).mpr (by omega)⟩ (fK_v ?_)
    show fEv g _ mX9_order 11 [some (.ref 0), some (.int (nI k)), some (.int (nI 3))] [] σ Q
    refine e_iload_n dX9_order_11 rfl rfl ?_
    refine e_iconst (nI 5) dX9_order_12 (by decide) ?_
    refine e_icmp_ne 28 dX9_order_13 (by decide) (fun _ => ?_) (fun c => absurd c (by decide))
    refine e_aload_n dX9_order_28 rfl rfl ?_
    refine e_getR (q := 2) dX9_order_29 fl_RX9_23 (Ms.s 0 rfl) (Ms.n (by decide)) rfl (Ms.r 0 3 rfl) (by unfold fscr; omega) ?_
    refine e_getR (q := 2 + 3) dX9_order_32 fl_RX9_181 g0 (show 2 < fnx σ by omega) rfl gr2 (by unfold fscr; omega) ?_
    refine e_iload_n dX9_order_35 rfl rfl ?_
    refine e_iconst (nI 5) dX9_order_36 (by decide) ?_
    refine e_imul dX9_order_37 ?_
    refine e_int (nI (k * 5)) (pk_mul k 5) ?_
    refine e_iload_n dX9_order_38 rfl rfl ?_
    refine e_iadd dX9_order_39 ?_
    refine e_int (nI (k * 5 + 3)) (nI_add (k * 5) 3) ?_
    refine e_iaload (k * 5 + 3) dX9_order_40 g3 (show 2 + 3 < fnx σ by omega) rfl (by omega) (by decide) ?_
    refine e_int (nI (dO D k 3)) (Gr.2.2.2.1 k (by omega) 3 (by omega)) ?_
    exact e_ireturn .int dX9_order_41 rfl rfl h
  · show fEv g (d + 1) mX9_order 0 [some (.ref 0), some (.int (nI k)), some (.int (nI 4))] [] σ Q
    refine e_aload_n dX9_order_0 rfl rfl ?_
    refine e_iload_n dX9_order_1 rfl rfl ?_
    refine e_callV (k := 0) [.int (nI k)] dX9_order_2 cc_X9_checkOrder lk_RX9_175 im_X9_checkOrder se_X9_checkOrder (by decide) (Ms.s 0 rfl) (Ms.n (by decide)) rfl (Nat.le_of_ble_eq_true rfl) (Nat.le_of_ble_eq_true rfl) ?_
    refine t_X9_checkOrder Ms Gr hD (by omega) (fK_v ?_)
    show fEv g _ mX9_order 5 [some (.ref 0), some (.int (nI k)), some (.int (nI 4))] [] σ Q
    refine e_iload_n dX9_order_5 rfl rfl ?_
    refine e_iconst (nI 0) dX9_order_6 (by decide) ?_
    refine e_iconst (nI 5) dX9_order_7 (by decide) ?_
    refine e_callS [.int (nI 4), .int (nI 0), .int (nI 5)] dX9_order_8 cc_X9_checkRange lk_RX9_153 st_X9_checkRange in_RX9 rfl (Nat.le_of_ble_eq_true rfl) (Nat.le_of_ble_eq_true rfl) ?_
    refine t_X9_checkRange ⟨(nI_le' (by omega) (by omega)).mpr (by omega), (nI_le' (by omega) (by omega)).mpr (by omega)⟩ (fK_v ?_)
    show fEv g _ mX9_order 11 [some (.ref 0), some (.int (nI k)), some (.int (nI 4))] [] σ Q
    refine e_iload_n dX9_order_11 rfl rfl ?_
    refine e_iconst (nI 5) dX9_order_12 (by decide) ?_
    refine e_icmp_ne 28 dX9_order_13 (by decide) (fun _ => ?_) (fun c => absurd c (by decide))
    refine e_aload_n dX9_order_28 rfl rfl ?_
    refine e_getR (q := 2) dX9_order_29 fl_RX9_23 (Ms.s 0 rfl) (Ms.n (by decide)) rfl (Ms.r 0 3 rfl) (by unfold fscr; omega) ?_
    refine e_getR (q := 2 + 3) dX9_order_32 fl_RX9_181 g0 (show 2 < fnx σ by omega) rfl gr2 (by unfold fscr; omega) ?_
    refine e_iload_n dX9_order_35 rfl rfl ?_
    refine e_iconst (nI 5) dX9_order_36 (by decide) ?_
    refine e_imul dX9_order_37 ?_
    refine e_int (nI (k * 5)) (pk_mul k 5) ?_
    refine e_iload_n dX9_order_38 rfl rfl ?_
    refine e_iadd dX9_order_39 ?_
    refine e_int (nI (k * 5 + 4)) (nI_add (k * 5) 4) ?_
    refine e_iaload (k * 5 + 4) dX9_order_40 g3 (show 2 + 3 < fnx σ by omega) rfl (by omega) (by decide) ?_
    refine e_int (nI (dO D k 4)) (Gr.2.2.2.1 k (by omega) 4 (by omega)) ?_
    exact e_ireturn .int dX9_order_41 rfl rfl h
  · show fEv g (d + 1) mX9_order 0 [some (.ref 0), some (.int (nI k)), some (.int (nI 5))] [] σ Q
    refine e_aload_n dX9_order_0 rfl rfl ?_
    refine e_iload_n dX9_order_1 rfl rfl ?_
    refine e_callV (k := 0) [.int (nI k)] dX9_order_2 cc_X9_checkOrder lk_RX9_175 im_X9_checkOrder se_X9_checkOrder (by decide) (Ms.s 0 rfl) (Ms.n (by decide)) rfl (Nat.le_of_ble_eq_true rfl) (Nat.le_of_ble_eq_true rfl) ?_
    refine t_X9_checkOrder Ms Gr hD (by omega) (fK_v ?_)
    show fEv g _ mX9_order 5 [some (.ref 0), some (.int (nI k)), some (.int (nI 5))] [] σ Q
    refine e_iload_n dX9_order_5 rfl rfl ?_
    refine e_iconst (nI 0) dX9_order_6 (by decide) ?_
    refine e_iconst (nI 5) dX9_order_7 (by decide) ?_
    refine e_callS [.int (nI 5), .int (nI 0), .int (nI 5)] dX9_order_8 cc_X9_checkRange lk_RX9_153 st_X9_checkRange in_RX9 rfl (Nat.le_of_ble_eq_true rfl) (Nat.le_of_ble_eq_true rfl) ?_
    refine t_X9_checkRange ⟨(nI_le' (by omega) (by omega)).mpr (by omega), (nI_le' (by omega) (by omega)).mpr (by omega)⟩ (fK_v ?_)
    show fEv g _ mX9_order 11 [some (.ref 0), some (.int (nI k)), some (.int (nI 5))] [] σ Q
    refine e_iload_n dX9_order_11 rfl rfl ?_
    refine e_iconst (nI 5) dX9_order_12 (by decide) ?_
    refine e_icmp_ne 28 dX9_order_13 (by decide) (fun c => absurd c (by decide)) (fun _ => ?_)
    refine e_aload_n dX9_order_16 rfl rfl ?_
    refine e_getR (q := 15) dX9_order_17 fl_RX9_41 (Ms.s 0 rfl) (Ms.n (by decide)) rfl (Ms.r 0 5 rfl) (by unfold fscr; omega) ?_
    refine e_getR (q := 15 + 3) dX9_order_20 fl_RX9_178 y0 (show 15 < fnx σ by omega) rfl yr3 (by unfold fscr; omega) ?_
    refine e_iload_n dX9_order_23 rfl rfl ?_
    refine e_iaload k dX9_order_24 y3 (show 15 + 3 < fnx σ by omega) rfl (by omega) (by decide) ?_
    refine e_int (nI (S (145 + k))) (Yr.2.2.2.1 k (by omega)) ?_
    refine e_goto 41 dX9_order_25 (by decide) ?_
    exact e_ireturn .int dX9_order_41 rfl rfl h
set_option maxRecDepth 20000 in
theorem t_X9_orderE1 {g : fGP} {d : Nat} {σ : fAH} {Q : fRes → fAH → Prop} {x : fXS} {a b : Int32}  (Ms : fMs g σ) (ok : fOK x) (Ic : fIc σ x) (hv : ¬ (nI 0 ≤ a ∧ a < nI (dT (xD x) 2))) (rm : fnx σ + fgb σ + 1 ≤ 601024 ∧ fsu σ + 6 ≤ 7293034) (h : Q (.inr "java/util/NoSuchElementException") (fthr σ)) : fEv g (d + 1) mX9_order 0 (fent [.ref 0, .int a, .int b] 3) [] σ Q := by
  obtain ⟨D, ⟨S, T, sd, pn, P, rn, R⟩, B, tp, pl, im, Im⟩ := x
  have hD : fWD D := ok.1
  have hW : fWS D S := ok.2.1.1
  have hC : fWC D S := ok.2.1.2.1
  have hN : fWN S 0 0 := ok.2.1.2.2.1
  have Gr : fGr σ 2 D := Ic.1
  obtain ⟨⟨m, Yr⟩, Yt⟩ : fYf σ 15 D S T sd := Ic.2.1
  have Gs := Ms.ground (k := 2) (by decide)
  have Ys := Ms.yard (k := 15) (by decide)
  obtain ⟨⟨g0, g1, g2, g3, g4, g5⟩, ⟨gn, gK⟩, ⟨gr0, gr1, gr2, gr3, gr4⟩⟩ := id Gs
  obtain ⟨⟨y0, y1, y2, y3, y4, y5, y6⟩, ⟨yn, yK⟩, ⟨yr0, yr1, yr2, yr3, yr4, yr5, yr6⟩⟩ := id Ys
  obtain ⟨t0, t1, t2, t3, t4, t5, t6⟩ := id hD.1
  have np := hW.n hD
  have n5 := hW.2.2.2.2
  have tp6 : tp ≤ 600 := ok.2.2.2.1
  have im3 : im ≤ 3 := ok.2.2.2.2.1
  have pn3 : pn ≤ 30 := ok.2.1.2.2.2.1
  have rn6 : rn ≤ 60 := ok.2.1.2.2.2.2.2.1
  have Dc : fDc σ 29 (S, T, sd, pn, P, rn, R) := Ic.2.2.1
  have w52 := hW.1
  show fEv g (d + 1) mX9_order 0 [some (.ref 0), some (.int a), some (.int b)] [] σ Q
  refine e_aload_n dX9_order_0 rfl rfl ?_
  refine e_iload_n dX9_order_1 rfl rfl ?_
  refine e_callV (k := 0) [.int a] dX9_order_2 cc_X9_checkOrder lk_RX9_175 im_X9_checkOrder se_X9_checkOrder (by decide) (Ms.s 0 rfl) (Ms.n (by decide)) rfl (Nat.le_of_ble_eq_true rfl) (Nat.le_of_ble_eq_true rfl) ?_
  exact t_X9_checkOrderE Ms Gr hD hv rm (t_out rfl h)
set_option maxRecDepth 20000 in
theorem t_X9_orderE2 {g : fGP} {d : Nat} {σ : fAH} {Q : fRes → fAH → Prop} {x : fXS} {k : Nat} {b : Int32}  (Ms : fMs g σ) (ok : fOK x) (Ic : fIc σ x) (hk : k < dT (xD x) 2) (hv : ¬ (nI 0 ≤ b ∧ b ≤ nI 5)) (rm : fnx σ + fgb σ + 1 ≤ 601024 ∧ fsu σ + 6 ≤ 7293034) (h : Q (.inr "java/lang/IllegalArgumentException") (fthr σ)) : fEv g (d + 1) mX9_order 0 (fent [.ref 0, .int (nI k), .int b] 3) [] σ Q := by
  obtain ⟨D, ⟨S, T, sd, pn, P, rn, R⟩, B, tp, pl, im, Im⟩ := x
  have hD : fWD D := ok.1
  have hW : fWS D S := ok.2.1.1
  have hC : fWC D S := ok.2.1.2.1
  have hN : fWN S 0 0 := ok.2.1.2.2.1
  have Gr : fGr σ 2 D := Ic.1
  obtain ⟨⟨m, Yr⟩, Yt⟩ : fYf σ 15 D S T sd := Ic.2.1
  have Gs := Ms.ground (k := 2) (by decide)
  have Ys := Ms.yard (k := 15) (by decide)
  obtain ⟨⟨g0, g1, g2, g3, g4, g5⟩, ⟨gn, gK⟩, ⟨gr0, gr1, gr2, gr3, gr4⟩⟩ := id Gs
  obtain ⟨⟨y0, y1, y2, y3, y4, y5, y6⟩, ⟨yn, yK⟩, ⟨yr0, yr1, yr2, yr3, yr4, yr5, yr6⟩⟩ := id Ys
  obtain ⟨t0, t1, t2, t3, t4, t5, t6⟩ := id hD.1
  have np := hW.n hD
  have n5 := hW.2.2.2.2
  have tp6 : tp ≤ 600 := ok.2.2.2.1
  have im3 : im ≤ 3 := ok.2.2.2.2.1
  have pn3 : pn ≤ 30 := ok.2.1.2.2.2.1
  have rn6 : rn ≤ 60 := ok.2.1.2.2.2.2.2.1
  have Dc : fDc σ 29 (S, T, sd, pn, P, rn, R) := Ic.2.2.1
  have w52 := hW.1
  show fEv g (d + 1) mX9_order 0 [some (.ref 0), some (.int (nI k)), some (.int b)] [] σ Q
  refine e_aload_n dX9_order_0 rfl rfl ?_
  refine e_iload_n dX9_order_1 rfl rfl ?_
  refine e_callV (k := 0) [.int (nI k)] dX9_order_2 cc_X9_checkOrder lk_RX9_175 im_X9_checkOrder se_X9_checkOrder (by decide) (Ms.s 0 rfl) (Ms.n (by decide)) rfl (Nat.le_of_ble_eq_true rfl) (Nat.le_of_ble_eq_true rfl) ?_
  refine t_X9_checkOrder Ms Gr hD (by omega) (fK_v ?_)
  show fEv g _ mX9_order 5 [some (.ref 0), some (.int (nI k)), some (.int b)] [] σ Q
  refine e_iload_n dX9_order_5 rfl rfl ?_
  refine e_iconst (nI 0) dX9_order_6 (by decide) ?_
  refine e_iconst (nI 5) dX9_order_7 (by decide) ?_
  refine e_callS [.int b, .int (nI 0), .int (nI 5)] dX9_order_8 cc_X9_checkRange lk_RX9_153 st_X9_checkRange in_RX9 rfl (Nat.le_of_ble_eq_true rfl) (Nat.le_of_ble_eq_true rfl) ?_
  exact t_X9_checkRangeE hv rm (t_out rfl h)
set_option maxRecDepth 20000 in
theorem t_X9_piece {g : fGP} {d : Nat} {σ : fAH} {Q : fRes → fAH → Prop} {x : fXS} {k w : Nat}  (Ms : fMs g σ) (ok : fOK x) (Ic : fIc σ x) (hk : k < (iS (xI x)) 120) (hw : w < 6) (h : Q (.inl (some (.int (nI ((iS (xI x)) (k * 6 + w)))))) σ) : fEv g (d + 1) mX9_piece 0 (fent [.ref 0, .int (nI k), .int (nI w)] 3) [] σ Q := by
  obtain ⟨D, ⟨S, T, sd, pn, P, rn, R⟩, B, tp, pl, im, Im⟩ := x
  have hD : fWD D := ok.1
  have hW : fWS D S := ok.2.1.1
  have hC : fWC D S := ok.2.1.2.1
  have hN : fWN S 0 0 := ok.2.1.2.2.1
  have Gr : fGr σ 2 D := Ic.1
  obtain ⟨⟨m, Yr⟩, Yt⟩ : fYf σ 15 D S T sd := Ic.2.1
  have Gs := Ms.ground (k := 2) (by decide)
  have Ys := Ms.yard (k := 15) (by decide)
  obtain ⟨⟨g0, g1, g2, g3, g4, g5⟩, ⟨gn, gK⟩, ⟨gr0, gr1, gr2, gr3, gr4⟩⟩ := id Gs
  obtain ⟨⟨y0, y1, y2, y3, y4, y5, y6⟩, ⟨yn, yK⟩, ⟨yr0, yr1, yr2, yr3, yr4, yr5, yr6⟩⟩ := id Ys
  obtain ⟨t0, t1, t2, t3, t4, t5, t6⟩ := id hD.1
  have np := hW.n hD
  have n5 := hW.2.2.2.2
  have tp6 : tp ≤ 600 := ok.2.2.2.1
  have im3 : im ≤ 3 := ok.2.2.2.2.1
  have pn3 : pn ≤ 30 := ok.2.1.2.2.2.1
  have rn6 : rn ≤ 60 := ok.2.1.2.2.2.2.2.1
  have Dc : fDc σ 29 (S, T, sd, pn, P, rn, R) := Ic.2.2.1
  have w52 := hW.1
  have hk : k < S 120 := hk
  show fEv g (d + 1) mX9_piece 0 [some (.ref 0), some (.int (nI k)), some (.int (nI w))] [] σ Q
  refine e_iload_n dX9_piece_0 rfl rfl ?_
  refine e_if_lt 15 dX9_piece_1 (by decide) (fun c => absurd c (fun q => absurd ((nI_zlt (by omega)).mp q) (by omega))) (fun _ => ?_)
  refine e_iload_n dX9_piece_4 rfl rfl ?_
  refine e_aload_n dX9_piece_5 rfl rfl ?_
  refine e_getR (q := 15) dX9_piece_6 fl_RX9_41 (Ms.s 0 rfl) (Ms.n (by decide)) rfl (Ms.r 0 5 rfl) (by unfold fscr; omega) ?_
  refine e_getI dX9_piece_9 fl_RX9_145 y0 (show 15 < fnx σ by omega) rfl ?_
  refine e_int (nI (S 120)) Yr.1.1 ?_
  refine e_icmp_lt 25 dX9_piece_12 (by decide) (fun _ => ?_) (fun c => absurd ((nI_lt' (by omega) (by omega)).mpr hk) c)
  refine e_iload_n dX9_piece_25 rfl rfl ?_
  refine e_iconst (nI 0) dX9_piece_26 (by decide) ?_
  refine e_iconst (nI 5) dX9_piece_27 (by decide) ?_
  refine e_callS [.int (nI w), .int (nI 0), .int (nI 5)] dX9_piece_28 cc_X9_checkRange lk_RX9_153 st_X9_checkRange in_RX9 rfl (Nat.le_of_ble_eq_true rfl) (Nat.le_of_ble_eq_true rfl) ?_
  refine t_X9_checkRange ⟨(nI_le' (by omega) (by omega)).mpr (by omega), (nI_le' (by omega) (by omega)).mpr (by omega)⟩ (fK_v ?_)
  show fEv g _ mX9_piece 31 [some (.ref 0), some (.int (nI k)), some (.int (nI w))] [] σ Q
  refine e_aload_n dX9_piece_31 rfl rfl ?_
  refine e_getR (q := 15) dX9_piece_32 fl_RX9_41 (Ms.s 0 rfl) (Ms.n (by decide)) rfl (Ms.r 0 5 rfl) (by unfold fscr; omega) ?_
  refine e_getR (q := 15 + 1) dX9_piece_35 fl_RX9_189 y0 (show 15 < fnx σ by omega) rfl yr1 (by unfold fscr; omega) ?_
  refine e_iload_n dX9_piece_38 rfl rfl ?_
  refine e_bipush (nI 6) dX9_piece_39 (by decide) ?_
  refine e_imul dX9_piece_41 ?_
  refine e_int (nI (k * 6)) (pk_mul k 6) ?_
  refine e_iload_n dX9_piece_42 rfl rfl ?_
  refine e_iadd dX9_piece_43 ?_
  refine e_int (nI (k * 6 + w)) (nI_add (k * 6) w) ?_
  refine e_iaload (k * 6 + w) dX9_piece_44 y1 (show 15 + 1 < fnx σ by omega) rfl (by omega) (by decide) ?_
  refine e_int (nI (S (k * 6 + w))) (Yr.2.1 k (by omega) w (by omega)) ?_
  exact e_ireturn .int dX9_piece_45 rfl rfl h
set_option maxRecDepth 20000 in
theorem t_X9_pieceE1 {g : fGP} {d : Nat} {σ : fAH} {Q : fRes → fAH → Prop} {x : fXS} {a b : Int32}  (Ms : fMs g σ) (ok : fOK x) (Ic : fIc σ x) (hv : ¬ (nI 0 ≤ a ∧ a < nI ((iS (xI x)) 120))) (rm : fnx σ + fgb σ + 1 ≤ 601024 ∧ fsu σ + 6 ≤ 7293034) (h : Q (.inr "java/lang/IndexOutOfBoundsException") (fthr σ)) : fEv g (d + 1) mX9_piece 0 (fent [.ref 0, .int a, .int b] 3) [] σ Q := by
  obtain ⟨D, ⟨S, T, sd, pn, P, rn, R⟩, B, tp, pl, im, Im⟩ := x
  have hD : fWD D := ok.1
  have hW : fWS D S := ok.2.1.1
  have hC : fWC D S := ok.2.1.2.1
  have hN : fWN S 0 0 := ok.2.1.2.2.1
  have Gr : fGr σ 2 D := Ic.1
  obtain ⟨⟨m, Yr⟩, Yt⟩ : fYf σ 15 D S T sd := Ic.2.1
  have Gs := Ms.ground (k := 2) (by decide)
  have Ys := Ms.yard (k := 15) (by decide)
  obtain ⟨⟨g0, g1, g2, g3, g4, g5⟩, ⟨gn, gK⟩, ⟨gr0, gr1, gr2, gr3, gr4⟩⟩ := id Gs
  obtain ⟨⟨y0, y1, y2, y3, y4, y5, y6⟩, ⟨yn, yK⟩, ⟨yr0, yr1, yr2, yr3, yr4, yr5, yr6⟩⟩ := id Ys
  obtain ⟨t0, t1, t2, t3, t4, t5, t6⟩ := id hD.1
  have np := hW.n hD
  have n5 := hW.2.2.2.2
  have tp6 : tp ≤ 600 := ok.2.2.2.1
  have im3 : im ≤ 3 := ok.2.2.2.2.1
  have pn3 : pn ≤ 30 := ok.2.1.2.2.2.1
  have rn6 : rn ≤ 60 := ok.2.1.2.2.2.2.2.1
  have Dc : fDc σ 29 (S, T, sd, pn, P, rn, R) := Ic.2.2.1
  have w52 := hW.1
  show fEv g (d + 1) mX9_piece 0 [some (.ref 0), some (.int a), some (.int b)] [] σ Q
  refine e_iload_n dX9_piece_0 rfl rfl ?_
  refine e_if_lt 15 dX9_piece_1 (by decide) (fun c1 => ?_) (fun c1 => ?_)
  · exact e_throwS rfl rfl tw_I (fstr_m 5 rfl) dX9_piece_15 dX9_piece_18 dX9_piece_19 dX9_piece_21 dX9_piece_24 (Nat.le_of_ble_eq_true rfl) rm.1 rm.2 h
  · refine e_iload_n dX9_piece_4 rfl rfl ?_
    refine e_aload_n dX9_piece_5 rfl rfl ?_
    refine e_getR (q := 15) dX9_piece_6 fl_RX9_41 (Ms.s 0 rfl) (Ms.n (by decide)) rfl (Ms.r 0 5 rfl) (by unfold fscr; omega) ?_
    refine e_getI dX9_piece_9 fl_RX9_145 y0 (show 15 < fnx σ by omega) rfl ?_
    refine e_int (nI (S 120)) Yr.1.1 ?_
    refine e_icmp_lt 25 dX9_piece_12 (by decide) (fun c12 => ?_) (fun c12 => ?_)
    · exact absurd ⟨Int32.not_lt.mp c1, c12⟩ hv
    · exact e_throwS rfl rfl tw_I (fstr_m 5 rfl) dX9_piece_15 dX9_piece_18 dX9_piece_19 dX9_piece_21 dX9_piece_24 (Nat.le_of_ble_eq_true rfl) rm.1 rm.2 h
set_option maxRecDepth 20000 in
theorem t_X9_pieceE2 {g : fGP} {d : Nat} {σ : fAH} {Q : fRes → fAH → Prop} {x : fXS} {k : Nat} {b : Int32}  (Ms : fMs g σ) (ok : fOK x) (Ic : fIc σ x) (hk : k < (iS (xI x)) 120) (hv : ¬ (nI 0 ≤ b ∧ b ≤ nI 5)) (rm : fnx σ + fgb σ + 1 ≤ 601024 ∧ fsu σ + 6 ≤ 7293034) (h : Q (.inr "java/lang/IllegalArgumentException") (fthr σ)) : fEv g (d + 1) mX9_piece 0 (fent [.ref 0, .int (nI k), .int b] 3) [] σ Q := by
  obtain ⟨D, ⟨S, T, sd, pn, P, rn, R⟩, B, tp, pl, im, Im⟩ := x
  have hD : fWD D := ok.1
  have hW : fWS D S := ok.2.1.1
  have hC : fWC D S := ok.2.1.2.1
  have hN : fWN S 0 0 := ok.2.1.2.2.1
  have Gr : fGr σ 2 D := Ic.1
  obtain ⟨⟨m, Yr⟩, Yt⟩ : fYf σ 15 D S T sd := Ic.2.1
  have Gs := Ms.ground (k := 2) (by decide)
  have Ys := Ms.yard (k := 15) (by decide)
  obtain ⟨⟨g0, g1, g2, g3, g4, g5⟩, ⟨gn, gK⟩, ⟨gr0, gr1, gr2, gr3, gr4⟩⟩ := id Gs
  obtain ⟨⟨y0, y1, y2, y3, y4, y5, y6⟩, ⟨yn, yK⟩, ⟨yr0, yr1, yr2, yr3, yr4, yr5, yr6⟩⟩ := id Ys
  obtain ⟨t0, t1, t2, t3, t4, t5, t6⟩ := id hD.1
  have np := hW.n hD
  have n5 := hW.2.2.2.2
  have tp6 : tp ≤ 600 := ok.2.2.2.1
  have im3 : im ≤ 3 := ok.2.2.2.2.1
  have pn3 : pn ≤ 30 := ok.2.1.2.2.2.1
  have rn6 : rn ≤ 60 := ok.2.1.2.2.2.2.2.1
  have Dc : fDc σ 29 (S, T, sd, pn, P, rn, R) := Ic.2.2.1
  have w52 := hW.1
  have hk : k < S 120 := hk
  show fEv g (d + 1) mX9_piece 0 [some (.ref 0), some (.int (nI k)), some (.int b)] [] σ Q
  refine e_iload_n dX9_piece_0 rfl rfl ?_
  refine e_if_lt 15 dX9_piece_1 (by decide) (fun c => absurd c (fun q => absurd ((nI_zlt (by omega)).mp q) (by omega))) (fun _ => ?_)
  refine e_iload_n dX9_piece_4 rfl rfl ?_
  refine e_aload_n dX9_piece_5 rfl rfl ?_
  refine e_getR (q := 15) dX9_piece_6 fl_RX9_41 (Ms.s 0 rfl) (Ms.n (by decide)) rfl (Ms.r 0 5 rfl) (by unfold fscr; omega) ?_
  refine e_getI dX9_piece_9 fl_RX9_145 y0 (show 15 < fnx σ by omega) rfl ?_
  refine e_int (nI (S 120)) Yr.1.1 ?_
  refine e_icmp_lt 25 dX9_piece_12 (by decide) (fun _ => ?_) (fun c => absurd ((nI_lt' (by omega) (by omega)).mpr hk) c)
  refine e_iload_n dX9_piece_25 rfl rfl ?_
  refine e_iconst (nI 0) dX9_piece_26 (by decide) ?_
  refine e_iconst (nI 5) dX9_piece_27 (by decide) ?_
  refine e_callS [.int b, .int (nI 0), .int (nI 5)] dX9_piece_28 cc_X9_checkRange lk_RX9_153 st_X9_checkRange in_RX9 rfl (Nat.le_of_ble_eq_true rfl) (Nat.le_of_ble_eq_true rfl) ?_
  exact t_X9_checkRangeE hv rm (t_out rfl h)
set_option maxRecDepth 20000 in
theorem t_X9_sums {g : fGP} {d : Nat} {σ : fAH} {Q : fRes → fAH → Prop} {x : fXS} {w : Nat}  (Ms : fMs g σ) (ok : fOK x) (Ic : fIc σ x) (hw : w < 8) (h : Q (.inl (some (.int (vSum (xD x) (iS (xI x)) w)))) σ) : fEv g (d + 3) mX9_sums 0 (fent [.ref 0, .int (nI w)] 2) [] σ Q := by
  obtain ⟨D, ⟨S, T, sd, pn, P, rn, R⟩, B, tp, pl, im, Im⟩ := x
  have hD : fWD D := ok.1
  have hW : fWS D S := ok.2.1.1
  have hC : fWC D S := ok.2.1.2.1
  have hN : fWN S 0 0 := ok.2.1.2.2.1
  have Gr : fGr σ 2 D := Ic.1
  obtain ⟨⟨m, Yr⟩, Yt⟩ : fYf σ 15 D S T sd := Ic.2.1
  have Gs := Ms.ground (k := 2) (by decide)
  have Ys := Ms.yard (k := 15) (by decide)
  obtain ⟨⟨g0, g1, g2, g3, g4, g5⟩, ⟨gn, gK⟩, ⟨gr0, gr1, gr2, gr3, gr4⟩⟩ := id Gs
  obtain ⟨⟨y0, y1, y2, y3, y4, y5, y6⟩, ⟨yn, yK⟩, ⟨yr0, yr1, yr2, yr3, yr4, yr5, yr6⟩⟩ := id Ys
  obtain ⟨t0, t1, t2, t3, t4, t5, t6⟩ := id hD.1
  have np := hW.n hD
  have n5 := hW.2.2.2.2
  have tp6 : tp ≤ 600 := ok.2.2.2.1
  have im3 : im ≤ 3 := ok.2.2.2.2.1
  have pn3 : pn ≤ 30 := ok.2.1.2.2.2.1
  have rn6 : rn ≤ 60 := ok.2.1.2.2.2.2.2.1
  have Dc : fDc σ 29 (S, T, sd, pn, P, rn, R) := Ic.2.2.1
  have w52 := hW.1
  rcases (show w = 0 ∨ w = 1 ∨ w = 2 ∨ w = 3 ∨ w = 4 ∨ w = 5 ∨ w = 6 ∨ w = 7 by omega) with rfl | rfl | rfl | rfl | rfl | rfl | rfl | rfl
  · show fEv g (d + 3) mX9_sums 0 [some (.ref 0), some (.int (nI 0))] [] σ Q
    refine e_iload_n dX9_sums_0 rfl rfl ?_
    refine e_tswIn (off := 47) 48 dX9_sums_1 (by decide) (by decide) (by decide) (by decide) ?_
    refine e_aload_n dX9_sums_48 rfl rfl ?_
    refine e_getR (q := 15) dX9_sums_49 fl_RX9_41 (Ms.s 0 rfl) (Ms.n (by decide)) rfl (Ms.r 0 5 rfl) (by unfold fscr; omega) ?_
    refine e_iconst (nI 1) dX9_sums_52 (by decide) ?_
    refine e_callV (k := 15) [.int (nI 1)] dX9_sums_53 cc_X8_stone lk_RX9_218 im_X8_stone se_X8_stone (by decide) y0 (show 15 < fnx σ by omega) rfl (Nat.le_of_ble_eq_true rfl) (Nat.le_of_ble_eq_true rfl) ?_
    refine t_X8_stone (b := true) hD Ys Yr hW (fK_i ?_)
    show fEv g _ mX9_sums 56 [some (.ref 0), some (.int (nI 0))] [.int (nI (msf (mstn S true) (S 120) 0))] σ Q
    refine e_aload_n dX9_sums_56 rfl rfl ?_
    refine e_getR (q := 15) dX9_sums_57 fl_RX9_41 (Ms.s 0 rfl) (Ms.n (by decide)) rfl (Ms.r 0 5 rfl) (by unfold fscr; omega) ?_
    refine e_iconst (nI 0) dX9_sums_60 (by decide) ?_
    refine e_callV (k := 15) [.int (nI 0)] dX9_sums_61 cc_X8_stone lk_RX9_218 im_X8_stone se_X8_stone (by decide) y0 (show 15 < fnx σ by omega) rfl (Nat.le_of_ble_eq_true rfl) (Nat.le_of_ble_eq_true rfl) ?_
    refine t_X8_stone (b := false) hD Ys Yr hW (fK_i ?_)
    show fEv g _ mX9_sums 64 [some (.ref 0), some (.int (nI 0))] [.int (nI (msf (mstn S false) (S 120) 0)), .int (nI (msf (mstn S true) (S 120) 0))] σ Q
    refine e_iadd dX9_sums_64 ?_
    refine e_int (nI (msf (mstn S true) (S 120) 0 + msf (mstn S false) (S 120) 0)) (nI_add (msf (mstn S true) (S 120) 0) (msf (mstn S false) (S 120) 0)) ?_
    exact e_ireturn .int dX9_sums_65 rfl rfl h
  · show fEv g (d + 3) mX9_sums 0 [some (.ref 0), some (.int (nI 1))] [] σ Q
    refine e_iload_n dX9_sums_0 rfl rfl ?_
    refine e_tswIn (off := 65) 66 dX9_sums_1 (by decide) (by decide) (by decide) (by decide) ?_
    refine e_aload_n dX9_sums_66 rfl rfl ?_
    refine e_getR (q := 15) dX9_sums_67 fl_RX9_41 (Ms.s 0 rfl) (Ms.n (by decide)) rfl (Ms.r 0 5 rfl) (by unfold fscr; omega) ?_
    refine e_iconst (nI 1) dX9_sums_70 (by decide) ?_
    refine e_callV (k := 15) [.int (nI 1)] dX9_sums_71 cc_X8_stone lk_RX9_218 im_X8_stone se_X8_stone (by decide) y0 (show 15 < fnx σ by omega) rfl (Nat.le_of_ble_eq_true rfl) (Nat.le_of_ble_eq_true rfl) ?_
    refine t_X8_stone (b := true) hD Ys Yr hW (fK_i ?_)
    show fEv g _ mX9_sums 74 [some (.ref 0), some (.int (nI 1))] [.int (nI (msf (mstn S true) (S 120) 0))] σ Q
    exact e_ireturn .int dX9_sums_74 rfl rfl h
  · show fEv g (d + 3) mX9_sums 0 [some (.ref 0), some (.int (nI 2))] [] σ Q
    refine e_iload_n dX9_sums_0 rfl rfl ?_
    refine e_tswIn (off := 74) 75 dX9_sums_1 (by decide) (by decide) (by decide) (by decide) ?_
    refine e_aload_n dX9_sums_75 rfl rfl ?_
    refine e_getR (q := 15) dX9_sums_76 fl_RX9_41 (Ms.s 0 rfl) (Ms.n (by decide)) rfl (Ms.r 0 5 rfl) (by unfold fscr; omega) ?_
    refine e_iconst (nI 0) dX9_sums_79 (by decide) ?_
    refine e_callV (k := 15) [.int (nI 0)] dX9_sums_80 cc_X8_stone lk_RX9_218 im_X8_stone se_X8_stone (by decide) y0 (show 15 < fnx σ by omega) rfl (Nat.le_of_ble_eq_true rfl) (Nat.le_of_ble_eq_true rfl) ?_
    refine t_X8_stone (b := false) hD Ys Yr hW (fK_i ?_)
    show fEv g _ mX9_sums 83 [some (.ref 0), some (.int (nI 2))] [.int (nI (msf (mstn S false) (S 120) 0))] σ Q
    exact e_ireturn .int dX9_sums_83 rfl rfl h
  · show fEv g (d + 3) mX9_sums 0 [some (.ref 0), some (.int (nI 3))] [] σ Q
    refine e_iload_n dX9_sums_0 rfl rfl ?_
    refine e_tswIn (off := 83) 84 dX9_sums_1 (by decide) (by decide) (by decide) (by decide) ?_
    refine e_aload_n dX9_sums_84 rfl rfl ?_
    refine e_getR (q := 15) dX9_sums_85 fl_RX9_41 (Ms.s 0 rfl) (Ms.n (by decide)) rfl (Ms.r 0 5 rfl) (by unfold fscr; omega) ?_
    refine e_getI dX9_sums_88 fl_RX9_222 y0 (show 15 < fnx σ by omega) rfl ?_
    refine e_int (nI (S 151)) Yr.1.2.2.2.1 ?_
    exact e_ireturn .int dX9_sums_91 rfl rfl h
  · show fEv g (d + 3) mX9_sums 0 [some (.ref 0), some (.int (nI 4))] [] σ Q
    refine e_iload_n dX9_sums_0 rfl rfl ?_
    refine e_tswIn (off := 91) 92 dX9_sums_1 (by decide) (by decide) (by decide) (by decide) ?_
    refine e_aload_n dX9_sums_92 rfl rfl ?_
    refine e_getR (q := 15) dX9_sums_93 fl_RX9_41 (Ms.s 0 rfl) (Ms.n (by decide)) rfl (Ms.r 0 5 rfl) (by unfold fscr; omega) ?_
    refine e_getI dX9_sums_96 fl_RX9_225 y0 (show 15 < fnx σ by omega) rfl ?_
    refine e_int (nI (S 152)) Yr.1.2.2.2.2.1 ?_
    exact e_ireturn .int dX9_sums_99 rfl rfl h
  · show fEv g (d + 3) mX9_sums 0 [some (.ref 0), some (.int (nI 5))] [] σ Q
    refine e_iload_n dX9_sums_0 rfl rfl ?_
    refine e_tswIn (off := 99) 100 dX9_sums_1 (by decide) (by decide) (by decide) (by decide) ?_
    refine e_aload_n dX9_sums_100 rfl rfl ?_
    refine e_getR (q := 15) dX9_sums_101 fl_RX9_41 (Ms.s 0 rfl) (Ms.n (by decide)) rfl (Ms.r 0 5 rfl) (by unfold fscr; omega) ?_
    refine e_getI dX9_sums_104 fl_RX9_228 y0 (show 15 < fnx σ by omega) rfl ?_
    refine e_int (nI (S 153)) Yr.1.2.2.2.2.2.1 ?_
    exact e_ireturn .int dX9_sums_107 rfl rfl h
  · show fEv g (d + 3) mX9_sums 0 [some (.ref 0), some (.int (nI 6))] [] σ Q
    refine e_iload_n dX9_sums_0 rfl rfl ?_
    refine e_tswIn (off := 107) 108 dX9_sums_1 (by decide) (by decide) (by decide) (by decide) ?_
    refine e_aload_n dX9_sums_108 rfl rfl ?_
    refine e_getR (q := 15) dX9_sums_109 fl_RX9_41 (Ms.s 0 rfl) (Ms.n (by decide)) rfl (Ms.r 0 5 rfl) (by unfold fscr; omega) ?_
    refine e_getI dX9_sums_112 fl_RX9_231 y0 (show 15 < fnx σ by omega) rfl ?_
    refine e_int (nI (S 154)) Yr.1.2.2.2.2.2.2.1 ?_
    exact e_ireturn .int dX9_sums_115 rfl rfl h
  · show fEv g (d + 3) mX9_sums 0 [some (.ref 0), some (.int (nI 7))] [] σ Q
    refine e_iload_n dX9_sums_0 rfl rfl ?_
    refine e_tswIn (off := 115) 116 dX9_sums_1 (by decide) (by decide) (by decide) (by decide) ?_
    refine e_aload_n dX9_sums_116 rfl rfl ?_
    refine e_getR (q := 15) dX9_sums_117 fl_RX9_41 (Ms.s 0 rfl) (Ms.n (by decide)) rfl (Ms.r 0 5 rfl) (by unfold fscr; omega) ?_
    refine e_callV (k := 15) [] dX9_sums_120 cc_X8_unwanted lk_RX9_234 im_X8_unwanted se_X8_unwanted (by decide) y0 (show 15 < fnx σ by omega) rfl (Nat.le_of_ble_eq_true rfl) (Nat.le_of_ble_eq_true rfl) ?_
    refine t_X8_unwanted Gs Gr hD Ys Yr hW (fK_i ?_)
    show fEv g _ mX9_sums 123 [some (.ref 0), some (.int (nI 7))] [.int (nI (mct (muw D S) (S 120) 0))] σ Q
    exact e_ireturn .int dX9_sums_123 rfl rfl h
set_option maxRecDepth 20000 in
theorem t_X9_trace {g : fGP} {d : Nat} {σ : fAH} {Q : fRes → fAH → Prop} {x : fXS} {k w : Nat}  (Ms : fMs g σ) (ok : fOK x) (Ic : fIc σ x) (hk : k < (iS (xI x)) 152) (hw : w < 4) (h : Q (.inl (some (.int ((iT (xI x)) (k * 4 + w))))) σ) : fEv g (d + 1) mX9_trace 0 (fent [.ref 0, .int (nI k), .int (nI w)] 3) [] σ Q := by
  obtain ⟨D, ⟨S, T, sd, pn, P, rn, R⟩, B, tp, pl, im, Im⟩ := x
  have hD : fWD D := ok.1
  have hW : fWS D S := ok.2.1.1
  have hC : fWC D S := ok.2.1.2.1
  have hN : fWN S 0 0 := ok.2.1.2.2.1
  have Gr : fGr σ 2 D := Ic.1
  obtain ⟨⟨m, Yr⟩, Yt⟩ : fYf σ 15 D S T sd := Ic.2.1
  have Gs := Ms.ground (k := 2) (by decide)
  have Ys := Ms.yard (k := 15) (by decide)
  obtain ⟨⟨g0, g1, g2, g3, g4, g5⟩, ⟨gn, gK⟩, ⟨gr0, gr1, gr2, gr3, gr4⟩⟩ := id Gs
  obtain ⟨⟨y0, y1, y2, y3, y4, y5, y6⟩, ⟨yn, yK⟩, ⟨yr0, yr1, yr2, yr3, yr4, yr5, yr6⟩⟩ := id Ys
  obtain ⟨t0, t1, t2, t3, t4, t5, t6⟩ := id hD.1
  have np := hW.n hD
  have n5 := hW.2.2.2.2
  have tp6 : tp ≤ 600 := ok.2.2.2.1
  have im3 : im ≤ 3 := ok.2.2.2.2.1
  have pn3 : pn ≤ 30 := ok.2.1.2.2.2.1
  have rn6 : rn ≤ 60 := ok.2.1.2.2.2.2.2.1
  have Dc : fDc σ 29 (S, T, sd, pn, P, rn, R) := Ic.2.2.1
  have w52 := hW.1
  have hk : k < S 152 := hk
  show fEv g (d + 1) mX9_trace 0 [some (.ref 0), some (.int (nI k)), some (.int (nI w))] [] σ Q
  refine e_iload_n dX9_trace_0 rfl rfl ?_
  refine e_iconst (nI 0) dX9_trace_1 (by decide) ?_
  refine e_iconst (nI 3) dX9_trace_2 (by decide) ?_
  refine e_callS [.int (nI w), .int (nI 0), .int (nI 3)] dX9_trace_3 cc_X9_checkRange lk_RX9_153 st_X9_checkRange in_RX9 rfl (Nat.le_of_ble_eq_true rfl) (Nat.le_of_ble_eq_true rfl) ?_
  refine t_X9_checkRange ⟨(nI_le' (by omega) (by omega)).mpr (by omega), (nI_le' (by omega) (by omega)).mpr (by omega)⟩ (fK_v ?_)
  show fEv g _ mX9_trace 6 [some (.ref 0), some (.int (nI k)), some (.int (nI w))] [] σ Q
  refine e_iload_n dX9_trace_6 rfl rfl ?_
  refine e_if_lt 21 dX9_trace_7 (by decide) (fun c => absurd c (fun q => absurd ((nI_zlt (by omega)).mp q) (by omega))) (fun _ => ?_)
  refine e_iload_n dX9_trace_10 rfl rfl ?_
  refine e_aload_n dX9_trace_11 rfl rfl ?_
  refine e_getR (q := 15) dX9_trace_12 fl_RX9_41 (Ms.s 0 rfl) (Ms.n (by decide)) rfl (Ms.r 0 5 rfl) (by unfold fscr; omega) ?_
  refine e_getI dX9_trace_15 fl_RX9_225 y0 (show 15 < fnx σ by omega) rfl ?_
  refine e_int (nI (S 152)) Yr.1.2.2.2.2.1 ?_
  refine e_icmp_lt 24 dX9_trace_18 (by decide) (fun _ => ?_) (fun c => absurd ((nI_lt' (by omega) (by omega)).mpr hk) c)
  refine e_aload_n dX9_trace_24 rfl rfl ?_
  refine e_getR (q := 15) dX9_trace_25 fl_RX9_41 (Ms.s 0 rfl) (Ms.n (by decide)) rfl (Ms.r 0 5 rfl) (by unfold fscr; omega) ?_
  refine e_getR (q := 15 + 5) dX9_trace_28 fl_RX9_237 y0 (show 15 < fnx σ by omega) rfl yr5 (by unfold fscr; omega) ?_
  refine e_iload_n dX9_trace_31 rfl rfl ?_
  refine e_iconst (nI 4) dX9_trace_32 (by decide) ?_
  refine e_imul dX9_trace_33 ?_
  refine e_int (nI (k * 4)) (pk_mul k 4) ?_
  refine e_iload_n dX9_trace_34 rfl rfl ?_
  refine e_iadd dX9_trace_35 ?_
  refine e_int (nI (k * 4 + w)) (nI_add (k * 4) w) ?_
  refine e_iaload (k * 4 + w) dX9_trace_36 y5 (show 15 + 5 < fnx σ by omega) rfl (by omega) (by decide) ?_
  refine e_int (T (k * 4 + w)) (Yt.1 k (by omega) w (by omega)) ?_
  exact e_ireturn .int dX9_trace_37 rfl rfl h
set_option maxRecDepth 20000 in
theorem t_X9_traceN {g : fGP} {d : Nat} {σ : fAH} {Q : fRes → fAH → Prop} {x : fXS} {a : Int32} {w : Nat}  (Ms : fMs g σ) (ok : fOK x) (Ic : fIc σ x) (hv : ¬ (nI 0 ≤ a ∧ a < nI ((iS (xI x)) 152))) (hw : w < 4) (h : Q (.inl (some (.int (-2)))) σ) : fEv g (d + 1) mX9_trace 0 (fent [.ref 0, .int a, .int (nI w)] 3) [] σ Q := by
  obtain ⟨D, ⟨S, T, sd, pn, P, rn, R⟩, B, tp, pl, im, Im⟩ := x
  have hD : fWD D := ok.1
  have hW : fWS D S := ok.2.1.1
  have hC : fWC D S := ok.2.1.2.1
  have hN : fWN S 0 0 := ok.2.1.2.2.1
  have Gr : fGr σ 2 D := Ic.1
  obtain ⟨⟨m, Yr⟩, Yt⟩ : fYf σ 15 D S T sd := Ic.2.1
  have Gs := Ms.ground (k := 2) (by decide)
  have Ys := Ms.yard (k := 15) (by decide)
  obtain ⟨⟨g0, g1, g2, g3, g4, g5⟩, ⟨gn, gK⟩, ⟨gr0, gr1, gr2, gr3, gr4⟩⟩ := id Gs
  obtain ⟨⟨y0, y1, y2, y3, y4, y5, y6⟩, ⟨yn, yK⟩, ⟨yr0, yr1, yr2, yr3, yr4, yr5, yr6⟩⟩ := id Ys
  obtain ⟨t0, t1, t2, t3, t4, t5, t6⟩ := id hD.1
  have np := hW.n hD
  have n5 := hW.2.2.2.2
  have tp6 : tp ≤ 600 := ok.2.2.2.1
  have im3 : im ≤ 3 := ok.2.2.2.2.1
  have pn3 : pn ≤ 30 := ok.2.1.2.2.2.1
  have rn6 : rn ≤ 60 := ok.2.1.2.2.2.2.2.1
  have Dc : fDc σ 29 (S, T, sd, pn, P, rn, R) := Ic.2.2.1
  have w52 := hW.1
  show fEv g (d + 1) mX9_trace 0 [some (.ref 0), some (.int a), some (.int (nI w))] [] σ Q
  refine e_iload_n dX9_trace_0 rfl rfl ?_
  refine e_iconst (nI 0) dX9_trace_1 (by decide) ?_
  refine e_iconst (nI 3) dX9_trace_2 (by decide) ?_
  refine e_callS [.int (nI w), .int (nI 0), .int (nI 3)] dX9_trace_3 cc_X9_checkRange lk_RX9_153 st_X9_checkRange in_RX9 rfl (Nat.le_of_ble_eq_true rfl) (Nat.le_of_ble_eq_true rfl) ?_
  refine t_X9_checkRange ⟨(nI_le' (by omega) (by omega)).mpr (by omega), (nI_le' (by omega) (by omega)).mpr (by omega)⟩ (fK_v ?_)
  show fEv g _ mX9_trace 6 [some (.ref 0), some (.int a), some (.int (nI w))] [] σ Q
  refine e_iload_n dX9_trace_6 rfl rfl ?_
  refine e_if_lt 21 dX9_trace_7 (by decide) (fun c7 => ?_) (fun c7 => ?_)
  · refine e_bipush (-2) dX9_trace_21 (by decide) ?_
    exact e_ireturn .int dX9_trace_23 rfl rfl h
  · refine e_iload_n dX9_trace_10 rfl rfl ?_
    refine e_aload_n dX9_trace_11 rfl rfl ?_
    refine e_getR (q := 15) dX9_trace_12 fl_RX9_41 (Ms.s 0 rfl) (Ms.n (by decide)) rfl (Ms.r 0 5 rfl) (by unfold fscr; omega) ?_
    refine e_getI dX9_trace_15 fl_RX9_225 y0 (show 15 < fnx σ by omega) rfl ?_
    refine e_int (nI (S 152)) Yr.1.2.2.2.2.1 ?_
    refine e_icmp_lt 24 dX9_trace_18 (by decide) (fun c18 => ?_) (fun c18 => ?_)
    · exact absurd ⟨Int32.not_lt.mp c7, c18⟩ hv
    · refine e_bipush (-2) dX9_trace_21 (by decide) ?_
      exact e_ireturn .int dX9_trace_23 rfl rfl h
set_option maxRecDepth 20000 in
theorem t_X9_traceE {g : fGP} {d : Nat} {σ : fAH} {Q : fRes → fAH → Prop} {x : fXS} {a b : Int32}  (Ms : fMs g σ) (ok : fOK x) (Ic : fIc σ x) (hv : ¬ (nI 0 ≤ b ∧ b ≤ nI 3)) (rm : fnx σ + fgb σ + 1 ≤ 601024 ∧ fsu σ + 6 ≤ 7293034) (h : Q (.inr "java/lang/IllegalArgumentException") (fthr σ)) : fEv g (d + 1) mX9_trace 0 (fent [.ref 0, .int a, .int b] 3) [] σ Q := by
  obtain ⟨D, ⟨S, T, sd, pn, P, rn, R⟩, B, tp, pl, im, Im⟩ := x
  have hD : fWD D := ok.1
  have hW : fWS D S := ok.2.1.1
  have hC : fWC D S := ok.2.1.2.1
  have hN : fWN S 0 0 := ok.2.1.2.2.1
  have Gr : fGr σ 2 D := Ic.1
  obtain ⟨⟨m, Yr⟩, Yt⟩ : fYf σ 15 D S T sd := Ic.2.1
  have Gs := Ms.ground (k := 2) (by decide)
  have Ys := Ms.yard (k := 15) (by decide)
  obtain ⟨⟨g0, g1, g2, g3, g4, g5⟩, ⟨gn, gK⟩, ⟨gr0, gr1, gr2, gr3, gr4⟩⟩ := id Gs
  obtain ⟨⟨y0, y1, y2, y3, y4, y5, y6⟩, ⟨yn, yK⟩, ⟨yr0, yr1, yr2, yr3, yr4, yr5, yr6⟩⟩ := id Ys
  obtain ⟨t0, t1, t2, t3, t4, t5, t6⟩ := id hD.1
  have np := hW.n hD
  have n5 := hW.2.2.2.2
  have tp6 : tp ≤ 600 := ok.2.2.2.1
  have im3 : im ≤ 3 := ok.2.2.2.2.1
  have pn3 : pn ≤ 30 := ok.2.1.2.2.2.1
  have rn6 : rn ≤ 60 := ok.2.1.2.2.2.2.2.1
  have Dc : fDc σ 29 (S, T, sd, pn, P, rn, R) := Ic.2.2.1
  have w52 := hW.1
  show fEv g (d + 1) mX9_trace 0 [some (.ref 0), some (.int a), some (.int b)] [] σ Q
  refine e_iload_n dX9_trace_0 rfl rfl ?_
  refine e_iconst (nI 0) dX9_trace_1 (by decide) ?_
  refine e_iconst (nI 3) dX9_trace_2 (by decide) ?_
  refine e_callS [.int b, .int (nI 0), .int (nI 3)] dX9_trace_3 cc_X9_checkRange lk_RX9_153 st_X9_checkRange in_RX9 rfl (Nat.le_of_ble_eq_true rfl) (Nat.le_of_ble_eq_true rfl) ?_
  exact t_X9_checkRangeE hv rm (t_out rfl h)
set_option maxRecDepth 20000 in
theorem t_X9_cold {g : fGP} {d : Nat} {σ : fAH} {Q : fRes → fAH → Prop} {x : fXS} {k : Nat}  (Ms : fMs g σ) (ok : fOK x) (Ic : fIc σ x) (hk : k < (iS (xI x)) 155) (h : Q (.inl (some (.int ((iT (xI x)) (100 + k))))) σ) : fEv g (d) mX9_cold 0 (fent [.ref 0, .int (nI k)] 2) [] σ Q := by
  obtain ⟨D, ⟨S, T, sd, pn, P, rn, R⟩, B, tp, pl, im, Im⟩ := x
  have hD : fWD D := ok.1
  have hW : fWS D S := ok.2.1.1
  have hC : fWC D S := ok.2.1.2.1
  have hN : fWN S 0 0 := ok.2.1.2.2.1
  have Gr : fGr σ 2 D := Ic.1
  obtain ⟨⟨m, Yr⟩, Yt⟩ : fYf σ 15 D S T sd := Ic.2.1
  have Gs := Ms.ground (k := 2) (by decide)
  have Ys := Ms.yard (k := 15) (by decide)
  obtain ⟨⟨g0, g1, g2, g3, g4, g5⟩, ⟨gn, gK⟩, ⟨gr0, gr1, gr2, gr3, gr4⟩⟩ := id Gs
  obtain ⟨⟨y0, y1, y2, y3, y4, y5, y6⟩, ⟨yn, yK⟩, ⟨yr0, yr1, yr2, yr3, yr4, yr5, yr6⟩⟩ := id Ys
  obtain ⟨t0, t1, t2, t3, t4, t5, t6⟩ := id hD.1
  have np := hW.n hD
  have n5 := hW.2.2.2.2
  have tp6 : tp ≤ 600 := ok.2.2.2.1
  have im3 : im ≤ 3 := ok.2.2.2.2.1
  have pn3 : pn ≤ 30 := ok.2.1.2.2.2.1
  have rn6 : rn ≤ 60 := ok.2.1.2.2.2.2.2.1
  have Dc : fDc σ 29 (S, T, sd, pn, P, rn, R) := Ic.2.2.1
  have w52 := hW.1
  have hk : k < S 155 := hk
  show fEv g (d) mX9_cold 0 [some (.ref 0), some (.int (nI k))] [] σ Q
  refine e_iload_n dX9_cold_0 rfl rfl ?_
  refine e_if_lt 15 dX9_cold_1 (by decide) (fun c => absurd c (fun q => absurd ((nI_zlt (by omega)).mp q) (by omega))) (fun _ => ?_)
  refine e_iload_n dX9_cold_4 rfl rfl ?_
  refine e_aload_n dX9_cold_5 rfl rfl ?_
  refine e_getR (q := 15) dX9_cold_6 fl_RX9_41 (Ms.s 0 rfl) (Ms.n (by decide)) rfl (Ms.r 0 5 rfl) (by unfold fscr; omega) ?_
  refine e_getI dX9_cold_9 fl_RX9_142 y0 (show 15 < fnx σ by omega) rfl ?_
  refine e_int (nI (S 155)) Yr.1.2.2.1 ?_
  refine e_icmp_lt 19 dX9_cold_12 (by decide) (fun _ => ?_) (fun c => absurd ((nI_lt' (by omega) (by omega)).mpr hk) c)
  refine e_aload_n dX9_cold_19 rfl rfl ?_
  refine e_getR (q := 15) dX9_cold_20 fl_RX9_41 (Ms.s 0 rfl) (Ms.n (by decide)) rfl (Ms.r 0 5 rfl) (by unfold fscr; omega) ?_
  refine e_getR (q := 15 + 4) dX9_cold_23 fl_RX9_240 y0 (show 15 < fnx σ by omega) rfl yr4 (by unfold fscr; omega) ?_
  refine e_iload_n dX9_cold_26 rfl rfl ?_
  refine e_iaload k dX9_cold_27 y4 (show 15 + 4 < fnx σ by omega) rfl (by omega) (by decide) ?_
  refine e_int (T (100 + k)) (Yt.2 k (by omega)) ?_
  exact e_ireturn .int dX9_cold_28 rfl rfl h
set_option maxRecDepth 20000 in
theorem t_X9_coldN {g : fGP} {d : Nat} {σ : fAH} {Q : fRes → fAH → Prop} {x : fXS} {a : Int32}  (Ms : fMs g σ) (ok : fOK x) (Ic : fIc σ x) (hv : ¬ (nI 0 ≤ a ∧ a < nI ((iS (xI x)) 155))) (h : Q (.inl (some (.int (-1)))) σ) : fEv g (d) mX9_cold 0 (fent [.ref 0, .int a] 2) [] σ Q := by
  obtain ⟨D, ⟨S, T, sd, pn, P, rn, R⟩, B, tp, pl, im, Im⟩ := x
  have hD : fWD D := ok.1
  have hW : fWS D S := ok.2.1.1
  have hC : fWC D S := ok.2.1.2.1
  have hN : fWN S 0 0 := ok.2.1.2.2.1
  have Gr : fGr σ 2 D := Ic.1
  obtain ⟨⟨m, Yr⟩, Yt⟩ : fYf σ 15 D S T sd := Ic.2.1
  have Gs := Ms.ground (k := 2) (by decide)
  have Ys := Ms.yard (k := 15) (by decide)
  obtain ⟨⟨g0, g1, g2, g3, g4, g5⟩, ⟨gn, gK⟩, ⟨gr0, gr1, gr2, gr3, gr4⟩⟩ := id Gs
  obtain ⟨⟨y0, y1, y2, y3, y4, y5, y6⟩, ⟨yn, yK⟩, ⟨yr0, yr1, yr2, yr3, yr4, yr5, yr6⟩⟩ := id Ys
  obtain ⟨t0, t1, t2, t3, t4, t5, t6⟩ := id hD.1
  have np := hW.n hD
  have n5 := hW.2.2.2.2
  have tp6 : tp ≤ 600 := ok.2.2.2.1
  have im3 : im ≤ 3 := ok.2.2.2.2.1
  have pn3 : pn ≤ 30 := ok.2.1.2.2.2.1
  have rn6 : rn ≤ 60 := ok.2.1.2.2.2.2.2.1
  have Dc : fDc σ 29 (S, T, sd, pn, P, rn, R) := Ic.2.2.1
  have w52 := hW.1
  show fEv g (d) mX9_cold 0 [some (.ref 0), some (.int a)] [] σ Q
  refine e_iload_n dX9_cold_0 rfl rfl ?_
  refine e_if_lt 15 dX9_cold_1 (by decide) (fun c1 => ?_) (fun c1 => ?_)
  · refine e_iconst (-1) dX9_cold_15 (by decide) ?_
    refine e_goto 28 dX9_cold_16 (by decide) ?_
    exact e_ireturn .int dX9_cold_28 rfl rfl h
  · refine e_iload_n dX9_cold_4 rfl rfl ?_
    refine e_aload_n dX9_cold_5 rfl rfl ?_
    refine e_getR (q := 15) dX9_cold_6 fl_RX9_41 (Ms.s 0 rfl) (Ms.n (by decide)) rfl (Ms.r 0 5 rfl) (by unfold fscr; omega) ?_
    refine e_getI dX9_cold_9 fl_RX9_142 y0 (show 15 < fnx σ by omega) rfl ?_
    refine e_int (nI (S 155)) Yr.1.2.2.1 ?_
    refine e_icmp_lt 19 dX9_cold_12 (by decide) (fun c12 => ?_) (fun c12 => ?_)
    · exact absurd ⟨Int32.not_lt.mp c1, c12⟩ hv
    · refine e_iconst (-1) dX9_cold_15 (by decide) ?_
      refine e_goto 28 dX9_cold_16 (by decide) ?_
      exact e_ireturn .int dX9_cold_28 rfl rfl h
set_option maxRecDepth 20000 in
theorem t_X9_undone {g : fGP} {d : Nat} {σ : fAH} {Q : fRes → fAH → Prop} {x : fXS}  (Ms : fMs g σ) (ok : fOK x) (Ic : fIc σ x) (h : Q (.inl (some (.int (nI (mfa (mal (xD x) (iS (xI x))) 12 (dT (xD x) 1) 0 0))))) σ) : fEv g (d + 4) mX9_undone 0 (fent [.ref 0] 1) [] σ Q := by
  obtain ⟨D, ⟨S, T, sd, pn, P, rn, R⟩, B, tp, pl, im, Im⟩ := x
  have hD : fWD D := ok.1
  have hW : fWS D S := ok.2.1.1
  have hC : fWC D S := ok.2.1.2.1
  have hN : fWN S 0 0 := ok.2.1.2.2.1
  have Gr : fGr σ 2 D := Ic.1
  obtain ⟨⟨m, Yr⟩, Yt⟩ : fYf σ 15 D S T sd := Ic.2.1
  have Gs := Ms.ground (k := 2) (by decide)
  have Ys := Ms.yard (k := 15) (by decide)
  obtain ⟨⟨g0, g1, g2, g3, g4, g5⟩, ⟨gn, gK⟩, ⟨gr0, gr1, gr2, gr3, gr4⟩⟩ := id Gs
  obtain ⟨⟨y0, y1, y2, y3, y4, y5, y6⟩, ⟨yn, yK⟩, ⟨yr0, yr1, yr2, yr3, yr4, yr5, yr6⟩⟩ := id Ys
  obtain ⟨t0, t1, t2, t3, t4, t5, t6⟩ := id hD.1
  have np := hW.n hD
  have n5 := hW.2.2.2.2
  have tp6 : tp ≤ 600 := ok.2.2.2.1
  have im3 : im ≤ 3 := ok.2.2.2.2.1
  have pn3 : pn ≤ 30 := ok.2.1.2.2.2.1
  have rn6 : rn ≤ 60 := ok.2.1.2.2.2.2.2.1
  have Dc : fDc σ 29 (S, T, sd, pn, P, rn, R) := Ic.2.2.1
  have w52 := hW.1
  show fEv g (d + 4) mX9_undone 0 [some (.ref 0)] [] σ Q
  refine e_aload_n dX9_undone_0 rfl rfl ?_
  refine e_getR (q := 15) dX9_undone_1 fl_RX9_41 (Ms.s 0 rfl) (Ms.n (by decide)) rfl (Ms.r 0 5 rfl) (by unfold fscr; omega) ?_
  refine e_bipush (nI 12) dX9_undone_4 (by decide) ?_
  refine e_callV (k := 15) [.int (nI 12)] dX9_undone_6 cc_X8_firstAlive lk_RX9_243 im_X8_firstAlive se_X8_firstAlive (by decide) y0 (show 15 < fnx σ by omega) rfl (Nat.le_of_ble_eq_true rfl) (Nat.le_of_ble_eq_true rfl) ?_
  refine t_X8_firstAlive Gs Gr hD Ys Yr hW (by omega) (fK_i ?_)
  show fEv g _ mX9_undone 9 [some (.ref 0)] [.int (nI (mfa (mal D S) 12 (dT D 1) 0 0))] σ Q
  exact e_ireturn .int dX9_undone_9 rfl rfl h
