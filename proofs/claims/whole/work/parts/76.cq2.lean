theorem mct_s4 {R : Nat → Nat} : ∀ (n i : Nat), (∀ j, R j < 4) → mct (fun j => decide (R j = 0)) n i + mct (fun j => decide (R j = 1)) n i + mct (fun j => decide (R j = 2)) n i + mct (fun j => decide (R j = 3)) n i = n
  | 0, _, _ => rfl
  | n + 1, i, h => by
    have := mct_s4 n (i + 1) h
    have hr := h i
    unfold mct
    rcases (show R i = 0 ∨ R i = 1 ∨ R i = 2 ∨ R i = 3 by omega) with e | e | e | e <;> rw [e] <;> simp only [decide_true, decide_false, bn, if_true, if_false, Nat.reduceEqDiff, Bool.false_eq_true] <;> omega
theorem mcr_sum {D : fSD} {i : fIm} (h : fOI D i) : mcr i 0 + mcr i 1 + mcr i 2 + mcr i 3 = irn i := mct_s4 _ _ h.2.2.2.2.2.2
/-- the part of the state that stands now is another one -/
theorem fIc.cur {A : Nat → Prop} {σ σ1 : fAH} {x : fXS} {i : fIm} (h : fIc σ x) (ok : fOK x) (s : fSm A σ σ1) (na : ∀ a, A a → a = 0 ∨ (8 ≤ a ∧ a < 32) ∨ (34 ≤ a ∧ a < 59) ∨ 89 ≤ a) (hf : ∀ j, j ∈ [1, 2, 10] → fI σ1 0 j = fI σ 0 j) (hY : fYf σ1 15 (xD x) (iS i) (iT i) (iq i)) (hd : fDc σ1 29 i) (hF : fFs σ1 (xD x) (iS i)) (hx : fWx2 σ1) : fIc σ1 (xD x, i, xB x, xt x, xp x, xm x, xM x) := by
  obtain ⟨a1, a2, a3, ⟨b1, b2, b3, b4⟩, a5, a6, a7⟩ := h
  have m3 := ok.2.2.2.2.1
  refine ⟨a1.sm s (fun i hi q => by have := na _ q; omega), hY, hd, ⟨(hf 1 (by decide)).trans b1, fun i hi => (s.i (fun q => by have := na _ q; omega) i).trans (b2 i hi), (hf 2 (by decide)).trans b3, (hf 10 (by decide)).trans b4⟩, fun j hj => ?_, hF, hx⟩
  have hj : j < xm x := hj
  obtain ⟨⟨⟨m, hm⟩, ht⟩, hd9⟩ := a5 j hj
  exact ⟨⟨⟨m, hm.sm s (fun i hi q => by have := na _ q; omega)⟩, ht.sm s (fun i hi q => by have := na _ q; omega)⟩, hd9.cg (s.i (fun q => by have := na _ q; omega)) (s.i (fun q => by have := na _ q; omega)) (s.i (fun q => by have := na _ q; omega))⟩
def vCnt (x : fXS) (w : Nat) : Int32 := if w = 0 then nI (ipn (xI x)) else if w = 1 then nI (irn (xI x)) else if w = 2 then nI (xm x) else nI (xt x)
def vLis (i : fIm) : Int32 := nI (mcr i 3 + mcr i 0) - nI (max (mcr i 3 + mcr i 1) (irn i - (mcr i 3 + mcr i 1)))
def vTru (i : fIm) (s w : Nat) : Int32 := if mcr i (2 * s + 1) + mcr i (2 * s) = 0 then nI w else nI (if w = 0 then mcr i (2 * s + 1) / Nat.gcd (mcr i (2 * s + 1)) (mcr i (2 * s + 1) + mcr i (2 * s)) else (mcr i (2 * s + 1) + mcr i (2 * s)) / Nat.gcd (mcr i (2 * s + 1)) (mcr i (2 * s + 1) + mcr i (2 * s)))
theorem msd_b {D : fSD} {S : Nat → Nat} {k p ln pt : Nat} (hD : fWD D) (hW : fWS D S) (hk : k < dT D 1) (hp : p < S 120) (hin : mins D S k p ln = true) (hpt : pt ≤ 1) : msd D S k p ln pt 0 < 100 ∧ msd D S k p ln pt 1 < 100 := by
  have q := hW.2.1 p hp
  have i := of_decide_eq_true hin
  have s1 := (hD.2.2.1 k hk).2.1
  unfold msd
  rcases (show dS D k 1 = 0 ∨ dS D k 1 = 1 by omega) with e | e <;> rw [e] at i ⊢ <;> simp only [Nat.mul_zero, Nat.mul_one, Nat.add_zero, Nat.reduceAdd, Nat.reduceMul] at i ⊢ <;> constructor <;> repeat' split
  all_goals omega
theorem nL_l2i (a : Nat) : (nL a).toInt32 = nI a := Int64.toInt32_ofNat
set_option maxRecDepth 20000 in
theorem t_X9_left {g : fGP} {d : Nat} {σ : fAH} {Q : fRes → fAH → Prop} {x : fXS} {k w pt : Nat}  (Ms : fMs g σ) (ok : fOK x) (Ic : fIc σ x) (hk : k < dT (xD x) 1) (hw : w ≤ 2) (hp : pt ≤ 1) (h : Q (.inl (some (.int (vLeft (xD x) (iS (xI x)) k w pt)))) σ) : fEv g (d + 4) mX9_left 0 (fent [.ref 0, .int (nI k), .int (nI w), .int (nI pt)] 4) [] σ Q := by
  obtain ⟨D, ⟨S, T, sd, pn, P, rn, R⟩, B, tp, pl, im, Im⟩ := x
  have hD : fWD D := ok.1
  have hW : fWS D S := ok.2.1.1
  have hC : fWC D S := ok.2.1.2.1
  have hN : fWN S 0 0 := ok.2.1.2.2.1
  have Gr : fGr σ 2 D := Ic.1
  obtain ⟨⟨m, Yr⟩, Yt⟩ : fYf σ 15 D S T sd := Ic.2.1
  have Gs := Ms.ground (k := 2) (by decide)
  have Ys := Ms.yard (k := 15) (by decide)
  obtain ⟨⟨g0, g1, g2, g3, g4, g5⟩, ⟨gn, gK⟩, ⟨gr0, gr1, gr2, gr3, gr4⟩⟩ := id Gs
  obtain ⟨⟨y0, y1, y2, y3, y4, y5, y6⟩, ⟨yn, yK⟩, ⟨yr0, yr1, yr2, yr3, yr4, yr5, yr6⟩⟩ := id Ys
  obtain ⟨t0, t1, t2, t3, t4, t5, t6⟩ := id hD.1
  have np := hW.n hD
  have n5 := hW.2.2.2.2
  have tp6 : tp ≤ 600 := ok.2.2.2.1
  have im3 : im ≤ 3 := ok.2.2.2.2.1
  have pn3 : pn ≤ 30 := ok.2.1.2.2.2.1
  have rn6 : rn ≤ 60 := ok.2.1.2.2.2.2.2.1
  have Dc : fDc σ 29 (S, T, sd, pn, P, rn, R) := Ic.2.2.1
  have w52 := hW.1
  have hk : k < dT D 1 := hk
  obtain ⟨s0, s1, s2, s3, s4, s5, s6⟩ := hD.2.2.1 k hk
  have sb9 := hD.s2 hk
  show fEv g (d + 4) mX9_left 0 [some (.ref 0), some (.int (nI k)), some (.int (nI w)), some (.int (nI pt))] [] σ Q
  refine e_aload_n dX9_left_0 rfl rfl ?_
  refine e_iload_n dX9_left_1 rfl rfl ?_
  refine e_callV (k := 0) [.int (nI k)] dX9_left_2 cc_X9_checkSlot lk_RX9_150 im_X9_checkSlot se_X9_checkSlot (by decide) (Ms.s 0 rfl) (Ms.n (by decide)) rfl (Nat.le_of_ble_eq_true rfl) (Nat.le_of_ble_eq_true rfl) ?_
  refine t_X9_checkSlot Ms Gr hD (by omega) (fK_v ?_)
  show fEv g _ mX9_left 5 [some (.ref 0), some (.int (nI k)), some (.int (nI w)), some (.int (nI pt))] [] σ Q
  refine e_iload_n dX9_left_5 rfl rfl ?_
  refine e_iconst (nI 0) dX9_left_6 (by decide) ?_
  refine e_iconst (nI 2) dX9_left_7 (by decide) ?_
  refine e_callS [.int (nI w), .int (nI 0), .int (nI 2)] dX9_left_8 cc_X9_checkRange lk_RX9_153 st_X9_checkRange in_RX9 rfl (Nat.le_of_ble_eq_true rfl) (Nat.le_of_ble_eq_true rfl) ?_
  refine t_X9_checkRange ⟨(nI_le' (by omega) (by omega)).mpr (by omega), (nI_le' (by omega) (by omega)).mpr (by omega)⟩ (fK_v ?_)
  show fEv g _ mX9_left 11 [some (.ref 0), some (.int (nI k)), some (.int (nI w)), some (.int (nI pt))] [] σ Q
  refine e_iload_n dX9_left_11 rfl rfl ?_
  refine e_iconst (nI 0) dX9_left_12 (by decide) ?_
  refine e_iconst (nI 1) dX9_left_13 (by decide) ?_
  refine e_callS [.int (nI pt), .int (nI 0), .int (nI 1)] dX9_left_14 cc_X9_checkRange lk_RX9_153 st_X9_checkRange in_RX9 rfl (Nat.le_of_ble_eq_true rfl) (Nat.le_of_ble_eq_true rfl) ?_
  refine t_X9_checkRange ⟨(nI_le' (by omega) (by omega)).mpr (by omega), (nI_le' (by omega) (by omega)).mpr (by omega)⟩ (fK_v ?_)
  show fEv g _ mX9_left 17 [some (.ref 0), some (.int (nI k)), some (.int (nI w)), some (.int (nI pt))] [] σ Q
  refine e_aload_n dX9_left_17 rfl rfl ?_
  refine e_getR (q := 15) dX9_left_18 fl_RX9_41 (Ms.s 0 rfl) (Ms.n (by decide)) rfl (Ms.r 0 5 rfl) (by unfold fscr; omega) ?_
  refine e_iload_n dX9_left_21 rfl rfl ?_
  refine e_iload_n dX9_left_22 rfl rfl ?_
  refine e_iconst (nI 1) dX9_left_23 (by decide) ?_
  refine e_isub dX9_left_24 ?_
  refine e_callV (k := 15) [.int (nI k), .int ((nI w) - (nI 1))] dX9_left_25 cc_X8_canSplit lk_RX9_246 im_X8_canSplit se_X8_canSplit (by decide) y0 (show 15 < fnx σ by omega) rfl (Nat.le_of_ble_eq_true rfl) (Nat.le_of_ble_eq_true rfl) ?_
  refine t_X8_canSplit Gs Gr hD Ys Yr hW (by omega) (aw_l (by omega)) (by omega) (fK_i ?_)
  show fEv g _ mX9_left 28 [some (.ref 0), some (.int (nI k)), some (.int (nI w)), some (.int (nI pt))] [.int (nI (bn (mcs D S k (dS D k 2 + w - 1))))] σ Q
  refine e_if_ne 33 dX9_left_28 (by decide) (fun c28 => ?_) (fun c28 => ?_)
  · have c28 := bn1 c28
    obtain ⟨p, hp1, hp2, hp3, hp4⟩ := mcs_p c28
    have q6 := hW.2.1 p hp4
    have m0 := msd_b hD hW hk hp4 hp3 hp
    obtain ⟨m01, m02⟩ := m0
    refine e_aload_n dX9_left_33 rfl rfl ?_
    refine e_getR (q := 15) dX9_left_34 fl_RX9_41 (Ms.s 0 rfl) (Ms.n (by decide)) rfl (Ms.r 0 5 rfl) (by unfold fscr; omega) ?_
    refine e_iload_n dX9_left_37 rfl rfl ?_
    refine e_iload_n dX9_left_38 rfl rfl ?_
    refine e_iconst (nI 1) dX9_left_39 (by decide) ?_
    refine e_isub dX9_left_40 ?_
    refine e_iload_n dX9_left_41 rfl rfl ?_
    refine e_callV (k := 15) [.int (nI k), .int ((nI w) - (nI 1)), .int (nI pt)] dX9_left_42 cc_X8_partWide lk_RX9_250 im_X8_partWide se_X8_partWide (by decide) y0 (show 15 < fnx σ by omega) rfl (Nat.le_of_ble_eq_true rfl) (Nat.le_of_ble_eq_true rfl) ?_
    refine t_X8_partWide Gs Gr hD Ys Yr hW (by omega) (aw_l (by omega)) (by omega) hp1 hp3 (by omega) (fK_i ?_)
    show fEv g _ mX9_left 45 [some (.ref 0), some (.int (nI k)), some (.int (nI w)), some (.int (nI pt))] [.int (nI (msd D S k p (dS D k 2 + w - 1) pt 0))] σ Q
    refine e_aload_n dX9_left_45 rfl rfl ?_
    refine e_getR (q := 15) dX9_left_46 fl_RX9_41 (Ms.s 0 rfl) (Ms.n (by decide)) rfl (Ms.r 0 5 rfl) (by unfold fscr; omega) ?_
    refine e_iload_n dX9_left_49 rfl rfl ?_
    refine e_iload_n dX9_left_50 rfl rfl ?_
    refine e_iconst (nI 1) dX9_left_51 (by decide) ?_
    refine e_isub dX9_left_52 ?_
    refine e_iload_n dX9_left_53 rfl rfl ?_
    refine e_callV (k := 15) [.int (nI k), .int ((nI w) - (nI 1)), .int (nI pt)] dX9_left_54 cc_X8_partHigh lk_RX9_254 im_X8_partHigh se_X8_partHigh (by decide) y0 (show 15 < fnx σ by omega) rfl (Nat.le_of_ble_eq_true rfl) (Nat.le_of_ble_eq_true rfl) ?_
    refine t_X8_partHigh Gs Gr hD Ys Yr hW (by omega) (aw_l (by omega)) (by omega) hp1 hp3 (by omega) (fK_i ?_)
    show fEv g _ mX9_left 57 [some (.ref 0), some (.int (nI k)), some (.int (nI w)), some (.int (nI pt))] [.int (nI (msd D S k p (dS D k 2 + w - 1) pt 1)), .int (nI (msd D S k p (dS D k 2 + w - 1) pt 0))] σ Q
    refine e_imul dX9_left_57 ?_
    refine e_int (nI ((msd D S k p (dS D k 2 + w - 1) pt 0) * (msd D S k p (dS D k 2 + w - 1) pt 1))) (pk_mul (msd D S k p (dS D k 2 + w - 1) pt 0) (msd D S k p (dS D k 2 + w - 1) pt 1)) ?_
    have h : Q (.inl (some (.int (vLeft D S k w pt)))) σ := h
    unfold vLeft at h
    rw [if_pos c28, hp2] at h
    exact e_ireturn .int dX9_left_58 rfl rfl h
  · have c28 := bn0 c28
    refine e_iconst (-1) dX9_left_31 (by decide) ?_
    have h : Q (.inl (some (.int (vLeft D S k w pt)))) σ := h
    unfold vLeft at h
    rw [if_neg (by rw [c28]; exact Bool.false_ne_true)] at h
    exact e_ireturn .int dX9_left_32 rfl rfl h
set_option maxRecDepth 20000 in
theorem t_X9_leftE1 {g : fGP} {d : Nat} {σ : fAH} {Q : fRes → fAH → Prop} {x : fXS} {a b c : Int32}  (Ms : fMs g σ) (ok : fOK x) (Ic : fIc σ x) (hv : ¬ (nI 0 ≤ a ∧ a < nI (dT (xD x) 1))) (rm : fnx σ + fgb σ + 1 ≤ 601024 ∧ fsu σ + 6 ≤ 7293034) (h : Q (.inr "java/util/NoSuchElementException") (fthr σ)) : fEv g (d + 1) mX9_left 0 (fent [.ref 0, .int a, .int b, .int c] 4) [] σ Q := by
  obtain ⟨D, ⟨S, T, sd, pn, P, rn, R⟩, B, tp, pl, im, Im⟩ := x
  have hD : fWD D := ok.1
  have hW : fWS D S := ok.2.1.1
  have hC : fWC D S := ok.2.1.2.1
  have hN : fWN S 0 0 := ok.2.1.2.2.1
  have Gr : fGr σ 2 D := Ic.1
  obtain ⟨⟨m, Yr⟩, Yt⟩ : fYf σ 15 D S T sd := Ic.2.1
  have Gs := Ms.ground (k := 2) (by decide)
  have Ys := Ms.yard (k := 15) (by decide)
  obtain ⟨⟨g0, g1, g2, g3, g4, g5⟩, ⟨gn, gK⟩, ⟨gr0, gr1, gr2, gr3, gr4⟩⟩ := id Gs
  obtain ⟨⟨y0, y1, y2, y3, y4, y5, y6⟩, ⟨yn, yK⟩, ⟨yr0, yr1, yr2, yr3, yr4, yr5, yr6⟩⟩ := id Ys
  obtain ⟨t0, t1, t2, t3, t4, t5, t6⟩ := id hD.1
  have np := hW.n hD
  have n5 := hW.2.2.2.2
  have tp6 : tp ≤ 600 := ok.2.2.2.1
  have im3 : im ≤ 3 := ok.2.2.2.2.1
  have pn3 : pn ≤ 30 := ok.2.1.2.2.2.1
  have rn6 : rn ≤ 60 := ok.2.1.2.2.2.2.2.1
  have Dc : fDc σ 29 (S, T, sd, pn, P, rn, R) := Ic.2.2.1
  have w52 := hW.1
  show fEv g (d + 1) mX9_left 0 [some (.ref 0), some (.int a), some (.int b), some (.int c)] [] σ Q
  refine e_aload_n dX9_left_0 rfl rfl ?_
  refine e_iload_n dX9_left_1 rfl rfl ?_
  refine e_callV (k := 0) [.int a] dX9_left_2 cc_X9_checkSlot lk_RX9_150 im_X9_checkSlot se_X9_checkSlot (by decide) (Ms.s 0 rfl) (Ms.n (by decide)) rfl (Nat.le_of_ble_eq_true rfl) (Nat.le_of_ble_eq_true rfl) ?_
  exact t_X9_checkSlotE Ms Gr hD hv rm (t_out rfl h)
set_option maxRecDepth 20000 in
theorem t_X9_leftE2 {g : fGP} {d : Nat} {σ : fAH} {Q : fRes → fAH → Prop} {x : fXS} {k : Nat} {b c : Int32}  (Ms : fMs g σ) (ok : fOK x) (Ic : fIc σ x) (hk : k < dT (xD x) 1) (hv : ¬ (nI 0 ≤ b ∧ b ≤ nI 2)) (rm : fnx σ + fgb σ + 1 ≤ 601024 ∧ fsu σ + 6 ≤ 7293034) (h : Q (.inr "java/lang/IllegalArgumentException") (fthr σ)) : fEv g (d + 1) mX9_left 0 (fent [.ref 0, .int (nI k), .int b, .int c] 4) [] σ Q := by
  obtain ⟨D, ⟨S, T, sd, pn, P, rn, R⟩, B, tp, pl, im, Im⟩ := x
  have hD : fWD D := ok.1
  have hW : fWS D S := ok.2.1.1
  have hC : fWC D S := ok.2.1.2.1
  have hN : fWN S 0 0 := ok.2.1.2.2.1
  have Gr : fGr σ 2 D := Ic.1
  obtain ⟨⟨m, Yr⟩, Yt⟩ : fYf σ 15 D S T sd := Ic.2.1
  have Gs := Ms.ground (k := 2) (by decide)
  have Ys := Ms.yard (k := 15) (by decide)
  obtain ⟨⟨g0, g1, g2, g3, g4, g5⟩, ⟨gn, gK⟩, ⟨gr0, gr1, gr2, gr3, gr4⟩⟩ := id Gs
  obtain ⟨⟨y0, y1, y2, y3, y4, y5, y6⟩, ⟨yn, yK⟩, ⟨yr0, yr1, yr2, yr3, yr4, yr5, yr6⟩⟩ := id Ys
  obtain ⟨t0, t1, t2, t3, t4, t5, t6⟩ := id hD.1
  have np := hW.n hD
  have n5 := hW.2.2.2.2
  have tp6 : tp ≤ 600 := ok.2.2.2.1
  have im3 : im ≤ 3 := ok.2.2.2.2.1
  have pn3 : pn ≤ 30 := ok.2.1.2.2.2.1
  have rn6 : rn ≤ 60 := ok.2.1.2.2.2.2.2.1
  have Dc : fDc σ 29 (S, T, sd, pn, P, rn, R) := Ic.2.2.1
  have w52 := hW.1
  show fEv g (d + 1) mX9_left 0 [some (.ref 0), some (.int (nI k)), some (.int b), some (.int c)] [] σ Q
  refine e_aload_n dX9_left_0 rfl rfl ?_
  refine e_iload_n dX9_left_1 rfl rfl ?_
  refine e_callV (k := 0) [.int (nI k)] dX9_left_2 cc_X9_checkSlot lk_RX9_150 im_X9_checkSlot se_X9_checkSlot (by decide) (Ms.s 0 rfl) (Ms.n (by decide)) rfl (Nat.le_of_ble_eq_true rfl) (Nat.le_of_ble_eq_true rfl) ?_
  refine t_X9_checkSlot Ms Gr hD (by omega) (fK_v ?_)
  show fEv g _ mX9_left 5 [some (.ref 0), some (.int (nI k)), some (.int b), some (.int c)] [] σ Q
  refine e_iload_n dX9_left_5 rfl rfl ?_
  refine e_iconst (nI 0) dX9_left_6 (by decide) ?_
  refine e_iconst (nI 2) dX9_left_7 (by decide) ?_
  refine e_callS [.int b, .int (nI 0), .int (nI 2)] dX9_left_8 cc_X9_checkRange lk_RX9_153 st_X9_checkRange in_RX9 rfl (Nat.le_of_ble_eq_true rfl) (Nat.le_of_ble_eq_true rfl) ?_
  exact t_X9_checkRangeE hv rm (t_out rfl h)
set_option maxRecDepth 20000 in
theorem t_X9_leftE3 {g : fGP} {d : Nat} {σ : fAH} {Q : fRes → fAH → Prop} {x : fXS} {k w : Nat} {c : Int32}  (Ms : fMs g σ) (ok : fOK x) (Ic : fIc σ x) (hk : k < dT (xD x) 1) (hw : w ≤ 2) (hv : ¬ (nI 0 ≤ c ∧ c ≤ nI 1)) (rm : fnx σ + fgb σ + 1 ≤ 601024 ∧ fsu σ + 6 ≤ 7293034) (h : Q (.inr "java/lang/IllegalArgumentException") (fthr σ)) : fEv g (d + 1) mX9_left 0 (fent [.ref 0, .int (nI k), .int (nI w), .int c] 4) [] σ Q := by
  obtain ⟨D, ⟨S, T, sd, pn, P, rn, R⟩, B, tp, pl, im, Im⟩ := x
  have hD : fWD D := ok.1
  have hW : fWS D S := ok.2.1.1
  have hC : fWC D S := ok.2.1.2.1
  have hN : fWN S 0 0 := ok.2.1.2.2.1
  have Gr : fGr σ 2 D := Ic.1
  obtain ⟨⟨m, Yr⟩, Yt⟩ : fYf σ 15 D S T sd := Ic.2.1
  have Gs := Ms.ground (k := 2) (by decide)
  have Ys := Ms.yard (k := 15) (by decide)
  obtain ⟨⟨g0, g1, g2, g3, g4, g5⟩, ⟨gn, gK⟩, ⟨gr0, gr1, gr2, gr3, gr4⟩⟩ := id Gs
  obtain ⟨⟨y0, y1, y2, y3, y4, y5, y6⟩, ⟨yn, yK⟩, ⟨yr0, yr1, yr2, yr3, yr4, yr5, yr6⟩⟩ := id Ys
  obtain ⟨t0, t1, t2, t3, t4, t5, t6⟩ := id hD.1
  have np := hW.n hD
  have n5 := hW.2.2.2.2
  have tp6 : tp ≤ 600 := ok.2.2.2.1
  have im3 : im ≤ 3 := ok.2.2.2.2.1
  have pn3 : pn ≤ 30 := ok.2.1.2.2.2.1
  have rn6 : rn ≤ 60 := ok.2.1.2.2.2.2.2.1
  have Dc : fDc σ 29 (S, T, sd, pn, P, rn, R) := Ic.2.2.1
  have w52 := hW.1
  show fEv g (d + 1) mX9_left 0 [some (.ref 0), some (.int (nI k)), some (.int (nI w)), some (.int c)] [] σ Q
  refine e_aload_n dX9_left_0 rfl rfl ?_
  refine e_iload_n dX9_left_1 rfl rfl ?_
  refine e_callV (k := 0) [.int (nI k)] dX9_left_2 cc_X9_checkSlot lk_RX9_150 im_X9_checkSlot se_X9_checkSlot (by decide) (Ms.s 0 rfl) (Ms.n (by decide)) rfl (Nat.le_of_ble_eq_true rfl) (Nat.le_of_ble_eq_true rfl) ?_
  refine t_X9_checkSlot Ms Gr hD (by omega) (fK_v ?_)
  show fEv g _ mX9_left 5 [some (.ref 0), some (.int (nI k)), some (.int (nI w)), some (.int c)] [] σ Q
  refine e_iload_n dX9_left_5 rfl rfl ?_
  refine e_iconst (nI 0) dX9_left_6 (by decide) ?_
  refine e_iconst (nI 2) dX9_left_7 (by decide) ?_
  refine e_callS [.int (nI w), .int (nI 0), .int (nI 2)] dX9_left_8 cc_X9_checkRange lk_RX9_153 st_X9_checkRange in_RX9 rfl (Nat.le_of_ble_eq_true rfl) (Nat.le_of_ble_eq_true rfl) ?_
  refine t_X9_checkRange ⟨(nI_le' (by omega) (by omega)).mpr (by omega), (nI_le' (by omega) (by omega)).mpr (by omega)⟩ (fK_v ?_)
  show fEv g _ mX9_left 11 [some (.ref 0), some (.int (nI k)), some (.int (nI w)), some (.int c)] [] σ Q
  refine e_iload_n dX9_left_11 rfl rfl ?_
  refine e_iconst (nI 0) dX9_left_12 (by decide) ?_
  refine e_iconst (nI 1) dX9_left_13 (by decide) ?_
  refine e_callS [.int c, .int (nI 0), .int (nI 1)] dX9_left_14 cc_X9_checkRange lk_RX9_153 st_X9_checkRange in_RX9 rfl (Nat.le_of_ble_eq_true rfl) (Nat.le_of_ble_eq_true rfl) ?_
  exact t_X9_checkRangeE hv rm (t_out rfl h)
set_option maxRecDepth 20000 in
theorem t_X9_fits {g : fGP} {d : Nat} {σ : fAH} {Q : fRes → fAH → Prop} {x : fXS} {k w pt : Nat}  (Ms : fMs g σ) (ok : fOK x) (Ic : fIc σ x) (hk : k < dT (xD x) 1) (hw : w ≤ 2) (hp : pt ≤ 1) (h : Q (.inl (some (.int (vFit (xD x) (iS (xI x)) k w pt)))) σ) : fEv g (d + 4) mX9_fits 0 (fent [.ref 0, .int (nI k), .int (nI w), .int (nI pt)] 4) [] σ Q := by
  obtain ⟨D, ⟨S, T, sd, pn, P, rn, R⟩, B, tp, pl, im, Im⟩ := x
  have hD : fWD D := ok.1
  have hW : fWS D S := ok.2.1.1
  have hC : fWC D S := ok.2.1.2.1
  have hN : fWN S 0 0 := ok.2.1.2.2.1
  have Gr : fGr σ 2 D := Ic.1
  obtain ⟨⟨m, Yr⟩, Yt⟩ : fYf σ 15 D S T sd := Ic.2.1
  have Gs := Ms.ground (k := 2) (by decide)
  have Ys := Ms.yard (k := 15) (by decide)
  obtain ⟨⟨g0, g1, g2, g3, g4, g5⟩, ⟨gn, gK⟩, ⟨gr0, gr1, gr2, gr3, gr4⟩⟩ := id Gs
  obtain ⟨⟨y0, y1, y2, y3, y4, y5, y6⟩, ⟨yn, yK⟩, ⟨yr0, yr1, yr2, yr3, yr4, yr5, yr6⟩⟩ := id Ys
  obtain ⟨t0, t1, t2, t3, t4, t5, t6⟩ := id hD.1
  have np := hW.n hD
  have n5 := hW.2.2.2.2
  have tp6 : tp ≤ 600 := ok.2.2.2.1
  have im3 : im ≤ 3 := ok.2.2.2.2.1
  have pn3 : pn ≤ 30 := ok.2.1.2.2.2.1
  have rn6 : rn ≤ 60 := ok.2.1.2.2.2.2.2.1
  have Dc : fDc σ 29 (S, T, sd, pn, P, rn, R) := Ic.2.2.1
  have w52 := hW.1
  have hk : k < dT D 1 := hk
  obtain ⟨s0, s1, s2, s3, s4, s5, s6⟩ := hD.2.2.1 k hk
  have sb9 := hD.s2 hk
  show fEv g (d + 4) mX9_fits 0 [some (.ref 0), some (.int (nI k)), some (.int (nI w)), some (.int (nI pt))] [] σ Q
  refine e_aload_n dX9_fits_0 rfl rfl ?_
  refine e_iload_n dX9_fits_1 rfl rfl ?_
  refine e_callV (k := 0) [.int (nI k)] dX9_fits_2 cc_X9_checkSlot lk_RX9_150 im_X9_checkSlot se_X9_checkSlot (by decide) (Ms.s 0 rfl) (Ms.n (by decide)) rfl (Nat.le_of_ble_eq_true rfl) (Nat.le_of_ble_eq_true rfl) ?_
  refine t_X9_checkSlot Ms Gr hD (by omega) (fK_v ?_)
  show fEv g _ mX9_fits 5 [some (.ref 0), some (.int (nI k)), some (.int (nI w)), some (.int (nI pt))] [] σ Q
  refine e_iload_n dX9_fits_5 rfl rfl ?_
  refine e_iconst (nI 0) dX9_fits_6 (by decide) ?_
  refine e_iconst (nI 2) dX9_fits_7 (by decide) ?_
  refine e_callS [.int (nI w), .int (nI 0), .int (nI 2)] dX9_fits_8 cc_X9_checkRange lk_RX9_153 st_X9_checkRange in_RX9 rfl (Nat.le_of_ble_eq_true rfl) (Nat.le_of_ble_eq_true rfl) ?_
  refine t_X9_checkRange ⟨(nI_le' (by omega) (by omega)).mpr (by omega), (nI_le' (by omega) (by omega)).mpr (by omega)⟩ (fK_v ?_)
  show fEv g _ mX9_fits 11 [some (.ref 0), some (.int (nI k)), some (.int (nI w)), some (.int (nI pt))] [] σ Q
  refine e_iload_n dX9_fits_11 rfl rfl ?_
  refine e_iconst (nI 0) dX9_fits_12 (by decide) ?_
  refine e_iconst (nI 1) dX9_fits_13 (by decide) ?_
  refine e_callS [.int (nI pt), .int (nI 0), .int (nI 1)] dX9_fits_14 cc_X9_checkRange lk_RX9_153 st_X9_checkRange in_RX9 rfl (Nat.le_of_ble_eq_true rfl) (Nat.le_of_ble_eq_true rfl) ?_
  refine t_X9_checkRange ⟨(nI_le' (by omega) (by omega)).mpr (by omega), (nI_le' (by omega) (by omega)).mpr (by omega)⟩ (fK_v ?_)
  show fEv g _ mX9_fits 17 [some (.ref 0), some (.int (nI k)), some (.int (nI w)), some (.int (nI pt))] [] σ Q
  refine e_aload_n dX9_fits_17 rfl rfl ?_
  refine e_getR (q := 15) dX9_fits_18 fl_RX9_41 (Ms.s 0 rfl) (Ms.n (by decide)) rfl (Ms.r 0 5 rfl) (by unfold fscr; omega) ?_
  refine e_iload_n dX9_fits_21 rfl rfl ?_
  refine e_iload_n dX9_fits_22 rfl rfl ?_
  refine e_iconst (nI 1) dX9_fits_23 (by decide) ?_
  refine e_isub dX9_fits_24 ?_
  refine e_callV (k := 15) [.int (nI k), .int ((nI w) - (nI 1))] dX9_fits_25 cc_X8_canSplit lk_RX9_246 im_X8_canSplit se_X8_canSplit (by decide) y0 (show 15 < fnx σ by omega) rfl (Nat.le_of_ble_eq_true rfl) (Nat.le_of_ble_eq_true rfl) ?_
  refine t_X8_canSplit Gs Gr hD Ys Yr hW (by omega) (aw_l (by omega)) (by omega) (fK_i ?_)
  show fEv g _ mX9_fits 28 [some (.ref 0), some (.int (nI k)), some (.int (nI w)), some (.int (nI pt))] [.int (nI (bn (mcs D S k (dS D k 2 + w - 1))))] σ Q
  refine e_if_ne 33 dX9_fits_28 (by decide) (fun c28 => ?_) (fun c28 => ?_)
  · have c28 := bn1 c28
    obtain ⟨p, hp1, hp2, hp3, hp4⟩ := mcs_p c28
    have q6 := hW.2.1 p hp4
    have m0 := msd_b hD hW hk hp4 hp3 hp
    obtain ⟨m01, m02⟩ := m0
    refine e_aload_n dX9_fits_33 rfl rfl ?_
    refine e_getR (q := 2) dX9_fits_34 fl_RX9_23 (Ms.s 0 rfl) (Ms.n (by decide)) rfl (Ms.r 0 3 rfl) (by unfold fscr; omega) ?_
    refine e_aload_n dX9_fits_37 rfl rfl ?_
    refine e_getR (q := 15) dX9_fits_38 fl_RX9_41 (Ms.s 0 rfl) (Ms.n (by decide)) rfl (Ms.r 0 5 rfl) (by unfold fscr; omega) ?_
    refine e_iload_n dX9_fits_41 rfl rfl ?_
    refine e_iload_n dX9_fits_42 rfl rfl ?_
    refine e_iconst (nI 1) dX9_fits_43 (by decide) ?_
    refine e_isub dX9_fits_44 ?_
    refine e_iload_n dX9_fits_45 rfl rfl ?_
    refine e_callV (k := 15) [.int (nI k), .int ((nI w) - (nI 1)), .int (nI pt)] dX9_fits_46 cc_X8_partWide lk_RX9_250 im_X8_partWide se_X8_partWide (by decide) y0 (show 15 < fnx σ by omega) rfl (Nat.le_of_ble_eq_true rfl) (Nat.le_of_ble_eq_true rfl) ?_
    refine t_X8_partWide Gs Gr hD Ys Yr hW (by omega) (aw_l (by omega)) (by omega) hp1 hp3 (by omega) (fK_i ?_)
    show fEv g _ mX9_fits 49 [some (.ref 0), some (.int (nI k)), some (.int (nI w)), some (.int (nI pt))] [.int (nI (msd D S k p (dS D k 2 + w - 1) pt 0)), .ref 2] σ Q
    refine e_aload_n dX9_fits_49 rfl rfl ?_
    refine e_getR (q := 15) dX9_fits_50 fl_RX9_41 (Ms.s 0 rfl) (Ms.n (by decide)) rfl (Ms.r 0 5 rfl) (by unfold fscr; omega) ?_
    refine e_iload_n dX9_fits_53 rfl rfl ?_
    refine e_iload_n dX9_fits_54 rfl rfl ?_
    refine e_iconst (nI 1) dX9_fits_55 (by decide) ?_
    refine e_isub dX9_fits_56 ?_
    refine e_iload_n dX9_fits_57 rfl rfl ?_
    refine e_callV (k := 15) [.int (nI k), .int ((nI w) - (nI 1)), .int (nI pt)] dX9_fits_58 cc_X8_partHigh lk_RX9_254 im_X8_partHigh se_X8_partHigh (by decide) y0 (show 15 < fnx σ by omega) rfl (Nat.le_of_ble_eq_true rfl) (Nat.le_of_ble_eq_true rfl) ?_
    refine t_X8_partHigh Gs Gr hD Ys Yr hW (by omega) (aw_l (by omega)) (by omega) hp1 hp3 (by omega) (fK_i ?_)
    show fEv g _ mX9_fits 61 [some (.ref 0), some (.int (nI k)), some (.int (nI w)), some (.int (nI pt))] [.int (nI (msd D S k p (dS D k 2 + w - 1) pt 1)), .int (nI (msd D S k p (dS D k 2 + w - 1) pt 0)), .ref 2] σ Q
    refine e_callV (k := 2) [.int (nI (msd D S k p (dS D k 2 + w - 1) pt 0)), .int (nI (msd D S k p (dS D k 2 + w - 1) pt 1))] dX9_fits_61 cc_X3_orderOfSize lk_RX9_257 im_X3_orderOfSize se_X3_orderOfSize (by decide) g0 (show 2 < fnx σ by omega) rfl (Nat.le_of_ble_eq_true rfl) (Nat.le_of_ble_eq_true rfl) ?_
    refine t_X3_orderOfSize Gs Gr hD (by omega) (by omega) (fK_i ?_)
    show fEv g _ mX9_fits 64 [some (.ref 0), some (.int (nI k)), some (.int (nI w)), some (.int (nI pt))] [.int (mo (mof D (msd D S k p (dS D k 2 + w - 1) pt 0) (msd D S k p (dS D k 2 + w - 1) pt 1)))] σ Q
    have h : Q (.inl (some (.int (vFit D S k w pt)))) σ := h
    unfold vFit at h
    rw [if_pos c28, hp2] at h
    exact e_ireturn .int dX9_fits_64 rfl rfl h
  · have c28 := bn0 c28
    refine e_iconst (-1) dX9_fits_31 (by decide) ?_
    have h : Q (.inl (some (.int (vFit D S k w pt)))) σ := h
    unfold vFit at h
    rw [if_neg (by rw [c28]; exact Bool.false_ne_true)] at h
    exact e_ireturn .int dX9_fits_32 rfl rfl h
set_option maxRecDepth 20000 in
theorem t_X9_fitsE1 {g : fGP} {d : Nat} {σ : fAH} {Q : fRes → fAH → Prop} {x : fXS} {a b c : Int32}  (Ms : fMs g σ) (ok : fOK x) (Ic : fIc σ x) (hv : ¬ (nI 0 ≤ a ∧ a < nI (dT (xD x) 1))) (rm : fnx σ + fgb σ + 1 ≤ 601024 ∧ fsu σ + 6 ≤ 7293034) (h : Q (.inr "java/util/NoSuchElementException") (fthr σ)) : fEv g (d + 1) mX9_fits 0 (fent [.ref 0, .int a, .int b, .int c] 4) [] σ Q := by
  obtain ⟨D, ⟨S, T, sd, pn, P, rn, R⟩, B, tp, pl, im, Im⟩ := x
  have hD : fWD D := ok.1
  have hW : fWS D S := ok.2.1.1
  have hC : fWC D S := ok.2.1.2.1
  have hN : fWN S 0 0 := ok.2.1.2.2.1
  have Gr : fGr σ 2 D := Ic.1
  obtain ⟨⟨m, Yr⟩, Yt⟩ : fYf σ 15 D S T sd := Ic.2.1
  have Gs := Ms.ground (k := 2) (by decide)
  have Ys := Ms.yard (k := 15) (by decide)
  obtain ⟨⟨g0, g1, g2, g3, g4, g5⟩, ⟨gn, gK⟩, ⟨gr0, gr1, gr2, gr3, gr4⟩⟩ := id Gs
  obtain ⟨⟨y0, y1, y2, y3, y4, y5, y6⟩, ⟨yn, yK⟩, ⟨yr0, yr1, yr2, yr3, yr4, yr5, yr6⟩⟩ := id Ys
  obtain ⟨t0, t1, t2, t3, t4, t5, t6⟩ := id hD.1
  have np := hW.n hD
  have n5 := hW.2.2.2.2
  have tp6 : tp ≤ 600 := ok.2.2.2.1
  have im3 : im ≤ 3 := ok.2.2.2.2.1
  have pn3 : pn ≤ 30 := ok.2.1.2.2.2.1
  have rn6 : rn ≤ 60 := ok.2.1.2.2.2.2.2.1
  have Dc : fDc σ 29 (S, T, sd, pn, P, rn, R) := Ic.2.2.1
  have w52 := hW.1
  show fEv g (d + 1) mX9_fits 0 [some (.ref 0), some (.int a), some (.int b), some (.int c)] [] σ Q
  refine e_aload_n dX9_fits_0 rfl rfl ?_
  refine e_iload_n dX9_fits_1 rfl rfl ?_
  refine e_callV (k := 0) [.int a] dX9_fits_2 cc_X9_checkSlot lk_RX9_150 im_X9_checkSlot se_X9_checkSlot (by decide) (Ms.s 0 rfl) (Ms.n (by decide)) rfl (Nat.le_of_ble_eq_true rfl) (Nat.le_of_ble_eq_true rfl) ?_
  exact t_X9_checkSlotE Ms Gr hD hv rm (t_out rfl h)
set_option maxRecDepth 20000 in
theorem t_X9_fitsE2 {g : fGP} {d : Nat} {σ : fAH} {Q : fRes → fAH → Prop} {x : fXS} {k : Nat} {b c : Int32}  (Ms : fMs g σ) (ok : fOK x) (Ic : fIc σ x) (hk : k < dT (xD x) 1) (hv : ¬ (nI 0 ≤ b ∧ b ≤ nI 2)) (rm : fnx σ + fgb σ + 1 ≤ 601024 ∧ fsu σ + 6 ≤ 7293034) (h : Q (.inr "java/lang/IllegalArgumentException") (fthr σ)) : fEv g (d + 1) mX9_fits 0 (fent [.ref 0, .int (nI k), .int b, .int c] 4) [] σ Q := by
  obtain ⟨D, ⟨S, T, sd, pn, P, rn, R⟩, B, tp, pl, im, Im⟩ := x
  have hD : fWD D := ok.1
  have hW : fWS D S := ok.2.1.1
  have hC : fWC D S := ok.2.1.2.1
  have hN : fWN S 0 0 := ok.2.1.2.2.1
  have Gr : fGr σ 2 D := Ic.1
  obtain ⟨⟨m, Yr⟩, Yt⟩ : fYf σ 15 D S T sd := Ic.2.1
  have Gs := Ms.ground (k := 2) (by decide)
  have Ys := Ms.yard (k := 15) (by decide)
  obtain ⟨⟨g0, g1, g2, g3, g4, g5⟩, ⟨gn, gK⟩, ⟨gr0, gr1, gr2, gr3, gr4⟩⟩ := id Gs
  obtain ⟨⟨y0, y1, y2, y3, y4, y5, y6⟩, ⟨yn, yK⟩, ⟨yr0, yr1, yr2, yr3, yr4, yr5, yr6⟩⟩ := id Ys
  obtain ⟨t0, t1, t2, t3, t4, t5, t6⟩ := id hD.1
  have np := hW.n hD
  have n5 := hW.2.2.2.2
  have tp6 : tp ≤ 600 := ok.2.2.2.1
  have im3 : im ≤ 3 := ok.2.2.2.2.1
  have pn3 : pn ≤ 30 := ok.2.1.2.2.2.1
  have rn6 : rn ≤ 60 := ok.2.1.2.2.2.2.2.1
  have Dc : fDc σ 29 (S, T, sd, pn, P, rn, R) := Ic.2.2.1
  have w52 := hW.1
  show fEv g (d + 1) mX9_fits 0 [some (.ref 0), some (.int (nI k)), some (.int b), some (.int c)] [] σ Q
  refine e_aload_n dX9_fits_0 rfl rfl ?_
  refine e_iload_n dX9_fits_1 rfl rfl ?_
  refine e_callV (k := 0) [.int (nI k)] dX9_fits_2 cc_X9_checkSlot lk_RX9_150 im_X9_checkSlot se_X9_checkSlot (by decide) (Ms.s 0 rfl) (Ms.n (by decide)) rfl (Nat.le_of_ble_eq_true rfl) (Nat.le_of_ble_eq_true rfl) ?_
  refine t_X9_checkSlot Ms Gr hD (by omega) (fK_v ?_)
  show fEv g _ mX9_fits 5 [some (.ref 0), some (.int (nI k)), some (.int b), some (.int c)] [] σ Q
  refine e_iload_n dX9_fits_5 rfl rfl ?_
  refine e_iconst (nI 0) dX9_fits_6 (by decide) ?_
  refine e_iconst (nI 2) dX9_fits_7 (by decide) ?_
  refine e_callS [.int b, .int (nI 0), .int (nI 2)] dX9_fits_8 cc_X9_checkRange lk_RX9_153 st_X9_checkRange in_RX9 rfl (Nat.le_of_ble_eq_true rfl) (Nat.le_of_ble_eq_true rfl) ?_
  exact t_X9_checkRangeE hv rm (t_out rfl h)
set_option maxRecDepth 20000 in
theorem t_X9_fitsE3 {g : fGP} {d : Nat} {σ : fAH} {Q : fRes → fAH → Prop} {x : fXS} {k w : Nat} {c : Int32}  (Ms : fMs g σ) (ok : fOK x) (Ic : fIc σ x) (hk : k < dT (xD x) 1) (hw : w ≤ 2) (hv : ¬ (nI 0 ≤ c ∧ c ≤ nI 1)) (rm : fnx σ + fgb σ + 1 ≤ 601024 ∧ fsu σ + 6 ≤ 7293034) (h : Q (.inr "java/lang/IllegalArgumentException") (fthr σ)) : fEv g (d + 1) mX9_fits 0 (fent [.ref 0, .int (nI k), .int (nI w), .int c] 4) [] σ Q := by
  obtain ⟨D, ⟨S, T, sd, pn, P, rn, R⟩, B, tp, pl, im, Im⟩ := x
  have hD : fWD D := ok.1
  have hW : fWS D S := ok.2.1.1
  have hC : fWC D S := ok.2.1.2.1
  have hN : fWN S 0 0 := ok.2.1.2.2.1
  have Gr : fGr σ 2 D := Ic.1
  obtain ⟨⟨m, Yr⟩, Yt⟩ : fYf σ 15 D S T sd := Ic.2.1
  have Gs := Ms.ground (k := 2) (by decide)
  have Ys := Ms.yard (k := 15) (by decide)
  obtain ⟨⟨g0, g1, g2, g3, g4, g5⟩, ⟨gn, gK⟩, ⟨gr0, gr1, gr2, gr3, gr4⟩⟩ := id Gs
  obtain ⟨⟨y0, y1, y2, y3, y4, y5, y6⟩, ⟨yn, yK⟩, ⟨yr0, yr1, yr2, yr3, yr4, yr5, yr6⟩⟩ := id Ys
  obtain ⟨t0, t1, t2, t3, t4, t5, t6⟩ := id hD.1
  have np := hW.n hD
  have n5 := hW.2.2.2.2
  have tp6 : tp ≤ 600 := ok.2.2.2.1
  have im3 : im ≤ 3 := ok.2.2.2.2.1
  have pn3 : pn ≤ 30 := ok.2.1.2.2.2.1
  have rn6 : rn ≤ 60 := ok.2.1.2.2.2.2.2.1
  have Dc : fDc σ 29 (S, T, sd, pn, P, rn, R) := Ic.2.2.1
  have w52 := hW.1
  show fEv g (d + 1) mX9_fits 0 [some (.ref 0), some (.int (nI k)), some (.int (nI w)), some (.int c)] [] σ Q
  refine e_aload_n dX9_fits_0 rfl rfl ?_
  refine e_iload_n dX9_fits_1 rfl rfl ?_
  refine e_callV (k := 0) [.int (nI k)] dX9_fits_2 cc_X9_checkSlot lk_RX9_150 im_X9_checkSlot se_X9_checkSlot (by decide) (Ms.s 0 rfl) (Ms.n (by decide)) rfl (Nat.le_of_ble_eq_true rfl) (Nat.le_of_ble_eq_true rfl) ?_
  refine t_X9_checkSlot Ms Gr hD (by omega) (fK_v ?_)
  show fEv g _ mX9_fits 5 [some (.ref 0), some (.int (nI k)), some (.int (nI w)), some (.int c)] [] σ Q
  refine e_iload_n dX9_fits_5 rfl rfl ?_
  refine e_iconst (nI 0) dX9_fits_6 (by decide) ?_
  refine e_iconst (nI 2) dX9_fits_7 (by decide) ?_
  refine e_callS [.int (nI w), .int (nI 0), .int (nI 2)] dX9_fits_8 cc_X9_checkRange lk_RX9_153 st_X9_checkRange in_RX9 rfl (Nat.le_of_ble_eq_true rfl) (Nat.le_of_ble_eq_true rfl) ?_
  refine t_X9_checkRange ⟨(nI_le' (by omega) (by omega)).mpr (by omega), (nI_le' (by omega) (by omega)).mpr (by omega)⟩ (fK_v ?_)
  show fEv g _ mX9_fits 11 [some (.ref 0), some (.int (nI k)), some (.int (nI w)), some (.int c)] [] σ Q
  refine e_iload_n dX9_fits_11 rfl rfl ?_
  refine e_iconst (nI 0) dX9_fits_12 (by decide) ?_
  refine e_iconst (nI 1) dX9_fits_13 (by decide) ?_
  refine e_callS [.int c, .int (nI 0), .int (nI 1)] dX9_fits_14 cc_X9_checkRange lk_RX9_153 st_X9_checkRange in_RX9 rfl (Nat.le_of_ble_eq_true rfl) (Nat.le_of_ble_eq_true rfl) ?_
  exact t_X9_checkRangeE hv rm (t_out rfl h)
set_option maxRecDepth 20000 in
theorem t_X0_kindOf {g : fGP} {d : Nat} {σ : fAH} {Q : fRes → fAH → Prop} {s c : Nat} (hs : s ≤ 1) (hc : c ≤ 1) (h : Q (.inl (some (.int (nI (2 * s + c))))) σ) : fEv g d mX0_kindOf 0 (fent [.int (nI s), .int (nI c)] 2) [] σ Q := by
  show fEv g d mX0_kindOf 0 [some (.int (nI s)), some (.int (nI c))] [] σ Q
  refine e_iload_n dX0_kindOf_0 rfl rfl ?_
  refine e_if_eq 8 dX0_kindOf_1 (by decide) (fun c1 => ?_) (fun c1 => ?_)
  · rw [nI_z (by omega)] at c1
    refine e_iconst (nI 0) dX0_kindOf_8 (by decide) ?_
    refine e_iload_n dX0_kindOf_9 rfl rfl ?_
    refine e_if_eq 17 dX0_kindOf_10 (by decide) (fun c10 => ?_) (fun c10 => ?_)
    · rw [nI_z (by omega)] at c10
      refine e_iconst (nI 0) dX0_kindOf_17 (by decide) ?_
      refine e_iadd dX0_kindOf_18 ?_
      refine e_int (nI 0) (nI_add 0 0) ?_
      have e9 : 2 * s + c = 0 := by omega
      rw [e9] at h
      exact e_ireturn .int dX0_kindOf_19 rfl rfl h
    · rw [nI_z (by omega)] at c10
      refine e_iconst (nI 1) dX0_kindOf_13 (by decide) ?_
      refine e_goto 18 dX0_kindOf_14 (by decide) ?_
      refine e_iadd dX0_kindOf_18 ?_
      refine e_int (nI 1) (nI_add 0 1) ?_
      have e9 : 2 * s + c = 1 := by omega
      rw [e9] at h
      exact e_ireturn .int dX0_kindOf_19 rfl rfl h
  · rw [nI_z (by omega)] at c1
    refine e_iconst (nI 2) dX0_kindOf_4 (by decide) ?_
    refine e_goto 9 dX0_kindOf_5 (by decide) ?_
    refine e_iload_n dX0_kindOf_9 rfl rfl ?_
    refine e_if_eq 17 dX0_kindOf_10 (by decide) (fun c10 => ?_) (fun c10 => ?_)
    · rw [nI_z (by omega)] at c10
      refine e_iconst (nI 0) dX0_kindOf_17 (by decide) ?_
      refine e_iadd dX0_kindOf_18 ?_
      refine e_int (nI 2) (nI_add 2 0) ?_
      have e9 : 2 * s + c = 2 := by omega
      rw [e9] at h
      exact e_ireturn .int dX0_kindOf_19 rfl rfl h
    · rw [nI_z (by omega)] at c10
      refine e_iconst (nI 1) dX0_kindOf_13 (by decide) ?_
      refine e_goto 18 dX0_kindOf_14 (by decide) ?_
      refine e_iadd dX0_kindOf_18 ?_
      refine e_int (nI 3) (nI_add 2 1) ?_
      have e9 : 2 * s + c = 3 := by omega
      rw [e9] at h
      exact e_ireturn .int dX0_kindOf_19 rfl rfl h
set_option maxRecDepth 20000 in
theorem t_X0_recordsOf {g : fGP} {d : Nat} {σ : fAH} {Q : fRes → fAH → Prop} {s c : Nat} {i : fIm} {D : fSD} (Ms : fMs g σ) (hO : fOI D i) (Dc : fDc σ 29 i) (hs : s ≤ 1) (hc : c ≤ 1) (h : Q (.inl (some (.int (nI (mcr i (2 * s + c)))))) σ) : fEv g (d + 1) mX0_recordsOf 0 (fent [.ref 29, .int (nI s), .int (nI c)] 3) [] σ Q := by
  show fEv g (d + 1) mX0_recordsOf 0 [some (.ref 29), some (.int (nI s)), some (.int (nI c))] [] σ Q
  refine e_aload_n dX0_recordsOf_0 rfl rfl ?_
  refine e_getR (q := 31) dX0_recordsOf_1 fl_RX0_19 (Ms.s 29 rfl) (Ms.n (by decide)) rfl (Ms.r 29 2 rfl) (by unfold fscr; omega) ?_
  refine e_iload_n dX0_recordsOf_4 rfl rfl ?_
  refine e_iload_n dX0_recordsOf_5 rfl rfl ?_
  refine e_callS [.int (nI s), .int (nI c)] dX0_recordsOf_6 cc_X0_kindOf lk_RX0_38 st_X0_kindOf in_RX0 rfl (Nat.le_of_ble_eq_true rfl) (Nat.le_of_ble_eq_true rfl) ?_
  refine t_X0_kindOf (by omega) (by omega) (fK_i ?_)
  show fEv g _ mX0_recordsOf 9 [some (.ref 29), some (.int (nI s)), some (.int (nI c))] [.int (nI (2 * s + c)), .ref 31] σ Q
  refine e_iaload (2 * s + c) dX0_recordsOf_9 (Ms.s 31 rfl) (Ms.n (by decide)) rfl (by omega) (by decide) ?_
  refine e_int (nI (mcr i (2 * s + c))) (Dc.2.2 (2 * s + c) (by omega)) ?_
  exact e_ireturn .int dX0_recordsOf_10 rfl rfl h
set_option maxRecDepth 20000 in
theorem t_X0_records {g : fGP} {d : Nat} {σ : fAH} {Q : fRes → fAH → Prop} {i : fIm} {D : fSD} (Ms : fMs g σ) (hO : fOI D i) (Dc : fDc σ 29 i) (h : Q (.inl (some (.int (nI (irn i))))) σ) : fEv g d mX0_records 0 (fent [.ref 29] 1) [] σ Q := by
  show fEv g d mX0_records 0 [some (.ref 29)] [] σ Q
  refine e_aload_n dX0_records_0 rfl rfl ?_
  refine e_getR (q := 31) dX0_records_1 fl_RX0_19 (Ms.s 29 rfl) (Ms.n (by decide)) rfl (Ms.r 29 2 rfl) (by unfold fscr; omega) ?_
  refine e_iconst (nI 0) dX0_records_4 (by decide) ?_
  refine e_iaload 0 dX0_records_5 (Ms.s 31 rfl) (Ms.n (by decide)) rfl (by omega) (by decide) ?_
  refine e_int (nI (mcr i 0)) (Dc.2.2 0 (by omega)) ?_
  refine e_aload_n dX0_records_6 rfl rfl ?_
  refine e_getR (q := 31) dX0_records_7 fl_RX0_19 (Ms.s 29 rfl) (Ms.n (by decide)) rfl (Ms.r 29 2 rfl) (by unfold fscr; omega) ?_
  refine e_iconst (nI 1) dX0_records_10 (by decide) ?_
  refine e_iaload 1 dX0_records_11 (Ms.s 31 rfl) (Ms.n (by decide)) rfl (by omega) (by decide) ?_
  refine e_int (nI (mcr i 1)) (Dc.2.2 1 (by omega)) ?_
  refine e_iadd dX0_records_12 ?_
  refine e_int (nI (mcr i 0 + mcr i 1)) (nI_add (mcr i 0) (mcr i 1)) ?_
  refine e_aload_n dX0_records_13 rfl rfl ?_
  refine e_getR (q := 31) dX0_records_14 fl_RX0_19 (Ms.s 29 rfl) (Ms.n (by decide)) rfl (Ms.r 29 2 rfl) (by unfold fscr; omega) ?_
  refine e_iconst (nI 2) dX0_records_17 (by decide) ?_
  refine e_iaload 2 dX0_records_18 (Ms.s 31 rfl) (Ms.n (by decide)) rfl (by omega) (by decide) ?_
  refine e_int (nI (mcr i 2)) (Dc.2.2 2 (by omega)) ?_
  refine e_iadd dX0_records_19 ?_
  refine e_int (nI (mcr i 0 + mcr i 1 + mcr i 2)) (nI_add (mcr i 0 + mcr i 1) (mcr i 2)) ?_
  refine e_aload_n dX0_records_20 rfl rfl ?_
  refine e_getR (q := 31) dX0_records_21 fl_RX0_19 (Ms.s 29 rfl) (Ms.n (by decide)) rfl (Ms.r 29 2 rfl) (by unfold fscr; omega) ?_
  refine e_iconst (nI 3) dX0_records_24 (by decide) ?_
  refine e_iaload 3 dX0_records_25 (Ms.s 31 rfl) (Ms.n (by decide)) rfl (by omega) (by decide) ?_
  refine e_int (nI (mcr i 3)) (Dc.2.2 3 (by omega)) ?_
  refine e_iadd dX0_records_26 ?_
  refine e_int (nI (mcr i 0 + mcr i 1 + mcr i 2 + mcr i 3)) (nI_add (mcr i 0 + mcr i 1 + mcr i 2) (mcr i 3)) ?_
  rw [show mcr i 0 + mcr i 1 + mcr i 2 + mcr i 3 = irn i from mcr_sum hO]
  exact e_ireturn .int dX0_records_27 rfl rfl h
set_option maxRecDepth 20000 in
theorem t_X9_count {g : fGP} {d : Nat} {σ : fAH} {Q : fRes → fAH → Prop} {x : fXS} {w : Nat}  (Ms : fMs g σ) (ok : fOK x) (Ic : fIc σ x) (hw : w < 4) (h : Q (.inl (some (.int (vCnt x w)))) σ) : fEv g (d + 1) mX9_count 0 (fent [.ref 0, .int (nI w)] 2) [] σ Q := by
  obtain ⟨D, ⟨S, T, sd, pn, P, rn, R⟩, B, tp, pl, im, Im⟩ := x
  have hD : fWD D := ok.1
  have hW : fWS D S := ok.2.1.1
  have hC : fWC D S := ok.2.1.2.1
  have hN : fWN S 0 0 := ok.2.1.2.2.1
  have Gr : fGr σ 2 D := Ic.1
  obtain ⟨⟨m, Yr⟩, Yt⟩ : fYf σ 15 D S T sd := Ic.2.1
  have Gs := Ms.ground (k := 2) (by decide)
  have Ys := Ms.yard (k := 15) (by decide)
  obtain ⟨⟨g0, g1, g2, g3, g4, g5⟩, ⟨gn, gK⟩, ⟨gr0, gr1, gr2, gr3, gr4⟩⟩ := id Gs
  obtain ⟨⟨y0, y1, y2, y3, y4, y5, y6⟩, ⟨yn, yK⟩, ⟨yr0, yr1, yr2, yr3, yr4, yr5, yr6⟩⟩ := id Ys
  obtain ⟨t0, t1, t2, t3, t4, t5, t6⟩ := id hD.1
  have np := hW.n hD
  have n5 := hW.2.2.2.2
  have tp6 : tp ≤ 600 := ok.2.2.2.1
  have im3 : im ≤ 3 := ok.2.2.2.2.1
  have pn3 : pn ≤ 30 := ok.2.1.2.2.2.1
  have rn6 : rn ≤ 60 := ok.2.1.2.2.2.2.2.1
  have Dc : fDc σ 29 (S, T, sd, pn, P, rn, R) := Ic.2.2.1
  have w52 := hW.1
  have hO : fOI D (S, T, sd, pn, P, rn, R) := ok.2.1
  have ms : mcr (S, T, sd, pn, P, rn, R) 0 + mcr (S, T, sd, pn, P, rn, R) 1 + mcr (S, T, sd, pn, P, rn, R) 2 + mcr (S, T, sd, pn, P, rn, R) 3 = rn := mcr_sum hO
  rcases (show w = 0 ∨ w = 1 ∨ w = 2 ∨ w = 3 by omega) with rfl | rfl | rfl | rfl
  · show fEv g (d + 1) mX9_count 0 [some (.ref 0), some (.int (nI 0))] [] σ Q
    refine e_iload_n dX9_count_0 rfl rfl ?_
    refine e_tswIn (off := 31) 32 dX9_count_1 (by decide) (by decide) (by decide) (by decide) ?_
    refine e_aload_n dX9_count_32 rfl rfl ?_
    refine e_getR (q := 29) dX9_count_33 fl_RX9_51 (Ms.s 0 rfl) (Ms.n (by decide)) rfl (Ms.r 0 7 rfl) (by unfold fscr; omega) ?_
    refine e_getI dX9_count_36 fl_RX9_266 (Ms.s 29 rfl) (Ms.n (by decide)) rfl ?_
    refine e_int (nI pn) Dc.1 ?_
    exact e_ireturn .int dX9_count_39 rfl rfl h
  · show fEv g (d + 1) mX9_count 0 [some (.ref 0), some (.int (nI 1))] [] σ Q
    refine e_iload_n dX9_count_0 rfl rfl ?_
    refine e_tswIn (off := 39) 40 dX9_count_1 (by decide) (by decide) (by decide) (by decide) ?_
    refine e_aload_n dX9_count_40 rfl rfl ?_
    refine e_getR (q := 29) dX9_count_41 fl_RX9_51 (Ms.s 0 rfl) (Ms.n (by decide)) rfl (Ms.r 0 7 rfl) (by unfold fscr; omega) ?_
    refine e_callV (k := 29) [] dX9_count_44 cc_X0_records lk_RX9_311 im_X0_records se_X0_records (by decide) (Ms.s 29 rfl) (Ms.n (by decide)) rfl (Nat.le_of_ble_eq_true rfl) (Nat.le_of_ble_eq_true rfl) ?_
    refine t_X0_records Ms hO Dc (fK_i ?_)
    show fEv g _ mX9_count 47 [some (.ref 0), some (.int (nI 1))] [.int (nI rn)] σ Q
    exact e_ireturn .int dX9_count_47 rfl rfl h
  · show fEv g (d + 1) mX9_count 0 [some (.ref 0), some (.int (nI 2))] [] σ Q
    refine e_iload_n dX9_count_0 rfl rfl ?_
    refine e_tswIn (off := 47) 48 dX9_count_1 (by decide) (by decide) (by decide) (by decide) ?_
    refine e_aload_n dX9_count_48 rfl rfl ?_
    refine e_getI dX9_count_49 fl_RX9_63 (Ms.s 0 rfl) (Ms.n (by decide)) rfl ?_
    refine e_int (nI im) Ic.2.2.2.1.2.2.2 ?_
    exact e_ireturn .int dX9_count_52 rfl rfl h
  · show fEv g (d + 1) mX9_count 0 [some (.ref 0), some (.int (nI 3))] [] σ Q
    refine e_iload_n dX9_count_0 rfl rfl ?_
    refine e_tswIn (off := 52) 53 dX9_count_1 (by decide) (by decide) (by decide) (by decide) ?_
    refine e_aload_n dX9_count_53 rfl rfl ?_
    refine e_getI dX9_count_54 fl_RX9_13 (Ms.s 0 rfl) (Ms.n (by decide)) rfl ?_
    refine e_int (nI tp) Ic.2.2.2.1.1 ?_
    exact e_ireturn .int dX9_count_57 rfl rfl h
set_option maxRecDepth 20000 in
theorem t_X9_countN {g : fGP} {d : Nat} {σ : fAH} {Q : fRes → fAH → Prop} {x : fXS} {a : Int32}  (Ms : fMs g σ) (ok : fOK x) (Ic : fIc σ x) (hv : ¬ (nI 0 ≤ a ∧ a ≤ nI 3)) (h : Q (.inl (some (.int (-1)))) σ) : fEv g d mX9_count 0 (fent [.ref 0, .int a] 2) [] σ Q := by
  show fEv g d mX9_count 0 [some (.ref 0), some (.int a)] [] σ Q
  refine e_iload_n dX9_count_0 rfl rfl ?_
  refine e_tswOut 58 dX9_count_1 (tsw_out (k := 3) (by decide) hv) (by decide) ?_
  refine e_iconst (-1) dX9_count_58 (by decide) ?_
  exact e_ireturn .int dX9_count_59 rfl rfl h
set_option maxRecDepth 20000 in
theorem t_X9_listening {g : fGP} {d : Nat} {σ : fAH} {Q : fRes → fAH → Prop} {x : fXS}  (Ms : fMs g σ) (ok : fOK x) (Ic : fIc σ x) (h : Q (.inl (some (.int (vLis (xI x))))) σ) : fEv g (d + 2) mX9_listening 0 (fent [.ref 0] 3) [] σ Q := by
  obtain ⟨D, ⟨S, T, sd, pn, P, rn, R⟩, B, tp, pl, im, Im⟩ := x
  have hD : fWD D := ok.1
  have hW : fWS D S := ok.2.1.1
  have hC : fWC D S := ok.2.1.2.1
  have hN : fWN S 0 0 := ok.2.1.2.2.1
  have Gr : fGr σ 2 D := Ic.1
  obtain ⟨⟨m, Yr⟩, Yt⟩ : fYf σ 15 D S T sd := Ic.2.1
  have Gs := Ms.ground (k := 2) (by decide)
  have Ys := Ms.yard (k := 15) (by decide)
  obtain ⟨⟨g0, g1, g2, g3, g4, g5⟩, ⟨gn, gK⟩, ⟨gr0, gr1, gr2, gr3, gr4⟩⟩ := id Gs
  obtain ⟨⟨y0, y1, y2, y3, y4, y5, y6⟩, ⟨yn, yK⟩, ⟨yr0, yr1, yr2, yr3, yr4, yr5, yr6⟩⟩ := id Ys
  obtain ⟨t0, t1, t2, t3, t4, t5, t6⟩ := id hD.1
  have np := hW.n hD
  have n5 := hW.2.2.2.2
  have tp6 : tp ≤ 600 := ok.2.2.2.1
  have im3 : im ≤ 3 := ok.2.2.2.2.1
  have pn3 : pn ≤ 30 := ok.2.1.2.2.2.1
  have rn6 : rn ≤ 60 := ok.2.1.2.2.2.2.2.1
  have Dc : fDc σ 29 (S, T, sd, pn, P, rn, R) := Ic.2.2.1
  have w52 := hW.1
  have hO : fOI D (S, T, sd, pn, P, rn, R) := ok.2.1
  have ms : mcr (S, T, sd, pn, P, rn, R) 0 + mcr (S, T, sd, pn, P, rn, R) 1 + mcr (S, T, sd, pn, P, rn, R) 2 + mcr (S, T, sd, pn, P, rn, R) 3 = rn := mcr_sum hO
  show fEv g (d + 2) mX9_listening 0 [some (.ref 0), none, none] [] σ Q
  refine e_aload_n dX9_listening_0 rfl rfl ?_
  refine e_getR (q := 29) dX9_listening_1 fl_RX9_51 (Ms.s 0 rfl) (Ms.n (by decide)) rfl (Ms.r 0 7 rfl) (by unfold fscr; omega) ?_
  refine e_iconst (nI 1) dX9_listening_4 (by decide) ?_
  refine e_iconst (nI 1) dX9_listening_5 (by decide) ?_
  refine e_callV (k := 29) [.int (nI 1), .int (nI 1)] dX9_listening_6 cc_X0_recordsOf lk_RX9_308 im_X0_recordsOf se_X0_recordsOf (by decide) (Ms.s 29 rfl) (Ms.n (by decide)) rfl (Nat.le_of_ble_eq_true rfl) (Nat.le_of_ble_eq_true rfl) ?_
  refine t_X0_recordsOf Ms hO Dc (by omega) (by omega) (fK_i ?_)
  show fEv g _ mX9_listening 9 [some (.ref 0), none, none] [.int (nI (mcr (S, T, sd, pn, P, rn, R) 3))] σ Q
  refine e_aload_n dX9_listening_9 rfl rfl ?_
  refine e_getR (q := 29) dX9_listening_10 fl_RX9_51 (Ms.s 0 rfl) (Ms.n (by decide)) rfl (Ms.r 0 7 rfl) (by unfold fscr; omega) ?_
  refine e_iconst (nI 0) dX9_listening_13 (by decide) ?_
  refine e_iconst (nI 0) dX9_listening_14 (by decide) ?_
  refine e_callV (k := 29) [.int (nI 0), .int (nI 0)] dX9_listening_15 cc_X0_recordsOf lk_RX9_308 im_X0_recordsOf se_X0_recordsOf (by decide) (Ms.s 29 rfl) (Ms.n (by decide)) rfl (Nat.le_of_ble_eq_true rfl) (Nat.le_of_ble_eq_true rfl) ?_
  refine t_X0_recordsOf Ms hO Dc (by omega) (by omega) (fK_i ?_)
  show fEv g _ mX9_listening 18 [some (.ref 0), none, none] [.int (nI (mcr (S, T, sd, pn, P, rn, R) 0)), .int (nI (mcr (S, T, sd, pn, P, rn, R) 3))] σ Q
  refine e_iadd dX9_listening_18 ?_
  refine e_int (nI (mcr (S, T, sd, pn, P, rn, R) 3 + mcr (S, T, sd, pn, P, rn, R) 0)) (nI_add (mcr (S, T, sd, pn, P, rn, R) 3) (mcr (S, T, sd, pn, P, rn, R) 0)) ?_
  refine e_istore_n (L1 := [some (.ref 0), some (.int (nI (mcr (S, T, sd, pn, P, rn, R) 3 + mcr (S, T, sd, pn, P, rn, R) 0))), none]) dX9_listening_19 rfl (by decide) rfl ?_
  refine e_aload_n dX9_listening_20 rfl rfl ?_
  refine e_getR (q := 29) dX9_listening_21 fl_RX9_51 (Ms.s 0 rfl) (Ms.n (by decide)) rfl (Ms.r 0 7 rfl) (by unfold fscr; omega) ?_
  refine e_iconst (nI 1) dX9_listening_24 (by decide) ?_
  refine e_iconst (nI 1) dX9_listening_25 (by decide) ?_
  refine e_callV (k := 29) [.int (nI 1), .int (nI 1)] dX9_listening_26 cc_X0_recordsOf lk_RX9_308 im_X0_recordsOf se_X0_recordsOf (by decide) (Ms.s 29 rfl) (Ms.n (by decide)) rfl (Nat.le_of_ble_eq_true rfl) (Nat.le_of_ble_eq_true rfl) ?_
  refine t_X0_recordsOf Ms hO Dc (by omega) (by omega) (fK_i ?_)
  show fEv g _ mX9_listening 29 [some (.ref 0), some (.int (nI (mcr (S, T, sd, pn, P, rn, R) 3 + mcr (S, T, sd, pn, P, rn, R) 0))), none] [.int (nI (mcr (S, T, sd, pn, P, rn, R) 3))] σ Q
  refine e_aload_n dX9_listening_29 rfl rfl ?_
  refine e_getR (q := 29) dX9_listening_30 fl_RX9_51 (Ms.s 0 rfl) (Ms.n (by decide)) rfl (Ms.r 0 7 rfl) (by unfold fscr; omega) ?_
  refine e_iconst (nI 0) dX9_listening_33 (by decide) ?_
  refine e_iconst (nI 1) dX9_listening_34 (by decide) ?_
  refine e_callV (k := 29) [.int (nI 0), .int (nI 1)] dX9_listening_35 cc_X0_recordsOf lk_RX9_308 im_X0_recordsOf se_X0_recordsOf (by decide) (Ms.s 29 rfl) (Ms.n (by decide)) rfl (Nat.le_of_ble_eq_true rfl) (Nat.le_of_ble_eq_true rfl) ?_
  refine t_X0_recordsOf Ms hO Dc (by omega) (by omega) (fK_i ?_)
  show fEv g _ mX9_listening 38 [some (.ref 0), some (.int (nI (mcr (S, T, sd, pn, P, rn, R) 3 + mcr (S, T, sd, pn, P, rn, R) 0))), none] [.int (nI (mcr (S, T, sd, pn, P, rn, R) 1)), .int (nI (mcr (S, T, sd, pn, P, rn, R) 3))] σ Q
  refine e_iadd dX9_listening_38 ?_
  refine e_int (nI (mcr (S, T, sd, pn, P, rn, R) 3 + mcr (S, T, sd, pn, P, rn, R) 1)) (nI_add (mcr (S, T, sd, pn, P, rn, R) 3) (mcr (S, T, sd, pn, P, rn, R) 1)) ?_
  refine e_istore_n (L1 := [some (.ref 0), some (.int (nI (mcr (S, T, sd, pn, P, rn, R) 3 + mcr (S, T, sd, pn, P, rn, R) 0))), some (.int (nI (mcr (S, T, sd, pn, P, rn, R) 3 + mcr (S, T, sd, pn, P, rn, R) 1)))]) dX9_listening_39 rfl (by decide) rfl ?_
  refine e_iload_n dX9_listening_40 rfl rfl ?_
  refine e_iload_n dX9_listening_41 rfl rfl ?_
  refine e_aload_n dX9_listening_42 rfl rfl ?_
  refine e_getR (q := 29) dX9_listening_43 fl_RX9_51 (Ms.s 0 rfl) (Ms.n (by decide)) rfl (Ms.r 0 7 rfl) (by unfold fscr; omega) ?_
  refine e_callV (k := 29) [] dX9_listening_46 cc_X0_records lk_RX9_311 im_X0_records se_X0_records (by decide) (Ms.s 29 rfl) (Ms.n (by decide)) rfl (Nat.le_of_ble_eq_true rfl) (Nat.le_of_ble_eq_true rfl) ?_
  refine t_X0_records Ms hO Dc (fK_i ?_)
  show fEv g _ mX9_listening 49 [some (.ref 0), some (.int (nI (mcr (S, T, sd, pn, P, rn, R) 3 + mcr (S, T, sd, pn, P, rn, R) 0))), some (.int (nI (mcr (S, T, sd, pn, P, rn, R) 3 + mcr (S, T, sd, pn, P, rn, R) 1)))] [.int (nI rn), .int (nI (mcr (S, T, sd, pn, P, rn, R) 3 + mcr (S, T, sd, pn, P, rn, R) 1)), .int (nI (mcr (S, T, sd, pn, P, rn, R) 3 + mcr (S, T, sd, pn, P, rn, R) 0))] σ Q
  refine e_iload_n dX9_listening_49 rfl rfl ?_
  refine e_isub dX9_listening_50 ?_
  refine e_int (nI (rn - (mcr (S, T, sd, pn, P, rn, R) 3 + mcr (S, T, sd, pn, P, rn, R) 1))) (pk_sub (by omega)) ?_
  refine e_max dX9_listening_51 ml_RX9_314 w_max (Nat.le_of_ble_eq_true rfl) ?_
  refine e_int (nI (max (mcr (S, T, sd, pn, P, rn, R) 3 + mcr (S, T, sd, pn, P, rn, R) 1) (rn - (mcr (S, T, sd, pn, P, rn, R) 3 + mcr (S, T, sd, pn, P, rn, R) 1)))) (nI_mx (by omega) (by omega)) ?_
  refine e_isub dX9_listening_54 ?_
  exact e_ireturn .int dX9_listening_55 rfl rfl h
set_option maxRecDepth 20000 in
theorem t_X9_trust {g : fGP} {d : Nat} {σ : fAH} {Q : fRes → fAH → Prop} {x : fXS} {s9 w : Nat}  (Ms : fMs g σ) (ok : fOK x) (Ic : fIc σ x) (hs : s9 ≤ 1) (hw : w ≤ 1) (h : Q (.inl (some (.int (vTru (xI x) s9 w)))) σ) : fEv g (d + 2) mX9_trust 0 (fent [.ref 0, .int (nI s9), .int (nI w)] 5) [] σ Q := by
  obtain ⟨D, ⟨S, T, sd, pn, P, rn, R⟩, B, tp, pl, im, Im⟩ := x
  have hD : fWD D := ok.1
  have hW : fWS D S := ok.2.1.1
  have hC : fWC D S := ok.2.1.2.1
  have hN : fWN S 0 0 := ok.2.1.2.2.1
  have Gr : fGr σ 2 D := Ic.1
  obtain ⟨⟨m, Yr⟩, Yt⟩ : fYf σ 15 D S T sd := Ic.2.1
  have Gs := Ms.ground (k := 2) (by decide)
  have Ys := Ms.yard (k := 15) (by decide)
  obtain ⟨⟨g0, g1, g2, g3, g4, g5⟩, ⟨gn, gK⟩, ⟨gr0, gr1, gr2, gr3, gr4⟩⟩ := id Gs
  obtain ⟨⟨y0, y1, y2, y3, y4, y5, y6⟩, ⟨yn, yK⟩, ⟨yr0, yr1, yr2, yr3, yr4, yr5, yr6⟩⟩ := id Ys
  obtain ⟨t0, t1, t2, t3, t4, t5, t6⟩ := id hD.1
  have np := hW.n hD
  have n5 := hW.2.2.2.2
  have tp6 : tp ≤ 600 := ok.2.2.2.1
  have im3 : im ≤ 3 := ok.2.2.2.2.1
  have pn3 : pn ≤ 30 := ok.2.1.2.2.2.1
  have rn6 : rn ≤ 60 := ok.2.1.2.2.2.2.2.1
  have Dc : fDc σ 29 (S, T, sd, pn, P, rn, R) := Ic.2.2.1
  have w52 := hW.1
  have hO : fOI D (S, T, sd, pn, P, rn, R) := ok.2.1
  have ms : mcr (S, T, sd, pn, P, rn, R) 0 + mcr (S, T, sd, pn, P, rn, R) 1 + mcr (S, T, sd, pn, P, rn, R) 2 + mcr (S, T, sd, pn, P, rn, R) 3 = rn := mcr_sum hO
  have ml0 := mct_le (fun j => decide (R j = 2 * s9 + 1)) rn 0
  have ml1 := mct_le (fun j => decide (R j = 2 * s9)) rn 0
  have ml2 : mcr (S, T, sd, pn, P, rn, R) (2 * s9 + 1) ≤ rn := ml0
  have ml3 : mcr (S, T, sd, pn, P, rn, R) (2 * s9) ≤ rn := ml1
  show fEv g (d + 2) mX9_trust 0 [some (.ref 0), some (.int (nI s9)), some (.int (nI w)), none, none] [] σ Q
  refine e_iload_n dX9_trust_0 rfl rfl ?_
  refine e_iconst (nI 0) dX9_trust_1 (by decide) ?_
  refine e_iconst (nI 1) dX9_trust_2 (by decide) ?_
  refine e_callS [.int (nI w), .int (nI 0), .int (nI 1)] dX9_trust_3 cc_X9_checkRange lk_RX9_153 st_X9_checkRange in_RX9 rfl (Nat.le_of_ble_eq_true rfl) (Nat.le_of_ble_eq_true rfl) ?_
  refine t_X9_checkRange ⟨(nI_le' (by omega) (by omega)).mpr (by omega), (nI_le' (by omega) (by omega)).mpr (by omega)⟩ (fK_v ?_)
  show fEv g _ mX9_trust 6 [some (.ref 0), some (.int (nI s9)), some (.int (nI w)), none, none] [] σ Q
  refine e_aload_n dX9_trust_6 rfl rfl ?_
  refine e_getR (q := 29) dX9_trust_7 fl_RX9_51 (Ms.s 0 rfl) (Ms.n (by decide)) rfl (Ms.r 0 7 rfl) (by unfold fscr; omega) ?_
  refine e_iload_n dX9_trust_10 rfl rfl ?_
  refine e_iconst (nI 1) dX9_trust_11 (by decide) ?_
  refine e_callV (k := 29) [.int (nI s9), .int (nI 1)] dX9_trust_12 cc_X0_recordsOf lk_RX9_308 im_X0_recordsOf se_X0_recordsOf (by decide) (Ms.s 29 rfl) (Ms.n (by decide)) rfl (Nat.le_of_ble_eq_true rfl) (Nat.le_of_ble_eq_true rfl) ?_
  refine t_X0_recordsOf Ms hO Dc (by omega) (by omega) (fK_i ?_)
  show fEv g _ mX9_trust 15 [some (.ref 0), some (.int (nI s9)), some (.int (nI w)), none, none] [.int (nI (mcr (S, T, sd, pn, P, rn, R) (2 * s9 + 1)))] σ Q
  refine e_istore_n (L1 := [some (.ref 0), some (.int (nI s9)), some (.int (nI w)), some (.int (nI (mcr (S, T, sd, pn, P, rn, R) (2 * s9 + 1)))), none]) dX9_trust_15 rfl (by decide) rfl ?_
  refine e_iload_n dX9_trust_16 rfl rfl ?_
  refine e_aload_n dX9_trust_17 rfl rfl ?_
  refine e_getR (q := 29) dX9_trust_18 fl_RX9_51 (Ms.s 0 rfl) (Ms.n (by decide)) rfl (Ms.r 0 7 rfl) (by unfold fscr; omega) ?_
  refine e_iload_n dX9_trust_21 rfl rfl ?_
  refine e_iconst (nI 0) dX9_trust_22 (by decide) ?_
  refine e_callV (k := 29) [.int (nI s9), .int (nI 0)] dX9_trust_23 cc_X0_recordsOf lk_RX9_308 im_X0_recordsOf se_X0_recordsOf (by decide) (Ms.s 29 rfl) (Ms.n (by decide)) rfl (Nat.le_of_ble_eq_true rfl) (Nat.le_of_ble_eq_true rfl) ?_
  refine t_X0_recordsOf Ms hO Dc (by omega) (by omega) (fK_i ?_)
  show fEv g _ mX9_trust 26 [some (.ref 0), some (.int (nI s9)), some (.int (nI w)), some (.int (nI (mcr (S, T, sd, pn, P, rn, R) (2 * s9 + 1)))), none] [.int (nI (mcr (S, T, sd, pn, P, rn, R) (2 * s9))), .int (nI (mcr (S, T, sd, pn, P, rn, R) (2 * s9 + 1)))] σ Q
  refine e_iadd dX9_trust_26 ?_
  refine e_int (nI (mcr (S, T, sd, pn, P, rn, R) (2 * s9 + 1) + mcr (S, T, sd, pn, P, rn, R) (2 * s9))) (nI_add (mcr (S, T, sd, pn, P, rn, R) (2 * s9 + 1)) (mcr (S, T, sd, pn, P, rn, R) (2 * s9))) ?_
  refine e_istore (L1 := [some (.ref 0), some (.int (nI s9)), some (.int (nI w)), some (.int (nI (mcr (S, T, sd, pn, P, rn, R) (2 * s9 + 1)))), some (.int (nI (mcr (S, T, sd, pn, P, rn, R) (2 * s9 + 1) + mcr (S, T, sd, pn, P, rn, R) (2 * s9))))]) dX9_trust_27 (by decide) rfl ?_
  refine e_iload dX9_trust_29 rfl ?_
  refine e_if_ne 36 dX9_trust_31 (by decide) (fun c31 => ?_) (fun c31 => ?_)
  · rw [nI_z (by omega)] at c31
    refine e_iload_n dX9_trust_36 rfl rfl ?_
    refine e_i2l dX9_trust_37 ?_
    refine e_long (nL (mcr (S, T, sd, pn, P, rn, R) (2 * s9 + 1))) (nL_i (by omega)) ?_
    refine e_iload dX9_trust_38 rfl ?_
    refine e_i2l dX9_trust_40 ?_
    refine e_long (nL (mcr (S, T, sd, pn, P, rn, R) (2 * s9 + 1) + mcr (S, T, sd, pn, P, rn, R) (2 * s9))) (nL_i (by omega)) ?_
    refine e_iload_n dX9_trust_41 rfl rfl ?_
    refine e_callS [.long (nL (mcr (S, T, sd, pn, P, rn, R) (2 * s9 + 1))), .long (nL (mcr (S, T, sd, pn, P, rn, R) (2 * s9 + 1) + mcr (S, T, sd, pn, P, rn, R) (2 * s9))), .int (nI w)] dX9_trust_42 cc_X9_inLeastTerms lk_RX9_283 st_X9_inLeastTerms in_RX9 rfl (Nat.le_of_ble_eq_true rfl) (Nat.le_of_ble_eq_true rfl) ?_
    refine t_X9_inLeastTerms (by omega) (by omega) (by omega) (by omega) (fK_i ?_)
    show fEv g _ mX9_trust 45 [some (.ref 0), some (.int (nI s9)), some (.int (nI w)), some (.int (nI (mcr (S, T, sd, pn, P, rn, R) (2 * s9 + 1)))), some (.int (nI (mcr (S, T, sd, pn, P, rn, R) (2 * s9 + 1) + mcr (S, T, sd, pn, P, rn, R) (2 * s9))))] [.long (nL (if w = 0 then (mcr (S, T, sd, pn, P, rn, R) (2 * s9 + 1)) / Nat.gcd (mcr (S, T, sd, pn, P, rn, R) (2 * s9 + 1)) (mcr (S, T, sd, pn, P, rn, R) (2 * s9 + 1) + mcr (S, T, sd, pn, P, rn, R) (2 * s9)) else (mcr (S, T, sd, pn, P, rn, R) (2 * s9 + 1) + mcr (S, T, sd, pn, P, rn, R) (2 * s9)) / Nat.gcd (mcr (S, T, sd, pn, P, rn, R) (2 * s9 + 1)) (mcr (S, T, sd, pn, P, rn, R) (2 * s9 + 1) + mcr (S, T, sd, pn, P, rn, R) (2 * s9))))] σ Q
    refine e_l2i dX9_trust_45 ?_
    refine e_int (nI (if w = 0 then (mcr (S, T, sd, pn, P, rn, R) (2 * s9 + 1)) / Nat.gcd (mcr (S, T, sd, pn, P, rn, R) (2 * s9 + 1)) (mcr (S, T, sd, pn, P, rn, R) (2 * s9 + 1) + mcr (S, T, sd, pn, P, rn, R) (2 * s9)) else (mcr (S, T, sd, pn, P, rn, R) (2 * s9 + 1) + mcr (S, T, sd, pn, P, rn, R) (2 * s9)) / Nat.gcd (mcr (S, T, sd, pn, P, rn, R) (2 * s9 + 1)) (mcr (S, T, sd, pn, P, rn, R) (2 * s9 + 1) + mcr (S, T, sd, pn, P, rn, R) (2 * s9)))) (nL_l2i _) ?_
    have h : Q (.inl (some (.int (vTru (S, T, sd, pn, P, rn, R) s9 w)))) σ := h
    unfold vTru at h
    rw [if_neg (by omega)] at h
    exact e_ireturn .int dX9_trust_46 rfl rfl h
  · rw [nI_z (by omega)] at c31
    refine e_iload_n dX9_trust_34 rfl rfl ?_
    have h : Q (.inl (some (.int (vTru (S, T, sd, pn, P, rn, R) s9 w)))) σ := h
    unfold vTru at h
    rw [if_pos (by omega)] at h
    exact e_ireturn .int dX9_trust_35 rfl rfl h
set_option maxRecDepth 20000 in
theorem t_X9_trustE {g : fGP} {d : Nat} {σ : fAH} {Q : fRes → fAH → Prop} {x : fXS} {s9 : Nat} {b : Int32}  (Ms : fMs g σ) (ok : fOK x) (Ic : fIc σ x) (hv : ¬ (nI 0 ≤ b ∧ b ≤ nI 1)) (rm : fnx σ + fgb σ + 1 ≤ 601024 ∧ fsu σ + 6 ≤ 7293034) (h : Q (.inr "java/lang/IllegalArgumentException") (fthr σ)) : fEv g (d + 1) mX9_trust 0 (fent [.ref 0, .int (nI s9), .int b] 5) [] σ Q := by
  obtain ⟨D, ⟨S, T, sd, pn, P, rn, R⟩, B, tp, pl, im, Im⟩ := x
  have hD : fWD D := ok.1
  have hW : fWS D S := ok.2.1.1
  have hC : fWC D S := ok.2.1.2.1
  have hN : fWN S 0 0 := ok.2.1.2.2.1
  have Gr : fGr σ 2 D := Ic.1
  obtain ⟨⟨m, Yr⟩, Yt⟩ : fYf σ 15 D S T sd := Ic.2.1
  have Gs := Ms.ground (k := 2) (by decide)
  have Ys := Ms.yard (k := 15) (by decide)
  obtain ⟨⟨g0, g1, g2, g3, g4, g5⟩, ⟨gn, gK⟩, ⟨gr0, gr1, gr2, gr3, gr4⟩⟩ := id Gs
  obtain ⟨⟨y0, y1, y2, y3, y4, y5, y6⟩, ⟨yn, yK⟩, ⟨yr0, yr1, yr2, yr3, yr4, yr5, yr6⟩⟩ := id Ys
  obtain ⟨t0, t1, t2, t3, t4, t5, t6⟩ := id hD.1
  have np := hW.n hD
  have n5 := hW.2.2.2.2
  have tp6 : tp ≤ 600 := ok.2.2.2.1
  have im3 : im ≤ 3 := ok.2.2.2.2.1
  have pn3 : pn ≤ 30 := ok.2.1.2.2.2.1
  have rn6 : rn ≤ 60 := ok.2.1.2.2.2.2.2.1
  have Dc : fDc σ 29 (S, T, sd, pn, P, rn, R) := Ic.2.2.1
  have w52 := hW.1
  show fEv g (d + 1) mX9_trust 0 [some (.ref 0), some (.int (nI s9)), some (.int b), none, none] [] σ Q
  refine e_iload_n dX9_trust_0 rfl rfl ?_
  refine e_iconst (nI 0) dX9_trust_1 (by decide) ?_
  refine e_iconst (nI 1) dX9_trust_2 (by decide) ?_
  refine e_callS [.int b, .int (nI 0), .int (nI 1)] dX9_trust_3 cc_X9_checkRange lk_RX9_153 st_X9_checkRange in_RX9 rfl (Nat.le_of_ble_eq_true rfl) (Nat.le_of_ble_eq_true rfl) ?_
  exact t_X9_checkRangeE hv rm (t_out rfl h)
