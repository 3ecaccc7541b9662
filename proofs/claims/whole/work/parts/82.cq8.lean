theorem mbt_map {b : Option Nat} {v : Nat} : mbt (b.map (4096 * ·)) (4096 * v) = mbt b v := by
  cases b with
  | none => rfl
  | some x =>
    show decide (4096 * x < 4096 * v) = decide (x < v)
    exact decide_eq_decide.mpr (by omega)
def xImg (x : fXS) : fXS := (xD x, xI x, xB x, xt x, xp x, xm x + 1, fun j => if j = xm x then xI x else xM x j)
def xRst (x : fXS) : fXS := (xD x, xM x (xm x - 1), xB x, xt x, xp x, xm x - 1, xM x)
set_option maxRecDepth 20000 in
theorem l_X9_deep {g : fGP} {d : Nat} {Q : fRes → fAH → Prop} {D : fSD} {S : Nat → Nat} {T : Nat → Int32} {sd : Int32} {pn : Nat} {P : Nat → Nat} {rn : Nat} {R : Nat → Nat} {B : Nat → Nat} {tp : Nat} {pl : Int32} {im : Nat} {Im : Nat → fIm} (ok : fOK (D, (S, T, sd, pn, P, rn, R), B, tp, pl, im, Im)) (hn : S 155 < 30) : ∀ (n i : Nat) (v : Option Nat) (b : Option Nat) (o5 : Option Value) (o6 : Option Value) (σ : fAH), i + n = dT D 1 → fMs g σ → fIc σ (D, (S, T, sd, pn, P, rn, R), B, tp, pl, im, Im) → (∀ y, v = some y → y ≤ 1000000000) → (∀ σ', fSm fClA σ σ' → fIc σ' (D, (S, T, sd, pn, P, rn, R), B, tp, pl, im, Im) → Q (.inl (some (.int (mo (mdpr D S n i v b))))) σ') → fEv g (d + 10) mX9_deeper 13 [some (.ref 0), some (.int (mo b)), some (.long (ob (v.map (4096 * ·)))), none, some (.int (nI i)), o5, o6] [] σ Q := by
  intro n
  induction n with
  | zero =>
    intro i v b o5 o6 σ hin Ms Ic hv h
    have hD : fWD D := ok.1
    have hW : fWS D S := ok.2.1.1
    have hC : fWC D S := ok.2.1.2.1
    have Gr : fGr σ 2 D := Ic.1
    obtain ⟨⟨m, Yr⟩, Yt⟩ : fYf σ 15 D S T sd := Ic.2.1
    have Gs := Ms.ground (k := 2) (by decide)
    have Ys := Ms.yard (k := 15) (by decide)
    obtain ⟨⟨g0, g1, g2, g3, g4, g5⟩, ⟨gn, gK⟩, ⟨gr0, gr1, gr2, gr3, gr4⟩⟩ := id Gs
    obtain ⟨⟨y0, y1, y2, y3, y4, y5, y6⟩, ⟨yn, yK⟩, ⟨yr0, yr1, yr2, yr3, yr4, yr5, yr6⟩⟩ := id Ys
    obtain ⟨t0, t1, t2, t3, t4, t5, t6⟩ := id hD.1
    refine e_iload dX9_deeper_13 rfl ?_
    refine e_aload_n dX9_deeper_15 rfl rfl ?_
    refine e_getR (q := 2) dX9_deeper_16 fl_RX9_23 (Ms.s 0 rfl) (Ms.n (by decide)) rfl (Ms.r 0 3 rfl) (by unfold fscr; omega) ?_
    refine e_getI dX9_deeper_19 fl_RX9_127 g0 (show 2 < fnx σ by omega) rfl ?_
    refine e_int (nI (dT D 1)) Gr.1.2.1 ?_
    refine e_icmp_ge 64 dX9_deeper_22 (by decide) (fun cz => ?_) (fun cz => absurd ((nI_le' (by omega) (by omega)).mpr (by omega)) cz)
    refine e_iload_n dX9_deeper_64 rfl rfl ?_
    exact e_ireturn .int dX9_deeper_65 rfl rfl (h σ fSm.rfl' Ic)
  | succ n ih =>
    intro i v b o5 o6 σ hin Ms Ic hv h
    have hD : fWD D := ok.1
    have hW : fWS D S := ok.2.1.1
    have hC : fWC D S := ok.2.1.2.1
    have Gr : fGr σ 2 D := Ic.1
    obtain ⟨⟨m, Yr⟩, Yt⟩ : fYf σ 15 D S T sd := Ic.2.1
    have Gs := Ms.ground (k := 2) (by decide)
    have Ys := Ms.yard (k := 15) (by decide)
    obtain ⟨⟨g0, g1, g2, g3, g4, g5⟩, ⟨gn, gK⟩, ⟨gr0, gr1, gr2, gr3, gr4⟩⟩ := id Gs
    obtain ⟨⟨y0, y1, y2, y3, y4, y5, y6⟩, ⟨yn, yK⟩, ⟨yr0, yr1, yr2, yr3, yr4, yr5, yr6⟩⟩ := id Ys
    obtain ⟨t0, t1, t2, t3, t4, t5, t6⟩ := id hD.1
    have hi : i < dT D 1 := by omega
    have fw := fW_dp hD hW hC hi
    obtain ⟨v9, hv9⟩ := mft_some (S := mdp S i) hD
    have vl0 := mft_le hD fw.1 fw.2.1 (by rw [fw.2.2.1]; exact hn) v9 hv9
    have vl : (mft D (mdp S i)).1.getD 0 ≤ 1000000000 := by rw [hv9]; show v9 ≤ _; omega
    refine e_iload dX9_deeper_13 rfl ?_
    refine e_aload_n dX9_deeper_15 rfl rfl ?_
    refine e_getR (q := 2) dX9_deeper_16 fl_RX9_23 (Ms.s 0 rfl) (Ms.n (by decide)) rfl (Ms.r 0 3 rfl) (by unfold fscr; omega) ?_
    refine e_getI dX9_deeper_19 fl_RX9_127 g0 (show 2 < fnx σ by omega) rfl ?_
    refine e_int (nI (dT D 1)) Gr.1.2.1 ?_
    refine e_icmp_ge 64 dX9_deeper_22 (by decide) (fun cz => absurd ((nI_le' (by omega) (by omega)).mp cz) (by omega)) (fun cz => ?_)
    refine e_aload_n dX9_deeper_25 rfl rfl ?_
    refine e_getR (q := 15) dX9_deeper_26 fl_RX9_41 (Ms.s 0 rfl) (Ms.n (by decide)) rfl (Ms.r 0 5 rfl) (by unfold fscr; omega) ?_
    refine e_iload dX9_deeper_29 rfl ?_
    refine e_callV (k := 15) [.int (nI i)] dX9_deeper_31 cc_X8_isAlive lk_RX9_165 im_X8_isAlive se_X8_isAlive (by decide) y0 (show 15 < fnx σ by omega) rfl (Nat.le_of_ble_eq_true rfl) (Nat.le_of_ble_eq_true rfl) ?_
    refine t_X8_isAlive Gs Gr hD Ys Yr hW (by omega) (fK_i ?_)
    show fEv g _ mX9_deeper 34 [some (.ref 0), some (.int (mo b)), some (.long (ob (v.map (4096 * ·)))), none, some (.int (nI i)), o5, o6] [.int (nI (bn (mal D S i)))] σ Q
    refine e_if_eq 58 dX9_deeper_34 (by decide) (fun c34 => ?_) (fun c34 => ?_)
    · have c34 := bn0 c34
      refine e_iinc (v := nI (i + 1)) (L1 := [some (.ref 0), some (.int (mo b)), some (.long (ob (v.map (4096 * ·)))), none, some (.int (nI (i + 1))), o5, o6]) dX9_deeper_58 rfl (show nI i + Int32.ofInt 1 = nI (i + 1) from nI_add i 1) (by decide) rfl ?_
      refine e_goto 13 dX9_deeper_61 (by decide) ?_
      rw [show mdpr D S (n + 1) i v b = mdpr D S n (i + 1) v b from if_neg (fun q => by rw [c34] at q; exact absurd q.1 Bool.false_ne_true)] at h
      exact ih (i + 1) v b _ _ σ (by omega) Ms Ic hv h
    · have c34 := bn1 c34
      refine e_aload_n dX9_deeper_37 rfl rfl ?_
      refine e_iload dX9_deeper_38 rfl ?_
      refine e_callV (k := 0) [.int (nI i)] dX9_deeper_40 cc_X9_sumIfDeeper lk_RX9_300 im_X9_sumIfDeeper se_X9_sumIfDeeper (by decide) (Ms.s 0 rfl) (Ms.n (by decide)) rfl (Nat.le_of_ble_eq_true rfl) (Nat.le_of_ble_eq_true rfl) ?_
      refine t_X9_sumIfDeeper (x := (D, (S, T, sd, pn, P, rn, R), B, tp, pl, im, Im)) Ms ok Ic hi hn (fun σ1 Sm1 Ic1 => fK_i ?_)
      show fEv g _ mX9_deeper 43 [some (.ref 0), some (.int (mo b)), some (.long (ob (v.map (4096 * ·)))), none, some (.int (nI i)), o5, o6] [.long (nL (4096 * (mft D (mdp S i)).1.getD 0))] σ1 Q
      have Ms1 := Ms.sm Sm1
      refine e_lstore (L1 := [some (.ref 0), some (.int (mo b)), some (.long (ob (v.map (4096 * ·)))), none, some (.int (nI i)), some (.long (nL (4096 * (mft D (mdp S i)).1.getD 0))), none]) dX9_deeper_43 (by decide) rfl ?_
      refine e_lload dX9_deeper_45 rfl ?_
      refine e_lload_n dX9_deeper_47 rfl rfl ?_
      refine e_lcmp dX9_deeper_48 ?_
      refine e_if_le 58 dX9_deeper_49 (by decide) (fun c49 => ?_) (fun c49 => ?_)
      · have c49 : mbt v ((mft D (mdp S i)).1.getD 0) = false := by
          cases q : mbt v ((mft D (mdp S i)).1.getD 0)
          · rfl
          · exact absurd ((ob_lt (by omega) (fun y hy => by obtain ⟨z, hz, rfl⟩ := Option.map_eq_some_iff.mp hy; have := hv z hz; omega)).mpr (mbt_map.trans q)) (lc_le.mp c49)
        refine e_iinc (v := nI (i + 1)) (L1 := [some (.ref 0), some (.int (mo b)), some (.long (ob (v.map (4096 * ·)))), none, some (.int (nI (i + 1))), some (.long (nL (4096 * (mft D (mdp S i)).1.getD 0))), none]) dX9_deeper_58 rfl (show nI i + Int32.ofInt 1 = nI (i + 1) from nI_add i 1) (by decide) rfl ?_
        refine e_goto 13 dX9_deeper_61 (by decide) ?_
        have hb9 : mbt v ((mft D (mdp S i)).1.getD 0) = false := c49
        rw [show mdpr D S (n + 1) i v b = mdpr D S n (i + 1) v b from if_neg (fun q => by rw [hb9] at q; exact absurd q.2 Bool.false_ne_true)] at h
        exact ih (i + 1) v b _ _ σ1 (by omega) Ms1 Ic1 hv (fun σ' Sm' => h σ' (Sm1.tr Sm'))
      · have c49 : mbt v ((mft D (mdp S i)).1.getD 0) = true := mbt_map.symm.trans ((ob_lt (by omega) (fun y hy => by obtain ⟨z, hz, rfl⟩ := Option.map_eq_some_iff.mp hy; have := hv z hz; omega)).mp (Decidable.of_not_not (fun q => c49 (lc_le.mpr q))))
        refine e_lload dX9_deeper_52 rfl ?_
        refine e_lstore_n (L1 := [some (.ref 0), some (.int (mo b)), some (.long (nL (4096 * (mft D (mdp S i)).1.getD 0))), none, some (.int (nI i)), some (.long (nL (4096 * (mft D (mdp S i)).1.getD 0))), none]) dX9_deeper_54 rfl (by decide) rfl ?_
        refine e_iload dX9_deeper_55 rfl ?_
        refine e_istore_n (L1 := [some (.ref 0), some (.int (nI i)), some (.long (nL (4096 * (mft D (mdp S i)).1.getD 0))), none, some (.int (nI i)), some (.long (nL (4096 * (mft D (mdp S i)).1.getD 0))), none]) dX9_deeper_57 rfl (by decide) rfl ?_
        refine e_iinc (v := nI (i + 1)) (L1 := [some (.ref 0), some (.int (nI i)), some (.long (nL (4096 * (mft D (mdp S i)).1.getD 0))), none, some (.int (nI (i + 1))), some (.long (nL (4096 * (mft D (mdp S i)).1.getD 0))), none]) dX9_deeper_58 rfl (show nI i + Int32.ofInt 1 = nI (i + 1) from nI_add i 1) (by decide) rfl ?_
        refine e_goto 13 dX9_deeper_61 (by decide) ?_
        have hb9 : mbt v ((mft D (mdp S i)).1.getD 0) = true := c49
        rw [show mdpr D S (n + 1) i v b = mdpr D S n (i + 1) (some ((mft D (mdp S i)).1.getD 0)) (some i) from if_pos ⟨c34, hb9⟩] at h
        exact ih (i + 1) (some ((mft D (mdp S i)).1.getD 0)) (some i) _ _ σ1 (by omega) Ms1 Ic1 (fun y hy => by cases hy; exact vl) (fun σ' Sm' => h σ' (Sm1.tr Sm'))
set_option maxRecDepth 20000 in
theorem t_X9_deeper {g : fGP} {d : Nat} {σ : fAH} {Q : fRes → fAH → Prop} {x : fXS} (Ms : fMs g σ) (ok : fOK x) (Ic : fIc σ x) (hn : (iS (xI x)) 155 < 30) (h : ∀ σ', fSm fClA σ σ' → fIc σ' x → Q (.inl (some (.int (mo (mdpr (xD x) (iS (xI x)) (dT (xD x) 1) 0 none none))))) σ') : fEv g (d + 10) mX9_deeper 0 (fent [.ref 0] 7) [] σ Q := by
  obtain ⟨D, ⟨S, T, sd, pn, P, rn, R⟩, B, tp, pl, im, Im⟩ := x
  have hD : fWD D := ok.1
  have hW : fWS D S := ok.2.1.1
  have hC : fWC D S := ok.2.1.2.1
  have hN : fWN S 0 0 := ok.2.1.2.2.1
  have Gr : fGr σ 2 D := Ic.1
  obtain ⟨⟨m, Yr⟩, Yt⟩ : fYf σ 15 D S T sd := Ic.2.1
  have Gs := Ms.ground (k := 2) (by decide)
  have Ys := Ms.yard (k := 15) (by decide)
  obtain ⟨⟨g0, g1, g2, g3, g4, g5⟩, ⟨gn, gK⟩, ⟨gr0, gr1, gr2, gr3, gr4⟩⟩ := id Gs
  obtain ⟨⟨y0, y1, y2, y3, y4, y5, y6⟩, ⟨yn, yK⟩, ⟨yr0, yr1, yr2, yr3, yr4, yr5, yr6⟩⟩ := id Ys
  obtain ⟨t0, t1, t2, t3, t4, t5, t6⟩ := id hD.1
  have np := hW.n hD
  have n5 := hW.2.2.2.2
  have tp6 : tp ≤ 600 := ok.2.2.2.1
  have im3 : im ≤ 3 := ok.2.2.2.2.1
  have pn3 : pn ≤ 30 := ok.2.1.2.2.2.1
  have rn6 : rn ≤ 60 := ok.2.1.2.2.2.2.2.1
  have Dc : fDc σ 29 (S, T, sd, pn, P, rn, R) := Ic.2.2.1
  have w52 := hW.1
  have hn : S 155 < 30 := hn
  show fEv g (d + 10) mX9_deeper 0 [some (.ref 0), none, none, none, none, none, none] [] σ Q
  refine e_aload_n dX9_deeper_0 rfl rfl ?_
  refine e_callV (k := 0) [] dX9_deeper_1 cc_X9_checkNightLeft lk_RX9_207 im_X9_checkNightLeft se_X9_checkNightLeft (by decide) (Ms.s 0 rfl) (Ms.n (by decide)) rfl (Nat.le_of_ble_eq_true rfl) (Nat.le_of_ble_eq_true rfl) ?_
  refine t_X9_checkNightLeft Ms Yr n5 hn (fK_v ?_)
  show fEv g _ mX9_deeper 4 [some (.ref 0), none, none, none, none, none, none] [] σ Q
  refine e_iconst (-1) dX9_deeper_4 (by decide) ?_
  refine e_istore_n (L1 := [some (.ref 0), some (.int ((-1))), none, none, none, none, none]) dX9_deeper_5 rfl (by decide) rfl ?_
  refine e_ldc2 (-1) dX9_deeper_6 kc_RX9_298 ?_
  refine e_lstore_n (L1 := [some (.ref 0), some (.int ((-1))), some (.long ((-1))), none, none, none, none]) dX9_deeper_9 rfl (by decide) rfl ?_
  refine e_iconst (nI 0) dX9_deeper_10 (by decide) ?_
  refine e_istore (L1 := [some (.ref 0), some (.int ((-1))), some (.long ((-1))), none, some (.int (nI 0)), none, none]) dX9_deeper_11 (by decide) rfl ?_
  exact l_X9_deep ok hn (dT D 1) 0 none none none none σ (by omega) Ms Ic (fun y hy => by cases hy) h
set_option maxRecDepth 20000 in
theorem t_X9_deeperE {g : fGP} {d : Nat} {σ : fAH} {Q : fRes → fAH → Prop} {x : fXS}  (Ms : fMs g σ) (ok : fOK x) (Ic : fIc σ x) (hn : ¬ (iS (xI x)) 155 < 30) (rm : fnx σ + fgb σ + 1 ≤ 601024 ∧ fsu σ + 6 ≤ 7293034) (h : Q (.inr "java/lang/IllegalStateException") (fthr σ)) : fEv g (d + 1) mX9_deeper 0 (fent [.ref 0] 7) [] σ Q := by
  obtain ⟨D, ⟨S, T, sd, pn, P, rn, R⟩, B, tp, pl, im, Im⟩ := x
  have hD : fWD D := ok.1
  have hW : fWS D S := ok.2.1.1
  have hC : fWC D S := ok.2.1.2.1
  have hN : fWN S 0 0 := ok.2.1.2.2.1
  have Gr : fGr σ 2 D := Ic.1
  obtain ⟨⟨m, Yr⟩, Yt⟩ : fYf σ 15 D S T sd := Ic.2.1
  have Gs := Ms.ground (k := 2) (by decide)
  have Ys := Ms.yard (k := 15) (by decide)
  obtain ⟨⟨g0, g1, g2, g3, g4, g5⟩, ⟨gn, gK⟩, ⟨gr0, gr1, gr2, gr3, gr4⟩⟩ := id Gs
  obtain ⟨⟨y0, y1, y2, y3, y4, y5, y6⟩, ⟨yn, yK⟩, ⟨yr0, yr1, yr2, yr3, yr4, yr5, yr6⟩⟩ := id Ys
  obtain ⟨t0, t1, t2, t3, t4, t5, t6⟩ := id hD.1
  have np := hW.n hD
  have n5 := hW.2.2.2.2
  have tp6 : tp ≤ 600 := ok.2.2.2.1
  have im3 : im ≤ 3 := ok.2.2.2.2.1
  have pn3 : pn ≤ 30 := ok.2.1.2.2.2.1
  have rn6 : rn ≤ 60 := ok.2.1.2.2.2.2.2.1
  have Dc : fDc σ 29 (S, T, sd, pn, P, rn, R) := Ic.2.2.1
  have w52 := hW.1
  show fEv g (d + 1) mX9_deeper 0 [some (.ref 0), none, none, none, none, none, none] [] σ Q
  refine e_aload_n dX9_deeper_0 rfl rfl ?_
  refine e_callV (k := 0) [] dX9_deeper_1 cc_X9_checkNightLeft lk_RX9_207 im_X9_checkNightLeft se_X9_checkNightLeft (by decide) (Ms.s 0 rfl) (Ms.n (by decide)) rfl (Nat.le_of_ble_eq_true rfl) (Nat.le_of_ble_eq_true rfl) ?_
  exact t_X9_checkNightLeftE Ms Yr n5 hn rm (t_out rfl h)
set_option maxRecDepth 20000 in
theorem t_X0_cp_66_29 {g : fGP} {d : Nat} {σ : fAH} {Q : fRes → fAH → Prop} {i : fIm} (Ms : fMs g σ) (hp : ipn i ≤ 30) (Dc : fDc σ 29 i) (h : ∀ σ', fSm (fun a => 66 ≤ a ∧ a < 69) σ σ' → fDc σ' 66 i → Q (.inl none) σ') : fEv g d mX0_copyFrom 0 (fent [.ref 66, .ref 29] 2) [] σ Q := by
  show fEv g d mX0_copyFrom 0 [some (.ref 66), some (.ref 29)] [] σ Q
  refine e_aload_n dX0_copyFrom_0 rfl rfl ?_
  refine e_getR (q := 30) dX0_copyFrom_1 fl_RX0_9 (Ms.s 29 rfl) (Ms.n (by decide)) rfl (Ms.r 29 0 rfl) (by unfold fscr; omega) ?_
  refine e_iconst (nI 0) dX0_copyFrom_4 (by decide) ?_
  refine e_aload_n dX0_copyFrom_5 rfl rfl ?_
  refine e_getR (q := 67) dX0_copyFrom_6 fl_RX0_9 (Ms.s 66 rfl) (Ms.n (by decide)) rfl (Ms.r 66 0 rfl) (by unfold fscr; omega) ?_
  refine e_iconst (nI 0) dX0_copyFrom_9 (by decide) ?_
  refine e_aload_n dX0_copyFrom_10 rfl rfl ?_
  refine e_getR (q := 67) dX0_copyFrom_11 fl_RX0_9 (Ms.s 66 rfl) (Ms.n (by decide)) rfl (Ms.r 66 0 rfl) (by unfold fscr; omega) ?_
  refine e_alen dX0_copyFrom_14 (Ms.s 67 rfl) (by decide) (Ms.n (by decide)) ?_
  refine e_copy 0 0 30 dX0_copyFrom_15 ml_RX0_28 (Ms.s 30 rfl) (Ms.s 67 rfl) (Ms.n (by decide)) (Ms.n (by decide)) Ms.2.2.2 rfl rfl rfl (by omega) (by omega) (by decide) (by decide) (Nat.le_of_ble_eq_true rfl) w_copy ?_
  refine e_aload_n dX0_copyFrom_18 rfl rfl ?_
  refine e_aload_n dX0_copyFrom_19 rfl rfl ?_
  refine e_getI dX0_copyFrom_20 fl_RX0_15 (Ms.s 29 rfl) (Ms.n (by decide)) rfl ?_
  refine e_int (nI (ipn i)) (by rw [fI_C, if_neg (by omega)]; exact Dc.1) ?_
  refine e_putI dX0_copyFrom_23 fl_RX0_15 (Ms.s 66 rfl) (Ms.n (by decide)) rfl rfl ?_
  refine e_aload_n dX0_copyFrom_26 rfl rfl ?_
  refine e_getR (q := 31) dX0_copyFrom_27 fl_RX0_19 (Ms.s 29 rfl) (Ms.n (by decide)) rfl (Ms.r 29 2 rfl) (by unfold fscr; omega) ?_
  refine e_iconst (nI 0) dX0_copyFrom_30 (by decide) ?_
  refine e_aload_n dX0_copyFrom_31 rfl rfl ?_
  refine e_getR (q := 68) dX0_copyFrom_32 fl_RX0_19 (Ms.s 66 rfl) (Ms.n (by decide)) rfl (Ms.r 66 2 rfl) (by unfold fscr; omega) ?_
  refine e_iconst (nI 0) dX0_copyFrom_35 (by decide) ?_
  refine e_aload_n dX0_copyFrom_36 rfl rfl ?_
  refine e_getR (q := 68) dX0_copyFrom_37 fl_RX0_19 (Ms.s 66 rfl) (Ms.n (by decide)) rfl (Ms.r 66 2 rfl) (by unfold fscr; omega) ?_
  refine e_alen dX0_copyFrom_40 (Ms.s 68 rfl) (by decide) (Ms.n (by decide)) ?_
  refine e_copy 0 0 4 dX0_copyFrom_41 ml_RX0_28 (Ms.s 31 rfl) (Ms.s 68 rfl) (Ms.n (by decide)) (Ms.n (by decide)) Ms.2.2.2 rfl rfl rfl (by omega) (by omega) (by decide) (by decide) (Nat.le_of_ble_eq_true rfl) w_copy ?_
  refine e_return dX0_copyFrom_44 rfl (h _ (((fSm_C (A := (fun a => 66 ≤ a ∧ a < 69)) ⟨by omega, by omega⟩).tr (fSm_I (A := (fun a => 66 ≤ a ∧ a < 69)) ⟨by omega, by omega⟩)).tr (fSm_C (A := (fun a => 66 ≤ a ∧ a < 69)) ⟨by omega, by omega⟩)) ⟨?_, fun j hj => ?_, fun c hc => ?_⟩)
  · rw [fI_C, if_neg (by omega), fI_I, if_pos ⟨rfl, rfl⟩]
  · rw [fI_C, if_neg (by omega), fI_I, if_neg (by omega), fI_C, if_pos rfl, if_pos (by omega), Nat.zero_add, Nat.sub_zero]; exact Dc.2.1 j hj
  · rw [fI_C, if_pos rfl, if_pos (by omega), fI_I, if_neg (by omega), fI_C, if_neg (by omega), Nat.zero_add, Nat.sub_zero]; exact Dc.2.2 c hc
set_option maxRecDepth 20000 in
theorem t_X0_cp_29_66 {g : fGP} {d : Nat} {σ : fAH} {Q : fRes → fAH → Prop} {i : fIm} (Ms : fMs g σ) (hp : ipn i ≤ 30) (Dc : fDc σ 66 i) (h : ∀ σ', fSm (fun a => 29 ≤ a ∧ a < 32) σ σ' → fDc σ' 29 i → Q (.inl none) σ') : fEv g d mX0_copyFrom 0 (fent [.ref 29, .ref 66] 2) [] σ Q := by
  show fEv g d mX0_copyFrom 0 [some (.ref 29), some (.ref 66)] [] σ Q
  refine e_aload_n dX0_copyFrom_0 rfl rfl ?_
  refine e_getR (q := 67) dX0_copyFrom_1 fl_RX0_9 (Ms.s 66 rfl) (Ms.n (by decide)) rfl (Ms.r 66 0 rfl) (by unfold fscr; omega) ?_
  refine e_iconst (nI 0) dX0_copyFrom_4 (by decide) ?_
  refine e_aload_n dX0_copyFrom_5 rfl rfl ?_
  refine e_getR (q := 30) dX0_copyFrom_6 fl_RX0_9 (Ms.s 29 rfl) (Ms.n (by decide)) rfl (Ms.r 29 0 rfl) (by unfold fscr; omega) ?_
  refine e_iconst (nI 0) dX0_copyFrom_9 (by decide) ?_
  refine e_aload_n dX0_copyFrom_10 rfl rfl ?_
  refine e_getR (q := 30) dX0_copyFrom_11 fl_RX0_9 (Ms.s 29 rfl) (Ms.n (by decide)) rfl (Ms.r 29 0 rfl) (by unfold fscr; omega) ?_
  refine e_alen dX0_copyFrom_14 (Ms.s 30 rfl) (by decide) (Ms.n (by decide)) ?_
  refine e_copy 0 0 30 dX0_copyFrom_15 ml_RX0_28 (Ms.s 67 rfl) (Ms.s 30 rfl) (Ms.n (by decide)) (Ms.n (by decide)) Ms.2.2.2 rfl rfl rfl (by omega) (by omega) (by decide) (by decide) (Nat.le_of_ble_eq_true rfl) w_copy ?_
  refine e_aload_n dX0_copyFrom_18 rfl rfl ?_
  refine e_aload_n dX0_copyFrom_19 rfl rfl ?_
  refine e_getI dX0_copyFrom_20 fl_RX0_15 (Ms.s 66 rfl) (Ms.n (by decide)) rfl ?_
  refine e_int (nI (ipn i)) (by rw [fI_C, if_neg (by omega)]; exact Dc.1) ?_
  refine e_putI dX0_copyFrom_23 fl_RX0_15 (Ms.s 29 rfl) (Ms.n (by decide)) rfl rfl ?_
  refine e_aload_n dX0_copyFrom_26 rfl rfl ?_
  refine e_getR (q := 68) dX0_copyFrom_27 fl_RX0_19 (Ms.s 66 rfl) (Ms.n (by decide)) rfl (Ms.r 66 2 rfl) (by unfold fscr; omega) ?_
  refine e_iconst (nI 0) dX0_copyFrom_30 (by decide) ?_
  refine e_aload_n dX0_copyFrom_31 rfl rfl ?_
  refine e_getR (q := 31) dX0_copyFrom_32 fl_RX0_19 (Ms.s 29 rfl) (Ms.n (by decide)) rfl (Ms.r 29 2 rfl) (by unfold fscr; omega) ?_
  refine e_iconst (nI 0) dX0_copyFrom_35 (by decide) ?_
  refine e_aload_n dX0_copyFrom_36 rfl rfl ?_
  refine e_getR (q := 31) dX0_copyFrom_37 fl_RX0_19 (Ms.s 29 rfl) (Ms.n (by decide)) rfl (Ms.r 29 2 rfl) (by unfold fscr; omega) ?_
  refine e_alen dX0_copyFrom_40 (Ms.s 31 rfl) (by decide) (Ms.n (by decide)) ?_
  refine e_copy 0 0 4 dX0_copyFrom_41 ml_RX0_28 (Ms.s 68 rfl) (Ms.s 31 rfl) (Ms.n (by decide)) (Ms.n (by decide)) Ms.2.2.2 rfl rfl rfl (by omega) (by omega) (by decide) (by decide) (Nat.le_of_ble_eq_true rfl) w_copy ?_
  refine e_return dX0_copyFrom_44 rfl (h _ (((fSm_C (A := (fun a => 29 ≤ a ∧ a < 32)) ⟨by omega, by omega⟩).tr (fSm_I (A := (fun a => 29 ≤ a ∧ a < 32)) ⟨by omega, by omega⟩)).tr (fSm_C (A := (fun a => 29 ≤ a ∧ a < 32)) ⟨by omega, by omega⟩)) ⟨?_, fun j hj => ?_, fun c hc => ?_⟩)
  · rw [fI_C, if_neg (by omega), fI_I, if_pos ⟨rfl, rfl⟩]
  · rw [fI_C, if_neg (by omega), fI_I, if_neg (by omega), fI_C, if_pos rfl, if_pos (by omega), Nat.zero_add, Nat.sub_zero]; exact Dc.2.1 j hj
  · rw [fI_C, if_pos rfl, if_pos (by omega), fI_I, if_neg (by omega), fI_C, if_neg (by omega), Nat.zero_add, Nat.sub_zero]; exact Dc.2.2 c hc
set_option maxRecDepth 20000 in
theorem t_X0_cp_76_29 {g : fGP} {d : Nat} {σ : fAH} {Q : fRes → fAH → Prop} {i : fIm} (Ms : fMs g σ) (hp : ipn i ≤ 30) (Dc : fDc σ 29 i) (h : ∀ σ', fSm (fun a => 76 ≤ a ∧ a < 79) σ σ' → fDc σ' 76 i → Q (.inl none) σ') : fEv g d mX0_copyFrom 0 (fent [.ref 76, .ref 29] 2) [] σ Q := by
  show fEv g d mX0_copyFrom 0 [some (.ref 76), some (.ref 29)] [] σ Q
  refine e_aload_n dX0_copyFrom_0 rfl rfl ?_
  refine e_getR (q := 30) dX0_copyFrom_1 fl_RX0_9 (Ms.s 29 rfl) (Ms.n (by decide)) rfl (Ms.r 29 0 rfl) (by unfold fscr; omega) ?_
  refine e_iconst (nI 0) dX0_copyFrom_4 (by decide) ?_
  refine e_aload_n dX0_copyFrom_5 rfl rfl ?_
  refine e_getR (q := 77) dX0_copyFrom_6 fl_RX0_9 (Ms.s 76 rfl) (Ms.n (by decide)) rfl (Ms.r 76 0 rfl) (by unfold fscr; omega) ?_
  refine e_iconst (nI 0) dX0_copyFrom_9 (by decide) ?_
  refine e_aload_n dX0_copyFrom_10 rfl rfl ?_
  refine e_getR (q := 77) dX0_copyFrom_11 fl_RX0_9 (Ms.s 76 rfl) (Ms.n (by decide)) rfl (Ms.r 76 0 rfl) (by unfold fscr; omega) ?_
  refine e_alen dX0_copyFrom_14 (Ms.s 77 rfl) (by decide) (Ms.n (by decide)) ?_
  refine e_copy 0 0 30 dX0_copyFrom_15 ml_RX0_28 (Ms.s 30 rfl) (Ms.s 77 rfl) (Ms.n (by decide)) (Ms.n (by decide)) Ms.2.2.2 rfl rfl rfl (by omega) (by omega) (by decide) (by decide) (Nat.le_of_ble_eq_true rfl) w_copy ?_
  refine e_aload_n dX0_copyFrom_18 rfl rfl ?_
  refine e_aload_n dX0_copyFrom_19 rfl rfl ?_
  refine e_getI dX0_copyFrom_20 fl_RX0_15 (Ms.s 29 rfl) (Ms.n (by decide)) rfl ?_
  refine e_int (nI (ipn i)) (by rw [fI_C, if_neg (by omega)]; exact Dc.1) ?_
  refine e_putI dX0_copyFrom_23 fl_RX0_15 (Ms.s 76 rfl) (Ms.n (by decide)) rfl rfl ?_
  refine e_aload_n dX0_copyFrom_26 rfl rfl ?_
  refine e_getR (q := 31) dX0_copyFrom_27 fl_RX0_19 (Ms.s 29 rfl) (Ms.n (by decide)) rfl (Ms.r 29 2 rfl) (by unfold fscr; omega) ?_
  refine e_iconst (nI 0) dX0_copyFrom_30 (by decide) ?_
  refine e_aload_n dX0_copyFrom_31 rfl rfl ?_
  refine e_getR (q := 78) dX0_copyFrom_32 fl_RX0_19 (Ms.s 76 rfl) (Ms.n (by decide)) rfl (Ms.r 76 2 rfl) (by unfold fscr; omega) ?_
  refine e_iconst (nI 0) dX0_copyFrom_35 (by decide) ?_
  refine e_aload_n dX0_copyFrom_36 rfl rfl ?_
  refine e_getR (q := 78) dX0_copyFrom_37 fl_RX0_19 (Ms.s 76 rfl) (Ms.n (by decide)) rfl (Ms.r 76 2 rfl) (by unfold fscr; omega) ?_
  refine e_alen dX0_copyFrom_40 (Ms.s 78 rfl) (by decide) (Ms.n (by decide)) ?_
  refine e_copy 0 0 4 dX0_copyFrom_41 ml_RX0_28 (Ms.s 31 rfl) (Ms.s 78 rfl) (Ms.n (by decide)) (Ms.n (by decide)) Ms.2.2.2 rfl rfl rfl (by omega) (by omega) (by decide) (by decide) (Nat.le_of_ble_eq_true rfl) w_copy ?_
  refine e_return dX0_copyFrom_44 rfl (h _ (((fSm_C (A := (fun a => 76 ≤ a ∧ a < 79)) ⟨by omega, by omega⟩).tr (fSm_I (A := (fun a => 76 ≤ a ∧ a < 79)) ⟨by omega, by omega⟩)).tr (fSm_C (A := (fun a => 76 ≤ a ∧ a < 79)) ⟨by omega, by omega⟩)) ⟨?_, fun j hj => ?_, fun c hc => ?_⟩)
  · rw [fI_C, if_neg (by omega), fI_I, if_pos ⟨rfl, rfl⟩]
  · rw [fI_C, if_neg (by omega), fI_I, if_neg (by omega), fI_C, if_pos rfl, if_pos (by omega), Nat.zero_add, Nat.sub_zero]; exact Dc.2.1 j hj
  · rw [fI_C, if_pos rfl, if_pos (by omega), fI_I, if_neg (by omega), fI_C, if_neg (by omega), Nat.zero_add, Nat.sub_zero]; exact Dc.2.2 c hc
set_option maxRecDepth 20000 in
theorem t_X0_cp_29_76 {g : fGP} {d : Nat} {σ : fAH} {Q : fRes → fAH → Prop} {i : fIm} (Ms : fMs g σ) (hp : ipn i ≤ 30) (Dc : fDc σ 76 i) (h : ∀ σ', fSm (fun a => 29 ≤ a ∧ a < 32) σ σ' → fDc σ' 29 i → Q (.inl none) σ') : fEv g d mX0_copyFrom 0 (fent [.ref 29, .ref 76] 2) [] σ Q := by
  show fEv g d mX0_copyFrom 0 [some (.ref 29), some (.ref 76)] [] σ Q
  refine e_aload_n dX0_copyFrom_0 rfl rfl ?_
  refine e_getR (q := 77) dX0_copyFrom_1 fl_RX0_9 (Ms.s 76 rfl) (Ms.n (by decide)) rfl (Ms.r 76 0 rfl) (by unfold fscr; omega) ?_
  refine e_iconst (nI 0) dX0_copyFrom_4 (by decide) ?_
  refine e_aload_n dX0_copyFrom_5 rfl rfl ?_
  refine e_getR (q := 30) dX0_copyFrom_6 fl_RX0_9 (Ms.s 29 rfl) (Ms.n (by decide)) rfl (Ms.r 29 0 rfl) (by unfold fscr; omega) ?_
  refine e_iconst (nI 0) dX0_copyFrom_9 (by decide) ?_
  refine e_aload_n dX0_copyFrom_10 rfl rfl ?_
  refine e_getR (q := 30) dX0_copyFrom_11 fl_RX0_9 (Ms.s 29 rfl) (Ms.n (by decide)) rfl (Ms.r 29 0 rfl) (by unfold fscr; omega) ?_
  refine e_alen dX0_copyFrom_14 (Ms.s 30 rfl) (by decide) (Ms.n (by decide)) ?_
  refine e_copy 0 0 30 dX0_copyFrom_15 ml_RX0_28 (Ms.s 77 rfl) (Ms.s 30 rfl) (Ms.n (by decide)) (Ms.n (by decide)) Ms.2.2.2 rfl rfl rfl (by omega) (by omega) (by decide) (by decide) (Nat.le_of_ble_eq_true rfl) w_copy ?_
  refine e_aload_n dX0_copyFrom_18 rfl rfl ?_
  refine e_aload_n dX0_copyFrom_19 rfl rfl ?_
  refine e_getI dX0_copyFrom_20 fl_RX0_15 (Ms.s 76 rfl) (Ms.n (by decide)) rfl ?_
  refine e_int (nI (ipn i)) (by rw [fI_C, if_neg (by omega)]; exact Dc.1) ?_
  refine e_putI dX0_copyFrom_23 fl_RX0_15 (Ms.s 29 rfl) (Ms.n (by decide)) rfl rfl ?_
  refine e_aload_n dX0_copyFrom_26 rfl rfl ?_
  refine e_getR (q := 78) dX0_copyFrom_27 fl_RX0_19 (Ms.s 76 rfl) (Ms.n (by decide)) rfl (Ms.r 76 2 rfl) (by unfold fscr; omega) ?_
  refine e_iconst (nI 0) dX0_copyFrom_30 (by decide) ?_
  refine e_aload_n dX0_copyFrom_31 rfl rfl ?_
  refine e_getR (q := 31) dX0_copyFrom_32 fl_RX0_19 (Ms.s 29 rfl) (Ms.n (by decide)) rfl (Ms.r 29 2 rfl) (by unfold fscr; omega) ?_
  refine e_iconst (nI 0) dX0_copyFrom_35 (by decide) ?_
  refine e_aload_n dX0_copyFrom_36 rfl rfl ?_
  refine e_getR (q := 31) dX0_copyFrom_37 fl_RX0_19 (Ms.s 29 rfl) (Ms.n (by decide)) rfl (Ms.r 29 2 rfl) (by unfold fscr; omega) ?_
  refine e_alen dX0_copyFrom_40 (Ms.s 31 rfl) (by decide) (Ms.n (by decide)) ?_
  refine e_copy 0 0 4 dX0_copyFrom_41 ml_RX0_28 (Ms.s 78 rfl) (Ms.s 31 rfl) (Ms.n (by decide)) (Ms.n (by decide)) Ms.2.2.2 rfl rfl rfl (by omega) (by omega) (by decide) (by decide) (Nat.le_of_ble_eq_true rfl) w_copy ?_
  refine e_return dX0_copyFrom_44 rfl (h _ (((fSm_C (A := (fun a => 29 ≤ a ∧ a < 32)) ⟨by omega, by omega⟩).tr (fSm_I (A := (fun a => 29 ≤ a ∧ a < 32)) ⟨by omega, by omega⟩)).tr (fSm_C (A := (fun a => 29 ≤ a ∧ a < 32)) ⟨by omega, by omega⟩)) ⟨?_, fun j hj => ?_, fun c hc => ?_⟩)
  · rw [fI_C, if_neg (by omega), fI_I, if_pos ⟨rfl, rfl⟩]
  · rw [fI_C, if_neg (by omega), fI_I, if_neg (by omega), fI_C, if_pos rfl, if_pos (by omega), Nat.zero_add, Nat.sub_zero]; exact Dc.2.1 j hj
  · rw [fI_C, if_pos rfl, if_pos (by omega), fI_I, if_neg (by omega), fI_C, if_neg (by omega), Nat.zero_add, Nat.sub_zero]; exact Dc.2.2 c hc
set_option maxRecDepth 20000 in
theorem t_X0_cp_86_29 {g : fGP} {d : Nat} {σ : fAH} {Q : fRes → fAH → Prop} {i : fIm} (Ms : fMs g σ) (hp : ipn i ≤ 30) (Dc : fDc σ 29 i) (h : ∀ σ', fSm (fun a => 86 ≤ a ∧ a < 89) σ σ' → fDc σ' 86 i → Q (.inl none) σ') : fEv g d mX0_copyFrom 0 (fent [.ref 86, .ref 29] 2) [] σ Q := by
  show fEv g d mX0_copyFrom 0 [some (.ref 86), some (.ref 29)] [] σ Q
  refine e_aload_n dX0_copyFrom_0 rfl rfl ?_
  refine e_getR (q := 30) dX0_copyFrom_1 fl_RX0_9 (Ms.s 29 rfl) (Ms.n (by decide)) rfl (Ms.r 29 0 rfl) (by unfold fscr; omega) ?_
  refine e_iconst (nI 0) dX0_copyFrom_4 (by decide) ?_
  refine e_aload_n dX0_copyFrom_5 rfl rfl ?_
  refine e_getR (q := 87) dX0_copyFrom_6 fl_RX0_9 (Ms.s 86 rfl) (Ms.n (by decide)) rfl (Ms.r 86 0 rfl) (by unfold fscr; omega) ?_
  refine e_iconst (nI 0) dX0_copyFrom_9 (by decide) ?_
  refine e_aload_n dX0_copyFrom_10 rfl rfl ?_
  refine e_getR (q := 87) dX0_copyFrom_11 fl_RX0_9 (Ms.s 86 rfl) (Ms.n (by decide)) rfl (Ms.r 86 0 rfl) (by unfold fscr; omega) ?_
  refine e_alen dX0_copyFrom_14 (Ms.s 87 rfl) (by decide) (Ms.n (by decide)) ?_
  refine e_copy 0 0 30 dX0_copyFrom_15 ml_RX0_28 (Ms.s 30 rfl) (Ms.s 87 rfl) (Ms.n (by decide)) (Ms.n (by decide)) Ms.2.2.2 rfl rfl rfl (by omega) (by omega) (by decide) (by decide) (Nat.le_of_ble_eq_true rfl) w_copy ?_
  refine e_aload_n dX0_copyFrom_18 rfl rfl ?_
  refine e_aload_n dX0_copyFrom_19 rfl rfl ?_
  refine e_getI dX0_copyFrom_20 fl_RX0_15 (Ms.s 29 rfl) (Ms.n (by decide)) rfl ?_
  refine e_int (nI (ipn i)) (by rw [fI_C, if_neg (by omega)]; exact Dc.1) ?_
  refine e_putI dX0_copyFrom_23 fl_RX0_15 (Ms.s 86 rfl) (Ms.n (by decide)) rfl rfl ?_
  refine e_aload_n dX0_copyFrom_26 rfl rfl ?_
  refine e_getR (q := 31) dX0_copyFrom_27 fl_RX0_19 (Ms.s 29 rfl) (Ms.n (by decide)) rfl (Ms.r 29 2 rfl) (by unfold fscr; omega) ?_
  refine e_iconst (nI 0) dX0_copyFrom_30 (by decide) ?_
  refine e_aload_n dX0_copyFrom_31 rfl rfl ?_
  refine e_getR (q := 88) dX0_copyFrom_32 fl_RX0_19 (Ms.s 86 rfl) (Ms.n (by decide)) rfl (Ms.r 86 2 rfl) (by unfold fscr; omega) ?_
  refine e_iconst (nI 0) dX0_copyFrom_35 (by decide) ?_
  refine e_aload_n dX0_copyFrom_36 rfl rfl ?_
  refine e_getR (q := 88) dX0_copyFrom_37 fl_RX0_19 (Ms.s 86 rfl) (Ms.n (by decide)) rfl (Ms.r 86 2 rfl) (by unfold fscr; omega) ?_
  refine e_alen dX0_copyFrom_40 (Ms.s 88 rfl) (by decide) (Ms.n (by decide)) ?_
  refine e_copy 0 0 4 dX0_copyFrom_41 ml_RX0_28 (Ms.s 31 rfl) (Ms.s 88 rfl) (Ms.n (by decide)) (Ms.n (by decide)) Ms.2.2.2 rfl rfl rfl (by omega) (by omega) (by decide) (by decide) (Nat.le_of_ble_eq_true rfl) w_copy ?_
  refine e_return dX0_copyFrom_44 rfl (h _ (((fSm_C (A := (fun a => 86 ≤ a ∧ a < 89)) ⟨by omega, by omega⟩).tr (fSm_I (A := (fun a => 86 ≤ a ∧ a < 89)) ⟨by omega, by omega⟩)).tr (fSm_C (A := (fun a => 86 ≤ a ∧ a < 89)) ⟨by omega, by omega⟩)) ⟨?_, fun j hj => ?_, fun c hc => ?_⟩)
  · rw [fI_C, if_neg (by omega), fI_I, if_pos ⟨rfl, rfl⟩]
  · rw [fI_C, if_neg (by omega), fI_I, if_neg (by omega), fI_C, if_pos rfl, if_pos (by omega), Nat.zero_add, Nat.sub_zero]; exact Dc.2.1 j hj
  · rw [fI_C, if_pos rfl, if_pos (by omega), fI_I, if_neg (by omega), fI_C, if_neg (by omega), Nat.zero_add, Nat.sub_zero]; exact Dc.2.2 c hc
set_option maxRecDepth 20000 in
theorem t_X0_cp_29_86 {g : fGP} {d : Nat} {σ : fAH} {Q : fRes → fAH → Prop} {i : fIm} (Ms : fMs g σ) (hp : ipn i ≤ 30) (Dc : fDc σ 86 i) (h : ∀ σ', fSm (fun a => 29 ≤ a ∧ a < 32) σ σ' → fDc σ' 29 i → Q (.inl none) σ') : fEv g d mX0_copyFrom 0 (fent [.ref 29, .ref 86] 2) [] σ Q := by
  show fEv g d mX0_copyFrom 0 [some (.ref 29), some (.ref 86)] [] σ Q
  refine e_aload_n dX0_copyFrom_0 rfl rfl ?_
  refine e_getR (q := 87) dX0_copyFrom_1 fl_RX0_9 (Ms.s 86 rfl) (Ms.n (by decide)) rfl (Ms.r 86 0 rfl) (by unfold fscr; omega) ?_
  refine e_iconst (nI 0) dX0_copyFrom_4 (by decide) ?_
  refine e_aload_n dX0_copyFrom_5 rfl rfl ?_
  refine e_getR (q := 30) dX0_copyFrom_6 fl_RX0_9 (Ms.s 29 rfl) (Ms.n (by decide)) rfl (Ms.r 29 0 rfl) (by unfold fscr; omega) ?_
  refine e_iconst (nI 0) dX0_copyFrom_9 (by decide) ?_
  refine e_aload_n dX0_copyFrom_10 rfl rfl ?_
  refine e_getR (q := 30) dX0_copyFrom_11 fl_RX0_9 (Ms.s 29 rfl) (Ms.n (by decide)) rfl (Ms.r 29 0 rfl) (by unfold fscr; omega) ?_
  refine e_alen dX0_copyFrom_14 (Ms.s 30 rfl) (by decide) (Ms.n (by decide)) ?_
  refine e_copy 0 0 30 dX0_copyFrom_15 ml_RX0_28 (Ms.s 87 rfl) (Ms.s 30 rfl) (Ms.n (by decide)) (Ms.n (by decide)) Ms.2.2.2 rfl rfl rfl (by omega) (by omega) (by decide) (by decide) (Nat.le_of_ble_eq_true rfl) w_copy ?_
  refine e_aload_n dX0_copyFrom_18 rfl rfl ?_
  refine e_aload_n dX0_copyFrom_19 rfl rfl ?_
  refine e_getI dX0_copyFrom_20 fl_RX0_15 (Ms.s 86 rfl) (Ms.n (by decide)) rfl ?_
  refine e_int (nI (ipn i)) (by rw [fI_C, if_neg (by omega)]; exact Dc.1) ?_
  refine e_putI dX0_copyFrom_23 fl_RX0_15 (Ms.s 29 rfl) (Ms.n (by decide)) rfl rfl ?_
  refine e_aload_n dX0_copyFrom_26 rfl rfl ?_
  refine e_getR (q := 88) dX0_copyFrom_27 fl_RX0_19 (Ms.s 86 rfl) (Ms.n (by decide)) rfl (Ms.r 86 2 rfl) (by unfold fscr; omega) ?_
  refine e_iconst (nI 0) dX0_copyFrom_30 (by decide) ?_
  refine e_aload_n dX0_copyFrom_31 rfl rfl ?_
  refine e_getR (q := 31) dX0_copyFrom_32 fl_RX0_19 (Ms.s 29 rfl) (Ms.n (by decide)) rfl (Ms.r 29 2 rfl) (by unfold fscr; omega) ?_
  refine e_iconst (nI 0) dX0_copyFrom_35 (by decide) ?_
  refine e_aload_n dX0_copyFrom_36 rfl rfl ?_
  refine e_getR (q := 31) dX0_copyFrom_37 fl_RX0_19 (Ms.s 29 rfl) (Ms.n (by decide)) rfl (Ms.r 29 2 rfl) (by unfold fscr; omega) ?_
  refine e_alen dX0_copyFrom_40 (Ms.s 31 rfl) (by decide) (Ms.n (by decide)) ?_
  refine e_copy 0 0 4 dX0_copyFrom_41 ml_RX0_28 (Ms.s 88 rfl) (Ms.s 31 rfl) (Ms.n (by decide)) (Ms.n (by decide)) Ms.2.2.2 rfl rfl rfl (by omega) (by omega) (by decide) (by decide) (Nat.le_of_ble_eq_true rfl) w_copy ?_
  refine e_return dX0_copyFrom_44 rfl (h _ (((fSm_C (A := (fun a => 29 ≤ a ∧ a < 32)) ⟨by omega, by omega⟩).tr (fSm_I (A := (fun a => 29 ≤ a ∧ a < 32)) ⟨by omega, by omega⟩)).tr (fSm_C (A := (fun a => 29 ≤ a ∧ a < 32)) ⟨by omega, by omega⟩)) ⟨?_, fun j hj => ?_, fun c hc => ?_⟩)
  · rw [fI_C, if_neg (by omega), fI_I, if_pos ⟨rfl, rfl⟩]
  · rw [fI_C, if_neg (by omega), fI_I, if_neg (by omega), fI_C, if_pos rfl, if_pos (by omega), Nat.zero_add, Nat.sub_zero]; exact Dc.2.1 j hj
  · rw [fI_C, if_pos rfl, if_pos (by omega), fI_I, if_neg (by omega), fI_C, if_neg (by omega), Nat.zero_add, Nat.sub_zero]; exact Dc.2.2 c hc
set_option maxRecDepth 20000 in
theorem t_X9_imageN {g : fGP} {d : Nat} {σ : fAH} {Q : fRes → fAH → Prop} {x : fXS}  (Ms : fMs g σ) (ok : fOK x) (Ic : fIc σ x) (hi : xm x = 3) (h : Q (.inl (some (.int (-1)))) σ) : fEv g (d + 1) mX9_image 0 (fent [.ref 0] 1) [] σ Q := by
  obtain ⟨D, ⟨S, T, sd, pn, P, rn, R⟩, B, tp, pl, im, Im⟩ := x
  have hD : fWD D := ok.1
  have hW : fWS D S := ok.2.1.1
  have hC : fWC D S := ok.2.1.2.1
  have hN : fWN S 0 0 := ok.2.1.2.2.1
  have Gr : fGr σ 2 D := Ic.1
  obtain ⟨⟨m, Yr⟩, Yt⟩ : fYf σ 15 D S T sd := Ic.2.1
  have Gs := Ms.ground (k := 2) (by decide)
  have Ys := Ms.yard (k := 15) (by decide)
  obtain ⟨⟨g0, g1, g2, g3, g4, g5⟩, ⟨gn, gK⟩, ⟨gr0, gr1, gr2, gr3, gr4⟩⟩ := id Gs
  obtain ⟨⟨y0, y1, y2, y3, y4, y5, y6⟩, ⟨yn, yK⟩, ⟨yr0, yr1, yr2, yr3, yr4, yr5, yr6⟩⟩ := id Ys
  obtain ⟨t0, t1, t2, t3, t4, t5, t6⟩ := id hD.1
  have np := hW.n hD
  have n5 := hW.2.2.2.2
  have tp6 : tp ≤ 600 := ok.2.2.2.1
  have im3 : im ≤ 3 := ok.2.2.2.2.1
  have pn3 : pn ≤ 30 := ok.2.1.2.2.2.1
  have rn6 : rn ≤ 60 := ok.2.1.2.2.2.2.2.1
  have Dc : fDc σ 29 (S, T, sd, pn, P, rn, R) := Ic.2.2.1
  have w52 := hW.1
  have hi : im = 3 := hi
  show fEv g (d + 1) mX9_image 0 [some (.ref 0)] [] σ Q
  refine e_aload_n dX9_image_0 rfl rfl ?_
  refine e_getI dX9_image_1 fl_RX9_63 (Ms.s 0 rfl) (Ms.n (by decide)) rfl ?_
  refine e_int (nI im) Ic.2.2.2.1.2.2.2 ?_
  refine e_iconst (nI 3) dX9_image_4 (by decide) ?_
  refine e_icmp_lt 10 dX9_image_5 (by decide) (fun c => absurd c (fun q => absurd ((nI_lt' (by omega) (by omega)).mp q) (by omega))) (fun _ => ?_)
  refine e_iconst (-1) dX9_image_8 (by decide) ?_
  exact e_ireturn .int dX9_image_9 rfl rfl h
set_option maxRecDepth 20000 in
theorem t_X9_image {g : fGP} {d : Nat} {σ : fAH} {Q : fRes → fAH → Prop} {x : fXS} (Ms : fMs g σ) (ok : fOK x) (Ic : fIc σ x) (hi : xm x < 3) (h : ∀ σ', fSm fClA σ σ' → fIc σ' (xImg x) → Q (.inl (some (.int (nI (xm x + 1))))) σ') : fEv g (d + 1) mX9_image 0 (fent [.ref 0] 1) [] σ Q := by
  obtain ⟨D, ⟨S, T, sd, pn, P, rn, R⟩, B, tp, pl, im, Im⟩ := x
  have hD : fWD D := ok.1
  have hW : fWS D S := ok.2.1.1
  have hC : fWC D S := ok.2.1.2.1
  have hN : fWN S 0 0 := ok.2.1.2.2.1
  have Gr : fGr σ 2 D := Ic.1
  obtain ⟨⟨m, Yr⟩, Yt⟩ : fYf σ 15 D S T sd := Ic.2.1
  have Gs := Ms.ground (k := 2) (by decide)
  have Ys := Ms.yard (k := 15) (by decide)
  obtain ⟨⟨g0, g1, g2, g3, g4, g5⟩, ⟨gn, gK⟩, ⟨gr0, gr1, gr2, gr3, gr4⟩⟩ := id Gs
  obtain ⟨⟨y0, y1, y2, y3, y4, y5, y6⟩, ⟨yn, yK⟩, ⟨yr0, yr1, yr2, yr3, yr4, yr5, yr6⟩⟩ := id Ys
  obtain ⟨t0, t1, t2, t3, t4, t5, t6⟩ := id hD.1
  have np := hW.n hD
  have n5 := hW.2.2.2.2
  have tp6 : tp ≤ 600 := ok.2.2.2.1
  have im3 : im ≤ 3 := ok.2.2.2.2.1
  have pn3 : pn ≤ 30 := ok.2.1.2.2.2.1
  have rn6 : rn ≤ 60 := ok.2.1.2.2.2.2.2.1
  have Dc : fDc σ 29 (S, T, sd, pn, P, rn, R) := Ic.2.2.1
  have w52 := hW.1
  have hi : im < 3 := hi
  have hp3 : ipn (S, T, sd, pn, P, rn, R) ≤ 30 := pn3
  rcases (show im = 0 ∨ im = 1 ∨ im = 2 by omega) with rfl | rfl | rfl
  · show fEv g (d + 1) mX9_image 0 [some (.ref 0)] [] σ Q
    refine e_aload_n dX9_image_0 rfl rfl ?_
    refine e_getI dX9_image_1 fl_RX9_63 (Ms.s 0 rfl) (Ms.n (by decide)) rfl ?_
    refine e_int (nI 0) Ic.2.2.2.1.2.2.2 ?_
    refine e_iconst (nI 3) dX9_image_4 (by decide) ?_
    refine e_icmp_lt 10 dX9_image_5 (by decide) (fun _ => ?_) (fun c => absurd c (by decide))
    refine e_aload_n dX9_image_10 rfl rfl ?_
    refine e_getR (q := 32) dX9_image_11 fl_RX9_55 (Ms.s 0 rfl) (Ms.n (by decide)) rfl (Ms.r 0 8 rfl) (by unfold fscr; omega) ?_
    refine e_aload_n dX9_image_14 rfl rfl ?_
    refine e_getI dX9_image_15 fl_RX9_63 (Ms.s 0 rfl) (Ms.n (by decide)) rfl ?_
    refine e_int (nI 0) Ic.2.2.2.1.2.2.2 ?_
    refine e_aaload (q := 59) 0 dX9_image_18 (Ms.s 32 rfl) (by decide) (Ms.n (by decide)) rfl (by omega) (by decide) (Ms.r 32 0 rfl) (by unfold fscr; omega) ?_
    refine e_aload_n dX9_image_19 rfl rfl ?_
    refine e_getR (q := 15) dX9_image_20 fl_RX9_41 (Ms.s 0 rfl) (Ms.n (by decide)) rfl (Ms.r 0 5 rfl) (by unfold fscr; omega) ?_
    refine e_callV (k := 59) [.ref 15] dX9_image_23 cc_X8_copyFrom lk_RX9_323 im_X8_copyFrom se_X8_copyFrom (by decide) (Ms.s 59 rfl) (Ms.n (by decide)) rfl (Nat.le_of_ble_eq_true rfl) (Nat.le_of_ble_eq_true rfl) ?_
    refine t_X8_copyFrom (k := 59) (j := 15) Ms (by decide) ww9 (by decide) hD Yr Yt hW (fun σ1 Sm1 Yf1 => fK_v ?_)
    show fEv g _ mX9_image 26 [some (.ref 0)] [] σ1 Q
    have Ms1 := Ms.sm Sm1
    have Dc1 : fDc σ1 29 (S, T, sd, pn, P, rn, R) := Dc.cg (Sm1.i (fun (q : 59 ≤ 29 ∧ 29 ≤ 59 + 6) => by omega)) (Sm1.i (fun (q : 59 ≤ 29 + 1 ∧ 29 + 1 ≤ 59 + 6) => by omega)) (Sm1.i (fun (q : 59 ≤ 29 + 2 ∧ 29 + 2 ≤ 59 + 6) => by omega))
    refine e_aload_n dX9_image_26 rfl rfl ?_
    refine e_getR (q := 33) dX9_image_27 fl_RX9_59 (Ms1.s 0 rfl) (Ms1.n (by decide)) rfl (Ms1.r 0 9 rfl) (by unfold fscr; omega) ?_
    refine e_aload_n dX9_image_30 rfl rfl ?_
    refine e_getI dX9_image_31 fl_RX9_63 (Ms1.s 0 rfl) (Ms1.n (by decide)) rfl ?_
    refine e_int (nI 0) ((Sm1.i (fun (q : 59 ≤ 0 ∧ 0 ≤ 59 + 6) => by omega) 10).trans Ic.2.2.2.1.2.2.2) ?_
    refine e_aaload (q := 66) 0 dX9_image_34 (Ms1.s 33 rfl) (by decide) (Ms1.n (by decide)) rfl (by omega) (by decide) (Ms1.r 33 0 rfl) (by unfold fscr; omega) ?_
    refine e_aload_n dX9_image_35 rfl rfl ?_
    refine e_getR (q := 29) dX9_image_36 fl_RX9_51 (Ms1.s 0 rfl) (Ms1.n (by decide)) rfl (Ms1.r 0 7 rfl) (by unfold fscr; omega) ?_
    refine e_callV (k := 66) [.ref 29] dX9_image_39 cc_X0_copyFrom lk_RX9_326 im_X0_copyFrom se_X0_copyFrom (by decide) (Ms1.s 66 rfl) (Ms1.n (by decide)) rfl (Nat.le_of_ble_eq_true rfl) (Nat.le_of_ble_eq_true rfl) ?_
    refine t_X0_cp_66_29 Ms1 hp3 Dc1 (fun σ2 Sm2 Dc2 => fK_v ?_)
    show fEv g _ mX9_image 42 [some (.ref 0)] [] σ2 Q
    have Ms2 := Ms1.sm Sm2
    refine e_aload_n dX9_image_42 rfl rfl ?_
    refine e_dup dX9_image_43 rfl ?_
    refine e_getI dX9_image_44 fl_RX9_63 (Ms2.s 0 rfl) (Ms2.n (by decide)) rfl ?_
    refine e_int (nI 0) ((Sm2.i (fun (q : 66 ≤ 0 ∧ 0 < 69) => by omega) 10).trans ((Sm1.i (fun (q : 59 ≤ 0 ∧ 0 ≤ 59 + 6) => by omega) 10).trans Ic.2.2.2.1.2.2.2)) ?_
    refine e_iconst (nI 1) dX9_image_47 (by decide) ?_
    refine e_iadd dX9_image_48 ?_
    refine e_int (nI 1) (nI_add 0 1) ?_
    refine e_putI dX9_image_49 fl_RX9_63 (Ms2.s 0 rfl) (Ms2.n (by decide)) rfl rfl ?_
    refine e_aload_n dX9_image_52 rfl rfl ?_
    refine e_getI dX9_image_53 fl_RX9_63 (Ms2.s 0 rfl) (Ms2.n (by decide)) rfl ?_
    refine e_int (nI 1) (by rw [fI_I, if_pos ⟨rfl, rfl⟩]) ?_
    have A9 : fSm (fun a => a = 0 ∨ (59 ≤ a ∧ a < 69)) σ (fsI σ2 0 10 (nI 1)) := ((Sm1.to (fun a (q : 59 ≤ a ∧ a ≤ 59 + 6) => Or.inr (by omega))).tr (Sm2.to (fun a (q : 66 ≤ a ∧ a < 69) => Or.inr (by omega)))).tr (fSm_I (Or.inl rfl))
    have k9 : ∀ j, j ≠ 10 → fI (fsI σ2 0 10 (nI 1)) 0 j = fI σ 0 j := fun j hj => by rw [fI_I, if_neg (by omega)]; exact (Sm2.i (fun (q : 66 ≤ 0 ∧ 0 < 69) => by omega) j).trans (Sm1.i (fun (q : 59 ≤ 0 ∧ 0 ≤ 59 + 6) => by omega) j)
    have J9 : fJ (fsI σ2 0 10 (nI 1)) 0 16 = fJ σ 0 16 := (Sm2.j (fun (q : 66 ≤ 0 ∧ 0 < 69) => by omega) 16).trans (Sm1.j (fun (q : 59 ≤ 0 ∧ 0 ≤ 59 + 6) => by omega) 16)
    refine e_ireturn .int dX9_image_56 rfl rfl (h _ (A9.to (fun a q => by unfold fClA; omega)) ⟨Gr.sm A9 (fun i hi q => by omega), ⟨⟨m, Yr.sm A9 (fun i hi q => by omega)⟩, Yt.sm A9 (fun i hi q => by omega)⟩, Dc.cg (A9.i (fun q => by omega)) (A9.i (fun q => by omega)) (A9.i (fun q => by omega)), ⟨(k9 1 (by decide)).trans Ic.2.2.2.1.1, fun i hi => (A9.i (fun q => by omega) i).trans (Ic.2.2.2.1.2.1 i hi), (k9 2 (by decide)).trans Ic.2.2.2.1.2.2.1, by rw [fI_I, if_pos ⟨rfl, rfl⟩]; rfl⟩, fun q hq => ?_, Ic.2.2.2.2.2.1.cg (k9 14 (by decide)) (k9 15 (by decide)) J9, Ic.2.2.2.2.2.2.sm A9 (fun a q => by omega)⟩)
    have hq : q < 1 := hq
    by_cases e : q = 0
    · subst e
      refine ⟨?_, ?_⟩
      · show fYf (fsI σ2 0 10 (nI 1)) 59 D S T sd
        exact ⟨by obtain ⟨m9, h9⟩ := Yf1.1; exact ⟨m9, (h9.sm Sm2 (fun i hi (q : 66 ≤ 59 + i ∧ 59 + i < 69) => by omega)).sm (A := fun a => a = 0) (fSm_I rfl) (fun i hi (q : 59 + i = 0) => by omega)⟩, (Yf1.2.sm Sm2 (fun i hi (q : 66 ≤ 59 + i ∧ 59 + i < 69) => by omega)).sm (A := fun a => a = 0) (fSm_I rfl) (fun i hi (q : 59 + i = 0) => by omega)⟩
      · show fDc (fsI σ2 0 10 (nI 1)) 66 (S, T, sd, pn, P, rn, R)
        exact Dc2
    · obtain ⟨⟨⟨m9, a9⟩, b9⟩, d9⟩ := Ic.2.2.2.2.1 q (show q < 0 by omega)
      show fYf _ _ D (iS (if q = 0 then (S, T, sd, pn, P, rn, R) else Im q)) (iT (if q = 0 then (S, T, sd, pn, P, rn, R) else Im q)) (iq (if q = 0 then (S, T, sd, pn, P, rn, R) else Im q)) ∧ fDc _ _ (if q = 0 then (S, T, sd, pn, P, rn, R) else Im q)
      rw [if_neg e]
      exact ⟨⟨⟨m9, a9.sm A9 (fun i hi q9 => by omega)⟩, b9.sm A9 (fun i hi q9 => by omega)⟩, d9.cg (A9.i (fun q9 => by omega)) (A9.i (fun q9 => by omega)) (A9.i (fun q9 => by omega))⟩
  · show fEv g (d + 1) mX9_image 0 [some (.ref 0)] [] σ Q
    refine e_aload_n dX9_image_0 rfl rfl ?_
    refine e_getI dX9_image_1 fl_RX9_63 (Ms.s 0 rfl) (Ms.n (by decide)) rfl ?_
    refine e_int (nI 1) Ic.2.2.2.1.2.2.2 ?_
    refine e_iconst (nI 3) dX9_image_4 (by decide) ?_
    refine e_icmp_lt 10 dX9_image_5 (by decide) (fun _ => ?_) (fun c => absurd c (by decide))
    refine e_aload_n dX9_image_10 rfl rfl ?_
    refine e_getR (q := 32) dX9_image_11 fl_RX9_55 (Ms.s 0 rfl) (Ms.n (by decide)) rfl (Ms.r 0 8 rfl) (by unfold fscr; omega) ?_
    refine e_aload_n dX9_image_14 rfl rfl ?_
    refine e_getI dX9_image_15 fl_RX9_63 (Ms.s 0 rfl) (Ms.n (by decide)) rfl ?_
    refine e_int (nI 1) Ic.2.2.2.1.2.2.2 ?_
    refine e_aaload (q := 69) 1 dX9_image_18 (Ms.s 32 rfl) (by decide) (Ms.n (by decide)) rfl (by omega) (by decide) (Ms.r 32 1 rfl) (by unfold fscr; omega) ?_
    refine e_aload_n dX9_image_19 rfl rfl ?_
    refine e_getR (q := 15) dX9_image_20 fl_RX9_41 (Ms.s 0 rfl) (Ms.n (by decide)) rfl (Ms.r 0 5 rfl) (by unfold fscr; omega) ?_
    refine e_callV (k := 69) [.ref 15] dX9_image_23 cc_X8_copyFrom lk_RX9_323 im_X8_copyFrom se_X8_copyFrom (by decide) (Ms.s 69 rfl) (Ms.n (by decide)) rfl (Nat.le_of_ble_eq_true rfl) (Nat.le_of_ble_eq_true rfl) ?_
    refine t_X8_copyFrom (k := 69) (j := 15) Ms (by decide) ww9 (by decide) hD Yr Yt hW (fun σ1 Sm1 Yf1 => fK_v ?_)
    show fEv g _ mX9_image 26 [some (.ref 0)] [] σ1 Q
    have Ms1 := Ms.sm Sm1
    have Dc1 : fDc σ1 29 (S, T, sd, pn, P, rn, R) := Dc.cg (Sm1.i (fun (q : 69 ≤ 29 ∧ 29 ≤ 69 + 6) => by omega)) (Sm1.i (fun (q : 69 ≤ 29 + 1 ∧ 29 + 1 ≤ 69 + 6) => by omega)) (Sm1.i (fun (q : 69 ≤ 29 + 2 ∧ 29 + 2 ≤ 69 + 6) => by omega))
    refine e_aload_n dX9_image_26 rfl rfl ?_
    refine e_getR (q := 33) dX9_image_27 fl_RX9_59 (Ms1.s 0 rfl) (Ms1.n (by decide)) rfl (Ms1.r 0 9 rfl) (by unfold fscr; omega) ?_
    refine e_aload_n dX9_image_30 rfl rfl ?_
    refine e_getI dX9_image_31 fl_RX9_63 (Ms1.s 0 rfl) (Ms1.n (by decide)) rfl ?_
    refine e_int (nI 1) ((Sm1.i (fun (q : 69 ≤ 0 ∧ 0 ≤ 69 + 6) => by omega) 10).trans Ic.2.2.2.1.2.2.2) ?_
    refine e_aaload (q := 76) 1 dX9_image_34 (Ms1.s 33 rfl) (by decide) (Ms1.n (by decide)) rfl (by omega) (by decide) (Ms1.r 33 1 rfl) (by unfold fscr; omega) ?_
    refine e_aload_n dX9_image_35 rfl rfl ?_
    refine e_getR (q := 29) dX9_image_36 fl_RX9_51 (Ms1.s 0 rfl) (Ms1.n (by decide)) rfl (Ms1.r 0 7 rfl) (by unfold fscr; omega) ?_
    refine e_callV (k := 76) [.ref 29] dX9_image_39 cc_X0_copyFrom lk_RX9_326 im_X0_copyFrom se_X0_copyFrom (by decide) (Ms1.s 76 rfl) (Ms1.n (by decide)) rfl (Nat.le_of_ble_eq_true rfl) (Nat.le_of_ble_eq_true rfl) ?_
    refine t_X0_cp_76_29 Ms1 hp3 Dc1 (fun σ2 Sm2 Dc2 => fK_v ?_)
    show fEv g _ mX9_image 42 [some (.ref 0)] [] σ2 Q
    have Ms2 := Ms1.sm Sm2
    refine e_aload_n dX9_image_42 rfl rfl ?_
    refine e_dup dX9_image_43 rfl ?_
    refine e_getI dX9_image_44 fl_RX9_63 (Ms2.s 0 rfl) (Ms2.n (by decide)) rfl ?_
    refine e_int (nI 1) ((Sm2.i (fun (q : 76 ≤ 0 ∧ 0 < 79) => by omega) 10).trans ((Sm1.i (fun (q : 69 ≤ 0 ∧ 0 ≤ 69 + 6) => by omega) 10).trans Ic.2.2.2.1.2.2.2)) ?_
    refine e_iconst (nI 1) dX9_image_47 (by decide) ?_
    refine e_iadd dX9_image_48 ?_
    refine e_int (nI 2) (nI_add 1 1) ?_
    refine e_putI dX9_image_49 fl_RX9_63 (Ms2.s 0 rfl) (Ms2.n (by decide)) rfl rfl ?_
    refine e_aload_n dX9_image_52 rfl rfl ?_
    refine e_getI dX9_image_53 fl_RX9_63 (Ms2.s 0 rfl) (Ms2.n (by decide)) rfl ?_
    refine e_int (nI 2) (by rw [fI_I, if_pos ⟨rfl, rfl⟩]) ?_
    have A9 : fSm (fun a => a = 0 ∨ (69 ≤ a ∧ a < 79)) σ (fsI σ2 0 10 (nI 2)) := ((Sm1.to (fun a (q : 69 ≤ a ∧ a ≤ 69 + 6) => Or.inr (by omega))).tr (Sm2.to (fun a (q : 76 ≤ a ∧ a < 79) => Or.inr (by omega)))).tr (fSm_I (Or.inl rfl))
    have k9 : ∀ j, j ≠ 10 → fI (fsI σ2 0 10 (nI 2)) 0 j = fI σ 0 j := fun j hj => by rw [fI_I, if_neg (by omega)]; exact (Sm2.i (fun (q : 76 ≤ 0 ∧ 0 < 79) => by omega) j).trans (Sm1.i (fun (q : 69 ≤ 0 ∧ 0 ≤ 69 + 6) => by omega) j)
    have J9 : fJ (fsI σ2 0 10 (nI 2)) 0 16 = fJ σ 0 16 := (Sm2.j (fun (q : 76 ≤ 0 ∧ 0 < 79) => by omega) 16).trans (Sm1.j (fun (q : 69 ≤ 0 ∧ 0 ≤ 69 + 6) => by omega) 16)
    refine e_ireturn .int dX9_image_56 rfl rfl (h _ (A9.to (fun a q => by unfold fClA; omega)) ⟨Gr.sm A9 (fun i hi q => by omega), ⟨⟨m, Yr.sm A9 (fun i hi q => by omega)⟩, Yt.sm A9 (fun i hi q => by omega)⟩, Dc.cg (A9.i (fun q => by omega)) (A9.i (fun q => by omega)) (A9.i (fun q => by omega)), ⟨(k9 1 (by decide)).trans Ic.2.2.2.1.1, fun i hi => (A9.i (fun q => by omega) i).trans (Ic.2.2.2.1.2.1 i hi), (k9 2 (by decide)).trans Ic.2.2.2.1.2.2.1, by rw [fI_I, if_pos ⟨rfl, rfl⟩]; rfl⟩, fun q hq => ?_, Ic.2.2.2.2.2.1.cg (k9 14 (by decide)) (k9 15 (by decide)) J9, Ic.2.2.2.2.2.2.sm A9 (fun a q => by omega)⟩)
    have hq : q < 2 := hq
    by_cases e : q = 1
    · subst e
      refine ⟨?_, ?_⟩
      · show fYf (fsI σ2 0 10 (nI 2)) 69 D S T sd
        exact ⟨by obtain ⟨m9, h9⟩ := Yf1.1; exact ⟨m9, (h9.sm Sm2 (fun i hi (q : 76 ≤ 69 + i ∧ 69 + i < 79) => by omega)).sm (A := fun a => a = 0) (fSm_I rfl) (fun i hi (q : 69 + i = 0) => by omega)⟩, (Yf1.2.sm Sm2 (fun i hi (q : 76 ≤ 69 + i ∧ 69 + i < 79) => by omega)).sm (A := fun a => a = 0) (fSm_I rfl) (fun i hi (q : 69 + i = 0) => by omega)⟩
      · show fDc (fsI σ2 0 10 (nI 2)) 76 (S, T, sd, pn, P, rn, R)
        exact Dc2
    · obtain ⟨⟨⟨m9, a9⟩, b9⟩, d9⟩ := Ic.2.2.2.2.1 q (show q < 1 by omega)
      show fYf _ _ D (iS (if q = 1 then (S, T, sd, pn, P, rn, R) else Im q)) (iT (if q = 1 then (S, T, sd, pn, P, rn, R) else Im q)) (iq (if q = 1 then (S, T, sd, pn, P, rn, R) else Im q)) ∧ fDc _ _ (if q = 1 then (S, T, sd, pn, P, rn, R) else Im q)
      rw [if_neg e]
      exact ⟨⟨⟨m9, a9.sm A9 (fun i hi q9 => by omega)⟩, b9.sm A9 (fun i hi q9 => by omega)⟩, d9.cg (A9.i (fun q9 => by omega)) (A9.i (fun q9 => by omega)) (A9.i (fun q9 => by omega))⟩
  · show fEv g (d + 1) mX9_image 0 [some (.ref 0)] [] σ Q
    refine e_aload_n dX9_image_0 rfl rfl ?_
    refine e_getI dX9_image_1 fl_RX9_63 (Ms.s 0 rfl) (Ms.n (by decide)) rfl ?_
    refine e_int (nI 2) Ic.2.2.2.1.2.2.2 ?_
    refine e_iconst (nI 3) dX9_image_4 (by decide) ?_
    refine e_icmp_lt 10 dX9_image_5 (by decide) (fun _ => ?_) (fun c => absurd c (by decide))
    refine e_aload_n dX9_image_10 rfl rfl ?_
    refine e_getR (q := 32) dX9_image_11 fl_RX9_55 (Ms.s 0 rfl) (Ms.n (by decide)) rfl (Ms.r 0 8 rfl) (by unfold fscr; omega) ?_
    refine e_aload_n dX9_image_14 rfl rfl ?_
    refine e_getI dX9_image_15 fl_RX9_63 (Ms.s 0 rfl) (Ms.n (by decide)) rfl ?_
    refine e_int (nI 2) Ic.2.2.2.1.2.2.2 ?_
    refine e_aaload (q := 79) 2 dX9_image_18 (Ms.s 32 rfl) (by decide) (Ms.n (by decide)) rfl (by omega) (by decide) (Ms.r 32 2 rfl) (by unfold fscr; omega) ?_
    refine e_aload_n dX9_image_19 rfl rfl ?_
    refine e_getR (q := 15) dX9_image_20 fl_RX9_41 (Ms.s 0 rfl) (Ms.n (by decide)) rfl (Ms.r 0 5 rfl) (by unfold fscr; omega) ?_
    refine e_callV (k := 79) [.ref 15] dX9_image_23 cc_X8_copyFrom lk_RX9_323 im_X8_copyFrom se_X8_copyFrom (by decide) (Ms.s 79 rfl) (Ms.n (by decide)) rfl (Nat.le_of_ble_eq_true rfl) (Nat.le_of_ble_eq_true rfl) ?_
    refine t_X8_copyFrom (k := 79) (j := 15) Ms (by decide) ww9 (by decide) hD Yr Yt hW (fun σ1 Sm1 Yf1 => fK_v ?_)
    show fEv g _ mX9_image 26 [some (.ref 0)] [] σ1 Q
    have Ms1 := Ms.sm Sm1
    have Dc1 : fDc σ1 29 (S, T, sd, pn, P, rn, R) := Dc.cg (Sm1.i (fun (q : 79 ≤ 29 ∧ 29 ≤ 79 + 6) => by omega)) (Sm1.i (fun (q : 79 ≤ 29 + 1 ∧ 29 + 1 ≤ 79 + 6) => by omega)) (Sm1.i (fun (q : 79 ≤ 29 + 2 ∧ 29 + 2 ≤ 79 + 6) => by omega))
    refine e_aload_n dX9_image_26 rfl rfl ?_
    refine e_getR (q := 33) dX9_image_27 fl_RX9_59 (Ms1.s 0 rfl) (Ms1.n (by decide)) rfl (Ms1.r 0 9 rfl) (by unfold fscr; omega) ?_
    refine e_aload_n dX9_image_30 rfl rfl ?_
    refine e_getI dX9_image_31 fl_RX9_63 (Ms1.s 0 rfl) (Ms1.n (by decide)) rfl ?_
    refine e_int (nI 2) ((Sm1.i (fun (q : 79 ≤ 0 ∧ 0 ≤ 79 + 6) => by omega) 10).trans Ic.2.2.2.1.2.2.2) ?_
    refine e_aaload (q := 86) 2 dX9_image_34 (Ms1.s 33 rfl) (by decide) (Ms1.n (by decide)) rfl (by omega) (by decide) (Ms1.r 33 2 rfl) (by unfold fscr; omega) ?_
    refine e_aload_n dX9_image_35 rfl rfl ?_
    refine e_getR (q := 29) dX9_image_36 fl_RX9_51 (Ms1.s 0 rfl) (Ms1.n (by decide)) rfl (Ms1.r 0 7 rfl) (by unfold fscr; omega) ?_
    refine e_callV (k := 86) [.ref 29] dX9_image_39 cc_X0_copyFrom lk_RX9_326 im_X0_copyFrom se_X0_copyFrom (by decide) (Ms1.s 86 rfl) (Ms1.n (by decide)) rfl (Nat.le_of_ble_eq_true rfl) (Nat.le_of_ble_eq_true rfl) ?_
    refine t_X0_cp_86_29 Ms1 hp3 Dc1 (fun σ2 Sm2 Dc2 => fK_v ?_)
    show fEv g _ mX9_image 42 [some (.ref 0)] [] σ2 Q
    have Ms2 := Ms1.sm Sm2
    refine e_aload_n dX9_image_42 rfl rfl ?_
    refine e_dup dX9_image_43 rfl ?_
    refine e_getI dX9_image_44 fl_RX9_63 (Ms2.s 0 rfl) (Ms2.n (by decide)) rfl ?_
    refine e_int (nI 2) ((Sm2.i (fun (q : 86 ≤ 0 ∧ 0 < 89) => by omega) 10).trans ((Sm1.i (fun (q : 79 ≤ 0 ∧ 0 ≤ 79 + 6) => by omega) 10).trans Ic.2.2.2.1.2.2.2)) ?_
    refine e_iconst (nI 1) dX9_image_47 (by decide) ?_
    refine e_iadd dX9_image_48 ?_
    refine e_int (nI 3) (nI_add 2 1) ?_
    refine e_putI dX9_image_49 fl_RX9_63 (Ms2.s 0 rfl) (Ms2.n (by decide)) rfl rfl ?_
    refine e_aload_n dX9_image_52 rfl rfl ?_
    refine e_getI dX9_image_53 fl_RX9_63 (Ms2.s 0 rfl) (Ms2.n (by decide)) rfl ?_
    refine e_int (nI 3) (by rw [fI_I, if_pos ⟨rfl, rfl⟩]) ?_
    have A9 : fSm (fun a => a = 0 ∨ (79 ≤ a ∧ a < 89)) σ (fsI σ2 0 10 (nI 3)) := ((Sm1.to (fun a (q : 79 ≤ a ∧ a ≤ 79 + 6) => Or.inr (by omega))).tr (Sm2.to (fun a (q : 86 ≤ a ∧ a < 89) => Or.inr (by omega)))).tr (fSm_I (Or.inl rfl))
    have k9 : ∀ j, j ≠ 10 → fI (fsI σ2 0 10 (nI 3)) 0 j = fI σ 0 j := fun j hj => by rw [fI_I, if_neg (by omega)]; exact (Sm2.i (fun (q : 86 ≤ 0 ∧ 0 < 89) => by omega) j).trans (Sm1.i (fun (q : 79 ≤ 0 ∧ 0 ≤ 79 + 6) => by omega) j)
    have J9 : fJ (fsI σ2 0 10 (nI 3)) 0 16 = fJ σ 0 16 := (Sm2.j (fun (q : 86 ≤ 0 ∧ 0 < 89) => by omega) 16).trans (Sm1.j (fun (q : 79 ≤ 0 ∧ 0 ≤ 79 + 6) => by omega) 16)
    refine e_ireturn .int dX9_image_56 rfl rfl (h _ (A9.to (fun a q => by unfold fClA; omega)) ⟨Gr.sm A9 (fun i hi q => by omega), ⟨⟨m, Yr.sm A9 (fun i hi q => by omega)⟩, Yt.sm A9 (fun i hi q => by omega)⟩, Dc.cg (A9.i (fun q => by omega)) (A9.i (fun q => by omega)) (A9.i (fun q => by omega)), ⟨(k9 1 (by decide)).trans Ic.2.2.2.1.1, fun i hi => (A9.i (fun q => by omega) i).trans (Ic.2.2.2.1.2.1 i hi), (k9 2 (by decide)).trans Ic.2.2.2.1.2.2.1, by rw [fI_I, if_pos ⟨rfl, rfl⟩]; rfl⟩, fun q hq => ?_, Ic.2.2.2.2.2.1.cg (k9 14 (by decide)) (k9 15 (by decide)) J9, Ic.2.2.2.2.2.2.sm A9 (fun a q => by omega)⟩)
    have hq : q < 3 := hq
    by_cases e : q = 2
    · subst e
      refine ⟨?_, ?_⟩
      · show fYf (fsI σ2 0 10 (nI 3)) 79 D S T sd
        exact ⟨by obtain ⟨m9, h9⟩ := Yf1.1; exact ⟨m9, (h9.sm Sm2 (fun i hi (q : 86 ≤ 79 + i ∧ 79 + i < 89) => by omega)).sm (A := fun a => a = 0) (fSm_I rfl) (fun i hi (q : 79 + i = 0) => by omega)⟩, (Yf1.2.sm Sm2 (fun i hi (q : 86 ≤ 79 + i ∧ 79 + i < 89) => by omega)).sm (A := fun a => a = 0) (fSm_I rfl) (fun i hi (q : 79 + i = 0) => by omega)⟩
      · show fDc (fsI σ2 0 10 (nI 3)) 86 (S, T, sd, pn, P, rn, R)
        exact Dc2
    · obtain ⟨⟨⟨m9, a9⟩, b9⟩, d9⟩ := Ic.2.2.2.2.1 q (show q < 2 by omega)
      show fYf _ _ D (iS (if q = 2 then (S, T, sd, pn, P, rn, R) else Im q)) (iT (if q = 2 then (S, T, sd, pn, P, rn, R) else Im q)) (iq (if q = 2 then (S, T, sd, pn, P, rn, R) else Im q)) ∧ fDc _ _ (if q = 2 then (S, T, sd, pn, P, rn, R) else Im q)
      rw [if_neg e]
      exact ⟨⟨⟨m9, a9.sm A9 (fun i hi q9 => by omega)⟩, b9.sm A9 (fun i hi q9 => by omega)⟩, d9.cg (A9.i (fun q9 => by omega)) (A9.i (fun q9 => by omega)) (A9.i (fun q9 => by omega))⟩
