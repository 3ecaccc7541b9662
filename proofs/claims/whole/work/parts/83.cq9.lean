def fRsY : Nat → Prop := fun a => a = 0 ∨ (15 ≤ a ∧ a ≤ 21) ∨ (29 ≤ a ∧ a < 32)
set_option maxRecDepth 20000 in
theorem t_X9_restoreN {g : fGP} {d : Nat} {σ : fAH} {Q : fRes → fAH → Prop} {x : fXS}  (Ms : fMs g σ) (ok : fOK x) (Ic : fIc σ x) (hi : xm x = 0) (h : Q (.inl (some (.int (-1)))) σ) : fEv g (d + 1) mX9_restore 0 (fent [.ref 0] 1) [] σ Q := by
  obtain ⟨D, ⟨S, T, sd, pn, P, rn, R⟩, B, tp, pl, im, Im⟩ := x
  have hD : fWD D := ok.1
  have hW : fWS D S := ok.2.1.1
  have hC : fWC D S := ok.2.1.2.1
  have hN : fWN S 0 0 := ok.2.1.2.2.1
  have Gr : fGr σ 2 D := Ic.1
  obtain ⟨⟨m, Yr⟩, Yt⟩ : fYf σ 15 D S T sd := Ic.2.1
  have Gs := Ms.ground (k := 2) (by decide)
  have Ys := Ms.yard (k := 15) (by decide)
  obtain ⟨⟨g0, g1, g2, g3, g4, g5⟩, ⟨gn, gK⟩, ⟨gr0, gr1, gr2, gr3, gr4⟩⟩ := id Gs
  obtain ⟨⟨y0, y1, y2, y3, y4, y5, y6⟩, ⟨yn, yK⟩, ⟨yr0, yr1, yr2, yr3, yr4, yr5, yr6⟩⟩ := id Ys
  obtain ⟨t0, t1, t2, t3, t4, t5, t6⟩ := id hD.1
  have np := hW.n hD
  have n5 := hW.2.2.2.2
  have tp6 : tp ≤ 600 := ok.2.2.2.1
  have im3 : im ≤ 3 := ok.2.2.2.2.1
  have pn3 : pn ≤ 30 := ok.2.1.2.2.2.1
  have rn6 : rn ≤ 60 := ok.2.1.2.2.2.2.2.1
  have Dc : fDc σ 29 (S, T, sd, pn, P, rn, R) := Ic.2.2.1
  have w52 := hW.1
  have hi : im = 0 := hi
  show fEv g (d + 1) mX9_restore 0 [some (.ref 0)] [] σ Q
  refine e_aload_n dX9_restore_0 rfl rfl ?_
  refine e_getI dX9_restore_1 fl_RX9_63 (Ms.s 0 rfl) (Ms.n (by decide)) rfl ?_
  refine e_int (nI im) Ic.2.2.2.1.2.2.2 ?_
  refine e_iconst (nI 1) dX9_restore_4 (by decide) ?_
  refine e_icmp_ge 10 dX9_restore_5 (by decide) (fun c => absurd c (fun q => absurd ((nI_le' (by omega) (by omega)).mp q) (by omega))) (fun _ => ?_)
  refine e_iconst (-1) dX9_restore_8 (by decide) ?_
  exact e_ireturn .int dX9_restore_9 rfl rfl h
set_option maxRecDepth 20000 in
theorem t_X9_restore {g : fGP} {d : Nat} {σ : fAH} {Q : fRes → fAH → Prop} {x : fXS} (Ms : fMs g σ) (ok : fOK x) (Ic : fIc σ x) (hi : 0 < xm x) (h : ∀ σ', fSm fClA σ σ' → fIc σ' (xRst x) → Q (.inl (some (.int (nI (xm x - 1))))) σ') : fEv g (d + 1) mX9_restore 0 (fent [.ref 0] 1) [] σ Q := by
  obtain ⟨D, ⟨S, T, sd, pn, P, rn, R⟩, B, tp, pl, im, Im⟩ := x
  have hD : fWD D := ok.1
  have hW : fWS D S := ok.2.1.1
  have hC : fWC D S := ok.2.1.2.1
  have hN : fWN S 0 0 := ok.2.1.2.2.1
  have Gr : fGr σ 2 D := Ic.1
  obtain ⟨⟨m, Yr⟩, Yt⟩ : fYf σ 15 D S T sd := Ic.2.1
  have Gs := Ms.ground (k := 2) (by decide)
  have Ys := Ms.yard (k := 15) (by decide)
  obtain ⟨⟨g0, g1, g2, g3, g4, g5⟩, ⟨gn, gK⟩, ⟨gr0, gr1, gr2, gr3, gr4⟩⟩ := id Gs
  obtain ⟨⟨y0, y1, y2, y3, y4, y5, y6⟩, ⟨yn, yK⟩, ⟨yr0, yr1, yr2, yr3, yr4, yr5, yr6⟩⟩ := id Ys
  obtain ⟨t0, t1, t2, t3, t4, t5, t6⟩ := id hD.1
  have np := hW.n hD
  have n5 := hW.2.2.2.2
  have tp6 : tp ≤ 600 := ok.2.2.2.1
  have im3 : im ≤ 3 := ok.2.2.2.2.1
  have pn3 : pn ≤ 30 := ok.2.1.2.2.2.1
  have rn6 : rn ≤ 60 := ok.2.1.2.2.2.2.2.1
  have Dc : fDc σ 29 (S, T, sd, pn, P, rn, R) := Ic.2.2.1
  have w52 := hW.1
  have hi : 0 < im := hi
  rcases (show im = 1 ∨ im = 2 ∨ im = 3 by omega) with rfl | rfl | rfl
  · have hOj : fOI D (Im 0) := ok.2.2.2.2.2 0 (show 0 < 1 by decide)
    have hWj := hOj.1
    have hpj := hOj.2.2.2.1
    obtain ⟨⟨⟨mj, Yrj⟩, Ytj⟩, Dcj⟩ : fYf σ 59 D (iS (Im 0)) (iT (Im 0)) (iq (Im 0)) ∧ fDc σ 66 (Im 0) := Ic.2.2.2.2.1 0 (show 0 < 1 by decide)
    show fEv g (d + 1) mX9_restore 0 [some (.ref 0)] [] σ Q
    refine e_aload_n dX9_restore_0 rfl rfl ?_
    refine e_getI dX9_restore_1 fl_RX9_63 (Ms.s 0 rfl) (Ms.n (by decide)) rfl ?_
    refine e_int (nI 1) Ic.2.2.2.1.2.2.2 ?_
    refine e_iconst (nI 1) dX9_restore_4 (by decide) ?_
    refine e_icmp_ge 10 dX9_restore_5 (by decide) (fun _ => ?_) (fun c => absurd c (by decide))
    refine e_aload_n dX9_restore_10 rfl rfl ?_
    refine e_dup dX9_restore_11 rfl ?_
    refine e_getI dX9_restore_12 fl_RX9_63 (Ms.s 0 rfl) (Ms.n (by decide)) rfl ?_
    refine e_int (nI 1) Ic.2.2.2.1.2.2.2 ?_
    refine e_iconst (nI 1) dX9_restore_15 (by decide) ?_
    refine e_isub dX9_restore_16 ?_
    refine e_int (nI 0) (by decide) ?_
    refine e_putI dX9_restore_17 fl_RX9_63 (Ms.s 0 rfl) (Ms.n (by decide)) rfl rfl ?_
    refine e_aload_n dX9_restore_20 rfl rfl ?_
    refine e_getR (q := 15) dX9_restore_21 fl_RX9_41 (Ms.s 0 rfl) (Ms.n (by decide)) rfl (Ms.r 0 5 rfl) (by unfold fscr; omega) ?_
    refine e_aload_n dX9_restore_24 rfl rfl ?_
    refine e_getR (q := 32) dX9_restore_25 fl_RX9_55 (Ms.s 0 rfl) (Ms.n (by decide)) rfl (Ms.r 0 8 rfl) (by unfold fscr; omega) ?_
    refine e_aload_n dX9_restore_28 rfl rfl ?_
    refine e_getI dX9_restore_29 fl_RX9_63 (Ms.s 0 rfl) (Ms.n (by decide)) rfl ?_
    refine e_int (nI 0) (by rw [fI_I, if_pos ⟨rfl, rfl⟩]) ?_
    refine e_aaload (q := 59) 0 dX9_restore_32 (Ms.s 32 rfl) (by decide) (Ms.n (by decide)) rfl (by omega) (by decide) (Ms.r 32 0 rfl) (by unfold fscr; omega) ?_
    refine e_callV (k := 15) [.ref 59] dX9_restore_33 cc_X8_copyFrom lk_RX9_323 im_X8_copyFrom se_X8_copyFrom (by decide) (Ms.s 15 rfl) (Ms.n (by decide)) rfl (Nat.le_of_ble_eq_true rfl) (Nat.le_of_ble_eq_true rfl) ?_
    refine t_X8_copyFrom (σ := fsI σ 0 10 (nI 0)) (k := 15) (j := 59) Ms ww9 (by decide) (by decide) hD Yrj Ytj hWj (fun σ1 Sm1 Yf1 => fK_v ?_)
    show fEv g _ mX9_restore 36 [some (.ref 0)] [] σ1 Q
    have Ms1 := (show fMs g (fsI σ 0 10 (nI 0)) from Ms).sm Sm1
    have Dc1 : fDc σ1 66 (Im 0) := (show fDc (fsI σ 0 10 (nI 0)) 66 (Im 0) from Dcj).cg (Sm1.i (fun (q : 15 ≤ 66 ∧ 66 ≤ 15 + 6) => by omega)) (Sm1.i (fun (q : 15 ≤ 66 + 1 ∧ 66 + 1 ≤ 15 + 6) => by omega)) (Sm1.i (fun (q : 15 ≤ 66 + 2 ∧ 66 + 2 ≤ 15 + 6) => by omega))
    refine e_aload_n dX9_restore_36 rfl rfl ?_
    refine e_getR (q := 29) dX9_restore_37 fl_RX9_51 (Ms1.s 0 rfl) (Ms1.n (by decide)) rfl (Ms1.r 0 7 rfl) (by unfold fscr; omega) ?_
    refine e_aload_n dX9_restore_40 rfl rfl ?_
    refine e_getR (q := 33) dX9_restore_41 fl_RX9_59 (Ms1.s 0 rfl) (Ms1.n (by decide)) rfl (Ms1.r 0 9 rfl) (by unfold fscr; omega) ?_
    refine e_aload_n dX9_restore_44 rfl rfl ?_
    refine e_getI dX9_restore_45 fl_RX9_63 (Ms1.s 0 rfl) (Ms1.n (by decide)) rfl ?_
    refine e_int (nI 0) ((Sm1.i (fun (q : 15 ≤ 0 ∧ 0 ≤ 15 + 6) => by omega) 10).trans (by rw [fI_I, if_pos ⟨rfl, rfl⟩])) ?_
    refine e_aaload (q := 66) 0 dX9_restore_48 (Ms1.s 33 rfl) (by decide) (Ms1.n (by decide)) rfl (by omega) (by decide) (Ms1.r 33 0 rfl) (by unfold fscr; omega) ?_
    refine e_callV (k := 29) [.ref 66] dX9_restore_49 cc_X0_copyFrom lk_RX9_326 im_X0_copyFrom se_X0_copyFrom (by decide) (Ms1.s 29 rfl) (Ms1.n (by decide)) rfl (Nat.le_of_ble_eq_true rfl) (Nat.le_of_ble_eq_true rfl) ?_
    refine t_X0_cp_29_66 Ms1 hpj Dc1 (fun σ2 Sm2 Dc2 => fK_v ?_)
    show fEv g _ mX9_restore 52 [some (.ref 0)] [] σ2 Q
    have Ms2 := Ms1.sm Sm2
    refine e_aload_n dX9_restore_52 rfl rfl ?_
    refine e_iconst (nI 0) dX9_restore_53 (by decide) ?_
    refine e_putZ dX9_restore_54 fl_RX9_83 (Ms2.s 0 rfl) (Ms2.n (by decide)) rfl rfl (by decide) ?_
    refine e_aload_n dX9_restore_57 rfl rfl ?_
    refine e_getI dX9_restore_58 fl_RX9_63 (Ms2.s 0 rfl) (Ms2.n (by decide)) rfl ?_
    refine e_int (nI 0) (by rw [fI_I, if_neg (by omega)]; exact ((Sm2.i (fun (q : 29 ≤ 0 ∧ 0 < 32) => by omega) 10).trans ((Sm1.i (fun (q : 15 ≤ 0 ∧ 0 ≤ 15 + 6) => by omega) 10).trans (by rw [fI_I, if_pos ⟨rfl, rfl⟩])))) ?_
    have A9 : fSm fRsY σ (fsI σ2 0 14 (nI 0)) := (((fSm_I (A := fRsY) (Or.inl rfl)).tr (Sm1.to (fun a (q : 15 ≤ a ∧ a ≤ 15 + 6) => Or.inr (Or.inl (by omega))))).tr (Sm2.to (fun a (q : 29 ≤ a ∧ a < 32) => Or.inr (Or.inr q)))).tr (fSm_I (Or.inl rfl))
    have k9 : ∀ q, q ≠ 14 → fI (fsI σ2 0 14 (nI 0)) 0 q = fI (fsI σ 0 10 (nI 0)) 0 q := fun q hq => by rw [fI_I, if_neg (by omega)]; exact (Sm2.i (fun (q : 29 ≤ 0 ∧ 0 < 32) => by omega) q).trans (Sm1.i (fun (q : 15 ≤ 0 ∧ 0 ≤ 15 + 6) => by omega) q)
    refine e_ireturn .int dX9_restore_61 rfl rfl (h _ (A9.to (fun a q => by unfold fRsY at q; unfold fClA; omega)) ⟨Gr.sm A9 (fun i hi q => by unfold fRsY at q; omega), ?_, Dc2, ⟨(k9 1 (by decide)).trans (by rw [fI_I, if_neg (by omega)]; exact Ic.2.2.2.1.1), fun i hi => (A9.i (fun q => by unfold fRsY at q; omega) i).trans (Ic.2.2.2.1.2.1 i hi), (k9 2 (by decide)).trans (by rw [fI_I, if_neg (by omega)]; exact Ic.2.2.2.1.2.2.1), (k9 10 (by decide)).trans (by rw [fI_I, if_pos ⟨rfl, rfl⟩]; rfl)⟩, fun q hq => ?_, Or.inl (by rw [fI_I, if_pos ⟨rfl, rfl⟩]), Ic.2.2.2.2.2.2.sm A9 (fun a q => by unfold fRsY at q; omega)⟩)
    · exact ⟨by obtain ⟨m9, h9⟩ := Yf1.1; exact ⟨m9, (h9.sm Sm2 (fun i hi (q : 29 ≤ 15 + i ∧ 15 + i < 32) => by omega)).sm (A := fun a => a = 0) (fSm_I rfl) (fun i hi (q : 15 + i = 0) => by omega)⟩, (Yf1.2.sm Sm2 (fun i hi (q : 29 ≤ 15 + i ∧ 15 + i < 32) => by omega)).sm (A := fun a => a = 0) (fSm_I rfl) (fun i hi (q : 15 + i = 0) => by omega)⟩
    · have hq : q < 0 := hq
      obtain ⟨⟨⟨m9, a9⟩, b9⟩, d9⟩ := Ic.2.2.2.2.1 q (show q < 1 by omega)
      exact ⟨⟨⟨m9, a9.sm A9 (fun i hi q9 => by unfold fRsY at q9; omega)⟩, b9.sm A9 (fun i hi q9 => by unfold fRsY at q9; omega)⟩, d9.cg (A9.i (fun q9 => by unfold fRsY at q9; omega)) (A9.i (fun q9 => by unfold fRsY at q9; omega)) (A9.i (fun q9 => by unfold fRsY at q9; omega))⟩
  · have hOj : fOI D (Im 1) := ok.2.2.2.2.2 1 (show 1 < 2 by decide)
    have hWj := hOj.1
    have hpj := hOj.2.2.2.1
    obtain ⟨⟨⟨mj, Yrj⟩, Ytj⟩, Dcj⟩ : fYf σ 69 D (iS (Im 1)) (iT (Im 1)) (iq (Im 1)) ∧ fDc σ 76 (Im 1) := Ic.2.2.2.2.1 1 (show 1 < 2 by decide)
    show fEv g (d + 1) mX9_restore 0 [some (.ref 0)] [] σ Q
    refine e_aload_n dX9_restore_0 rfl rfl ?_
    refine e_getI dX9_restore_1 fl_RX9_63 (Ms.s 0 rfl) (Ms.n (by decide)) rfl ?_
    refine e_int (nI 2) Ic.2.2.2.1.2.2.2 ?_
    refine e_iconst (nI 1) dX9_restore_4 (by decide) ?_
    refine e_icmp_ge 10 dX9_restore_5 (by decide) (fun _ => ?_) (fun c => absurd c (by decide))
    refine e_aload_n dX9_restore_10 rfl rfl ?_
    refine e_dup dX9_restore_11 rfl ?_
    refine e_getI dX9_restore_12 fl_RX9_63 (Ms.s 0 rfl) (Ms.n (by decide)) rfl ?_
    refine e_int (nI 2) Ic.2.2.2.1.2.2.2 ?_
    refine e_iconst (nI 1) dX9_restore_15 (by decide) ?_
    refine e_isub dX9_restore_16 ?_
    refine e_int (nI 1) (by decide) ?_
    refine e_putI dX9_restore_17 fl_RX9_63 (Ms.s 0 rfl) (Ms.n (by decide)) rfl rfl ?_
    refine e_aload_n dX9_restore_20 rfl rfl ?_
    refine e_getR (q := 15) dX9_restore_21 fl_RX9_41 (Ms.s 0 rfl) (Ms.n (by decide)) rfl (Ms.r 0 5 rfl) (by unfold fscr; omega) ?_
    refine e_aload_n dX9_restore_24 rfl rfl ?_
    refine e_getR (q := 32) dX9_restore_25 fl_RX9_55 (Ms.s 0 rfl) (Ms.n (by decide)) rfl (Ms.r 0 8 rfl) (by unfold fscr; omega) ?_
    refine e_aload_n dX9_restore_28 rfl rfl ?_
    refine e_getI dX9_restore_29 fl_RX9_63 (Ms.s 0 rfl) (Ms.n (by decide)) rfl ?_
    refine e_int (nI 1) (by rw [fI_I, if_pos ⟨rfl, rfl⟩]) ?_
    refine e_aaload (q := 69) 1 dX9_restore_32 (Ms.s 32 rfl) (by decide) (Ms.n (by decide)) rfl (by omega) (by decide) (Ms.r 32 1 rfl) (by unfold fscr; omega) ?_
    refine e_callV (k := 15) [.ref 69] dX9_restore_33 cc_X8_copyFrom lk_RX9_323 im_X8_copyFrom se_X8_copyFrom (by decide) (Ms.s 15 rfl) (Ms.n (by decide)) rfl (Nat.le_of_ble_eq_true rfl) (Nat.le_of_ble_eq_true rfl) ?_
    refine t_X8_copyFrom (σ := fsI σ 0 10 (nI 1)) (k := 15) (j := 69) Ms ww9 (by decide) (by decide) hD Yrj Ytj hWj (fun σ1 Sm1 Yf1 => fK_v ?_)
    show fEv g _ mX9_restore 36 [some (.ref 0)] [] σ1 Q
    have Ms1 := (show fMs g (fsI σ 0 10 (nI 1)) from Ms).sm Sm1
    have Dc1 : fDc σ1 76 (Im 1) := (show fDc (fsI σ 0 10 (nI 1)) 76 (Im 1) from Dcj).cg (Sm1.i (fun (q : 15 ≤ 76 ∧ 76 ≤ 15 + 6) => by omega)) (Sm1.i (fun (q : 15 ≤ 76 + 1 ∧ 76 + 1 ≤ 15 + 6) => by omega)) (Sm1.i (fun (q : 15 ≤ 76 + 2 ∧ 76 + 2 ≤ 15 + 6) => by omega))
    refine e_aload_n dX9_restore_36 rfl rfl ?_
    refine e_getR (q := 29) dX9_restore_37 fl_RX9_51 (Ms1.s 0 rfl) (Ms1.n (by decide)) rfl (Ms1.r 0 7 rfl) (by unfold fscr; omega) ?_
    refine e_aload_n dX9_restore_40 rfl rfl ?_
    refine e_getR (q := 33) dX9_restore_41 fl_RX9_59 (Ms1.s 0 rfl) (Ms1.n (by decide)) rfl (Ms1.r 0 9 rfl) (by unfold fscr; omega) ?_
    refine e_aload_n dX9_restore_44 rfl rfl ?_
    refine e_getI dX9_restore_45 fl_RX9_63 (Ms1.s 0 rfl) (Ms1.n (by decide)) rfl ?_
    refine e_int (nI 1) ((Sm1.i (fun (q : 15 ≤ 0 ∧ 0 ≤ 15 + 6) => by omega) 10).trans (by rw [fI_I, if_pos ⟨rfl, rfl⟩])) ?_
    refine e_aaload (q := 76) 1 dX9_restore_48 (Ms1.s 33 rfl) (by decide) (Ms1.n (by decide)) rfl (by omega) (by decide) (Ms1.r 33 1 rfl) (by unfold fscr; omega) ?_
    refine e_callV (k := 29) [.ref 76] dX9_restore_49 cc_X0_copyFrom lk_RX9_326 im_X0_copyFrom se_X0_copyFrom (by decide) (Ms1.s 29 rfl) (Ms1.n (by decide)) rfl (Nat.le_of_ble_eq_true rfl) (Nat.le_of_ble_eq_true rfl) ?_
    refine t_X0_cp_29_76 Ms1 hpj Dc1 (fun σ2 Sm2 Dc2 => fK_v ?_)
    show fEv g _ mX9_restore 52 [some (.ref 0)] [] σ2 Q
    have Ms2 := Ms1.sm Sm2
    refine e_aload_n dX9_restore_52 rfl rfl ?_
    refine e_iconst (nI 0) dX9_restore_53 (by decide) ?_
    refine e_putZ dX9_restore_54 fl_RX9_83 (Ms2.s 0 rfl) (Ms2.n (by decide)) rfl rfl (by decide) ?_
    refine e_aload_n dX9_restore_57 rfl rfl ?_
    refine e_getI dX9_restore_58 fl_RX9_63 (Ms2.s 0 rfl) (Ms2.n (by decide)) rfl ?_
    refine e_int (nI 1) (by rw [fI_I, if_neg (by omega)]; exact ((Sm2.i (fun (q : 29 ≤ 0 ∧ 0 < 32) => by omega) 10).trans ((Sm1.i (fun (q : 15 ≤ 0 ∧ 0 ≤ 15 + 6) => by omega) 10).trans (by rw [fI_I, if_pos ⟨rfl, rfl⟩])))) ?_
    have A9 : fSm fRsY σ (fsI σ2 0 14 (nI 0)) := (((fSm_I (A := fRsY) (Or.inl rfl)).tr (Sm1.to (fun a (q : 15 ≤ a ∧ a ≤ 15 + 6) => Or.inr (Or.inl (by omega))))).tr (Sm2.to (fun a (q : 29 ≤ a ∧ a < 32) => Or.inr (Or.inr q)))).tr (fSm_I (Or.inl rfl))
    have k9 : ∀ q, q ≠ 14 → fI (fsI σ2 0 14 (nI 0)) 0 q = fI (fsI σ 0 10 (nI 1)) 0 q := fun q hq => by rw [fI_I, if_neg (by omega)]; exact (Sm2.i (fun (q : 29 ≤ 0 ∧ 0 < 32) => by omega) q).trans (Sm1.i (fun (q : 15 ≤ 0 ∧ 0 ≤ 15 + 6) => by omega) q)
    refine e_ireturn .int dX9_restore_61 rfl rfl (h _ (A9.to (fun a q => by unfold fRsY at q; unfold fClA; omega)) ⟨Gr.sm A9 (fun i hi q => by unfold fRsY at q; omega), ?_, Dc2, ⟨(k9 1 (by decide)).trans (by rw [fI_I, if_neg (by omega)]; exact Ic.2.2.2.1.1), fun i hi => (A9.i (fun q => by unfold fRsY at q; omega) i).trans (Ic.2.2.2.1.2.1 i hi), (k9 2 (by decide)).trans (by rw [fI_I, if_neg (by omega)]; exact Ic.2.2.2.1.2.2.1), (k9 10 (by decide)).trans (by rw [fI_I, if_pos ⟨rfl, rfl⟩]; rfl)⟩, fun q hq => ?_, Or.inl (by rw [fI_I, if_pos ⟨rfl, rfl⟩]), Ic.2.2.2.2.2.2.sm A9 (fun a q => by unfold fRsY at q; omega)⟩)
    · exact ⟨by obtain ⟨m9, h9⟩ := Yf1.1; exact ⟨m9, (h9.sm Sm2 (fun i hi (q : 29 ≤ 15 + i ∧ 15 + i < 32) => by omega)).sm (A := fun a => a = 0) (fSm_I rfl) (fun i hi (q : 15 + i = 0) => by omega)⟩, (Yf1.2.sm Sm2 (fun i hi (q : 29 ≤ 15 + i ∧ 15 + i < 32) => by omega)).sm (A := fun a => a = 0) (fSm_I rfl) (fun i hi (q : 15 + i = 0) => by omega)⟩
    · have hq : q < 1 := hq
      obtain ⟨⟨⟨m9, a9⟩, b9⟩, d9⟩ := Ic.2.2.2.2.1 q (show q < 2 by omega)
      exact ⟨⟨⟨m9, a9.sm A9 (fun i hi q9 => by unfold fRsY at q9; omega)⟩, b9.sm A9 (fun i hi q9 => by unfold fRsY at q9; omega)⟩, d9.cg (A9.i (fun q9 => by unfold fRsY at q9; omega)) (A9.i (fun q9 => by unfold fRsY at q9; omega)) (A9.i (fun q9 => by unfold fRsY at q9; omega))⟩
  · have hOj : fOI D (Im 2) := ok.2.2.2.2.2 2 (show 2 < 3 by decide)
    have hWj := hOj.1
    have hpj := hOj.2.2.2.1
    obtain ⟨⟨⟨mj, Yrj⟩, Ytj⟩, Dcj⟩ : fYf σ 79 D (iS (Im 2)) (iT (Im 2)) (iq (Im 2)) ∧ fDc σ 86 (Im 2) := Ic.2.2.2.2.1 2 (show 2 < 3 by decide)
    show fEv g (d + 1) mX9_restore 0 [some (.ref 0)] [] σ Q
    refine e_aload_n dX9_restore_0 rfl rfl ?_
    refine e_getI dX9_restore_1 fl_RX9_63 (Ms.s 0 rfl) (Ms.n (by decide)) rfl ?_
    refine e_int (nI 3) Ic.2.2.2.1.2.2.2 ?_
    refine e_iconst (nI 1) dX9_restore_4 (by decide) ?_
    refine e_icmp_ge 10 dX9_restore_5 (by decide) (fun _ => ?_) (fun c => absurd c (by decide))
    refine e_aload_n dX9_restore_10 rfl rfl ?_
    refine e_dup dX9_restore_11 rfl ?_
    refine e_getI dX9_restore_12 fl_RX9_63 (Ms.s 0 rfl) (Ms.n (by decide)) rfl ?_
    refine e_int (nI 3) Ic.2.2.2.1.2.2.2 ?_
    refine e_iconst (nI 1) dX9_restore_15 (by decide) ?_
    refine e_isub dX9_restore_16 ?_
    refine e_int (nI 2) (by decide) ?_
    refine e_putI dX9_restore_17 fl_RX9_63 (Ms.s 0 rfl) (Ms.n (by decide)) rfl rfl ?_
    refine e_aload_n dX9_restore_20 rfl rfl ?_
    refine e_getR (q := 15) dX9_restore_21 fl_RX9_41 (Ms.s 0 rfl) (Ms.n (by decide)) rfl (Ms.r 0 5 rfl) (by unfold fscr; omega) ?_
    refine e_aload_n dX9_restore_24 rfl rfl ?_
    refine e_getR (q := 32) dX9_restore_25 fl_RX9_55 (Ms.s 0 rfl) (Ms.n (by decide)) rfl (Ms.r 0 8 rfl) (by unfold fscr; omega) ?_
    refine e_aload_n dX9_restore_28 rfl rfl ?_
    refine e_getI dX9_restore_29 fl_RX9_63 (Ms.s 0 rfl) (Ms.n (by decide)) rfl ?_
    refine e_int (nI 2) (by rw [fI_I, if_pos ⟨rfl, rfl⟩]) ?_
    refine e_aaload (q := 79) 2 dX9_restore_32 (Ms.s 32 rfl) (by decide) (Ms.n (by decide)) rfl (by omega) (by decide) (Ms.r 32 2 rfl) (by unfold fscr; omega) ?_
    refine e_callV (k := 15) [.ref 79] dX9_restore_33 cc_X8_copyFrom lk_RX9_323 im_X8_copyFrom se_X8_copyFrom (by decide) (Ms.s 15 rfl) (Ms.n (by decide)) rfl (Nat.le_of_ble_eq_true rfl) (Nat.le_of_ble_eq_true rfl) ?_
    refine t_X8_copyFrom (σ := fsI σ 0 10 (nI 2)) (k := 15) (j := 79) Ms ww9 (by decide) (by decide) hD Yrj Ytj hWj (fun σ1 Sm1 Yf1 => fK_v ?_)
    show fEv g _ mX9_restore 36 [some (.ref 0)] [] σ1 Q
    have Ms1 := (show fMs g (fsI σ 0 10 (nI 2)) from Ms).sm Sm1
    have Dc1 : fDc σ1 86 (Im 2) := (show fDc (fsI σ 0 10 (nI 2)) 86 (Im 2) from Dcj).cg (Sm1.i (fun (q : 15 ≤ 86 ∧ 86 ≤ 15 + 6) => by omega)) (Sm1.i (fun (q : 15 ≤ 86 + 1 ∧ 86 + 1 ≤ 15 + 6) => by omega)) (Sm1.i (fun (q : 15 ≤ 86 + 2 ∧ 86 + 2 ≤ 15 + 6) => by omega))
    refine e_aload_n dX9_restore_36 rfl rfl ?_
    refine e_getR (q := 29) dX9_restore_37 fl_RX9_51 (Ms1.s 0 rfl) (Ms1.n (by decide)) rfl (Ms1.r 0 7 rfl) (by unfold fscr; omega) ?_
    refine e_aload_n dX9_restore_40 rfl rfl ?_
    refine e_getR (q := 33) dX9_restore_41 fl_RX9_59 (Ms1.s 0 rfl) (Ms1.n (by decide)) rfl (Ms1.r 0 9 rfl) (by unfold fscr; omega) ?_
    refine e_aload_n dX9_restore_44 rfl rfl ?_
    refine e_getI dX9_restore_45 fl_RX9_63 (Ms1.s 0 rfl) (Ms1.n (by decide)) rfl ?_
    refine e_int (nI 2) ((Sm1.i (fun (q : 15 ≤ 0 ∧ 0 ≤ 15 + 6) => by omega) 10).trans (by rw [fI_I, if_pos ⟨rfl, rfl⟩])) ?_
    refine e_aaload (q := 86) 2 dX9_restore_48 (Ms1.s 33 rfl) (by decide) (Ms1.n (by decide)) rfl (by omega) (by decide) (Ms1.r 33 2 rfl) (by unfold fscr; omega) ?_
    refine e_callV (k := 29) [.ref 86] dX9_restore_49 cc_X0_copyFrom lk_RX9_326 im_X0_copyFrom se_X0_copyFrom (by decide) (Ms1.s 29 rfl) (Ms1.n (by decide)) rfl (Nat.le_of_ble_eq_true rfl) (Nat.le_of_ble_eq_true rfl) ?_
    refine t_X0_cp_29_86 Ms1 hpj Dc1 (fun σ2 Sm2 Dc2 => fK_v ?_)
    show fEv g _ mX9_restore 52 [some (.ref 0)] [] σ2 Q
    have Ms2 := Ms1.sm Sm2
    refine e_aload_n dX9_restore_52 rfl rfl ?_
    refine e_iconst (nI 0) dX9_restore_53 (by decide) ?_
    refine e_putZ dX9_restore_54 fl_RX9_83 (Ms2.s 0 rfl) (Ms2.n (by decide)) rfl rfl (by decide) ?_
    refine e_aload_n dX9_restore_57 rfl rfl ?_
    refine e_getI dX9_restore_58 fl_RX9_63 (Ms2.s 0 rfl) (Ms2.n (by decide)) rfl ?_
    refine e_int (nI 2) (by rw [fI_I, if_neg (by omega)]; exact ((Sm2.i (fun (q : 29 ≤ 0 ∧ 0 < 32) => by omega) 10).trans ((Sm1.i (fun (q : 15 ≤ 0 ∧ 0 ≤ 15 + 6) => by omega) 10).trans (by rw [fI_I, if_pos ⟨rfl, rfl⟩])))) ?_
    have A9 : fSm fRsY σ (fsI σ2 0 14 (nI 0)) := (((fSm_I (A := fRsY) (Or.inl rfl)).tr (Sm1.to (fun a (q : 15 ≤ a ∧ a ≤ 15 + 6) => Or.inr (Or.inl (by omega))))).tr (Sm2.to (fun a (q : 29 ≤ a ∧ a < 32) => Or.inr (Or.inr q)))).tr (fSm_I (Or.inl rfl))
    have k9 : ∀ q, q ≠ 14 → fI (fsI σ2 0 14 (nI 0)) 0 q = fI (fsI σ 0 10 (nI 2)) 0 q := fun q hq => by rw [fI_I, if_neg (by omega)]; exact (Sm2.i (fun (q : 29 ≤ 0 ∧ 0 < 32) => by omega) q).trans (Sm1.i (fun (q : 15 ≤ 0 ∧ 0 ≤ 15 + 6) => by omega) q)
    refine e_ireturn .int dX9_restore_61 rfl rfl (h _ (A9.to (fun a q => by unfold fRsY at q; unfold fClA; omega)) ⟨Gr.sm A9 (fun i hi q => by unfold fRsY at q; omega), ?_, Dc2, ⟨(k9 1 (by decide)).trans (by rw [fI_I, if_neg (by omega)]; exact Ic.2.2.2.1.1), fun i hi => (A9.i (fun q => by unfold fRsY at q; omega) i).trans (Ic.2.2.2.1.2.1 i hi), (k9 2 (by decide)).trans (by rw [fI_I, if_neg (by omega)]; exact Ic.2.2.2.1.2.2.1), (k9 10 (by decide)).trans (by rw [fI_I, if_pos ⟨rfl, rfl⟩]; rfl)⟩, fun q hq => ?_, Or.inl (by rw [fI_I, if_pos ⟨rfl, rfl⟩]), Ic.2.2.2.2.2.2.sm A9 (fun a q => by unfold fRsY at q; omega)⟩)
    · exact ⟨by obtain ⟨m9, h9⟩ := Yf1.1; exact ⟨m9, (h9.sm Sm2 (fun i hi (q : 29 ≤ 15 + i ∧ 15 + i < 32) => by omega)).sm (A := fun a => a = 0) (fSm_I rfl) (fun i hi (q : 15 + i = 0) => by omega)⟩, (Yf1.2.sm Sm2 (fun i hi (q : 29 ≤ 15 + i ∧ 15 + i < 32) => by omega)).sm (A := fun a => a = 0) (fSm_I rfl) (fun i hi (q : 15 + i = 0) => by omega)⟩
    · have hq : q < 2 := hq
      obtain ⟨⟨⟨m9, a9⟩, b9⟩, d9⟩ := Ic.2.2.2.2.1 q (show q < 3 by omega)
      exact ⟨⟨⟨m9, a9.sm A9 (fun i hi q9 => by unfold fRsY at q9; omega)⟩, b9.sm A9 (fun i hi q9 => by unfold fRsY at q9; omega)⟩, d9.cg (A9.i (fun q9 => by unfold fRsY at q9; omega)) (A9.i (fun q9 => by unfold fRsY at q9; omega)) (A9.i (fun q9 => by unfold fRsY at q9; omega))⟩
set_option maxRecDepth 20000 in
theorem t_X9_quarry {g : fGP} {d : Nat} {σ : fAH} {Q : fRes → fAH → Prop} {x : fXS} {n : Nat}  (Ms : fMs g σ) (ok : fOK x) (Ic : fIc σ x) (hn : n ≤ xt x) (h : ∀ σ', fSm fClA σ σ' → fIc σ' (xQ n x) → Q (.inl (some (.int (xQv n x)))) σ') : fEv g (d + 8) mX9_quarry 0 (fent [.ref 0, .int (nI n)] 2) [] σ Q := by
  obtain ⟨D, ⟨S, T, sd, pn, P, rn, R⟩, B, tp, pl, im, Im⟩ := x
  have hD : fWD D := ok.1
  have hW : fWS D S := ok.2.1.1
  have hC : fWC D S := ok.2.1.2.1
  have hN : fWN S 0 0 := ok.2.1.2.2.1
  have Gr : fGr σ 2 D := Ic.1
  obtain ⟨⟨m, Yr⟩, Yt⟩ : fYf σ 15 D S T sd := Ic.2.1
  have Gs := Ms.ground (k := 2) (by decide)
  have Ys := Ms.yard (k := 15) (by decide)
  obtain ⟨⟨g0, g1, g2, g3, g4, g5⟩, ⟨gn, gK⟩, ⟨gr0, gr1, gr2, gr3, gr4⟩⟩ := id Gs
  obtain ⟨⟨y0, y1, y2, y3, y4, y5, y6⟩, ⟨yn, yK⟩, ⟨yr0, yr1, yr2, yr3, yr4, yr5, yr6⟩⟩ := id Ys
  obtain ⟨t0, t1, t2, t3, t4, t5, t6⟩ := id hD.1
  have np := hW.n hD
  have n5 := hW.2.2.2.2
  have tp6 : tp ≤ 600 := ok.2.2.2.1
  have im3 : im ≤ 3 := ok.2.2.2.2.1
  have pn3 : pn ≤ 30 := ok.2.1.2.2.2.1
  have rn6 : rn ≤ 60 := ok.2.1.2.2.2.2.2.1
  have Dc : fDc σ 29 (S, T, sd, pn, P, rn, R) := Ic.2.2.1
  have w52 := hW.1
  have hn : n ≤ tp := hn
  show fEv g (d + 8) mX9_quarry 0 [some (.ref 0), some (.int (nI n))] [] σ Q
  refine e_iload_n dX9_quarry_0 rfl rfl ?_
  refine e_if_lt 12 dX9_quarry_1 (by decide) (fun c => absurd c (fun q => absurd ((nI_zlt (by omega)).mp q) (by omega))) (fun _ => ?_)
  refine e_iload_n dX9_quarry_4 rfl rfl ?_
  refine e_aload_n dX9_quarry_5 rfl rfl ?_
  refine e_getI dX9_quarry_6 fl_RX9_13 (Ms.s 0 rfl) (Ms.n (by decide)) rfl ?_
  refine e_int (nI tp) Ic.2.2.2.1.1 ?_
  refine e_icmp_le 22 dX9_quarry_9 (by decide) (fun _ => ?_) (fun c => absurd ((nI_le' (by omega) (by omega)).mpr hn) c)
  refine e_aload_n dX9_quarry_22 rfl rfl ?_
  refine e_iconst (nI 0) dX9_quarry_23 (by decide) ?_
  refine e_putI dX9_quarry_24 fl_RX9_13 (Ms.s 0 rfl) (Ms.n (by decide)) rfl rfl ?_
  refine e_aload_n dX9_quarry_27 rfl rfl ?_
  refine e_getR (q := 8) dX9_quarry_28 fl_RX9_32 (Ms.s 0 rfl) (Ms.n (by decide)) rfl (Ms.r 0 4 rfl) (by unfold fscr; omega) ?_
  refine e_iload_n dX9_quarry_31 rfl rfl ?_
  refine e_callV (k := 8) [.int (nI n)] dX9_quarry_32 cc_X5_read lk_RX9_105 im_X5_read se_X5_read (by decide) (Ms.s 8 rfl) (Ms.n (by decide)) rfl (Nat.le_of_ble_eq_true rfl) (Nat.le_of_ble_eq_true rfl) ?_
  refine t_X5_read (σ := fsI σ 0 1 (nI 0)) (B := B) (n := n) Ms (fun i hi => ⟨Ic.2.2.2.1.2.1 i hi, ok.2.2.1 i⟩) (by omega) (fun σ1 Sm1 hs1 Gr1 => fK_v ?_)
  show fEv g _ mX9_quarry 35 [some (.ref 0), some (.int (nI n))] [] σ1 Q
  have e0 : mrd B n 61 (.inr (mbl B n 0)) 0 D0 = xq n (D, (S, T, sd, pn, P, rn, R), B, tp, pl, im, Im) := rfl
  rw [e0] at hs1 Gr1
  have Ms1 := (show fMs g (fsI σ 0 1 (nI 0)) from Ms).sm Sm1
  have A1 : fSm (fun a => a = 0 ∨ (8 ≤ a ∧ a < 15)) σ σ1 := (fSm_I (A := fun a => a = 0 ∨ (8 ≤ a ∧ a < 15)) (Or.inl rfl)).tr (Sm1.to (fun a q => Or.inr q))
  have k1 : ∀ j, fI σ1 0 j = fI (fsI σ 0 1 (nI 0)) 0 j := fun j => Sm1.i (fun q => by unfold fRdA at q; omega) j
  cases q9 : (xq n (D, (S, T, sd, pn, P, rn, R), B, tp, pl, im, Im)).1 with
  | inl c =>
    rw [q9] at hs1 Gr1
    obtain ⟨h19, h29, h39, h49, h59, a9, h69, h79⟩ : fI σ1 8 5 = nI c.1 ∧ fI σ1 8 6 = nI c.2 ∧ 1 ≤ c.1 ∧ c.1 ≤ 3 ∧ c.2 ≤ n ∧ ∃ a9, a9 ≤ n ∧ fI σ1 8 3 = nI a9 := hs1
    rw [(xQ_l q9).1, (xQ_l q9).2] at h
    refine e_aload_n dX9_quarry_35 rfl rfl ?_
    refine e_aload_n dX9_quarry_36 rfl rfl ?_
    refine e_getR (q := 8) dX9_quarry_37 fl_RX9_32 (Ms1.s 0 rfl) (Ms1.n (by decide)) rfl (Ms1.r 0 4 rfl) (by unfold fscr; omega) ?_
    refine e_getI dX9_quarry_40 fl_RX9_108 (Ms1.s 8 rfl) (Ms1.n (by decide)) rfl ?_
    refine e_int (nI c.2) h29 ?_
    refine e_putI dX9_quarry_43 fl_RX9_17 (Ms1.s 0 rfl) (Ms1.n (by decide)) rfl rfl ?_
    refine e_aload_n dX9_quarry_46 rfl rfl ?_
    refine e_getR (q := 8) dX9_quarry_47 fl_RX9_32 (Ms1.s 0 rfl) (Ms1.n (by decide)) rfl (Ms1.r 0 4 rfl) (by unfold fscr; omega) ?_
    refine e_getI dX9_quarry_50 fl_RX9_111 (Ms1.s 8 rfl) (Ms1.n (by decide)) rfl ?_
    refine e_int (nI c.1) (by rw [fI_I, if_neg (by omega)]; exact h19) ?_
    refine e_if_eq 67 dX9_quarry_53 (by decide) (fun c => absurd ((nI_z (by omega)).mp c) (by omega)) (fun _ => ?_)
    refine e_aload_n dX9_quarry_56 rfl rfl ?_
    refine e_getR (q := 8) dX9_quarry_57 fl_RX9_32 (Ms1.s 0 rfl) (Ms1.n (by decide)) rfl (Ms1.r 0 4 rfl) (by unfold fscr; omega) ?_
    refine e_getI dX9_quarry_60 fl_RX9_111 (Ms1.s 8 rfl) (Ms1.n (by decide)) rfl ?_
    refine e_int (nI c.1) (by rw [fI_I, if_neg (by omega)]; exact h19) ?_
    refine e_bipush (nI 10) dX9_quarry_63 (by decide) ?_
    refine e_isub dX9_quarry_65 ?_
    have A2 : fSm (fun a => a = 0 ∨ (8 ≤ a ∧ a < 15)) σ (fsI σ1 0 2 (nI c.2)) := A1.tr (fSm_I (Or.inl rfl))
    exact e_ireturn .int dX9_quarry_66 rfl rfl (h _ (A2.to (fun a q => by unfold fClA; omega)) (Ic.fr ok A2 (fun a q => by unfold fCsA; omega) (by rw [fI_I, if_neg (by omega), k1 10, fI_I, if_neg (by omega)]) (by rw [fI_I, if_neg (by omega), k1 1, fI_I, if_pos ⟨rfl, rfl⟩]) (by rw [fI_I, if_pos ⟨rfl, rfl⟩]) (Ic.2.2.2.2.2.1.cg (by rw [fI_I, if_neg (by omega), k1 14, fI_I, if_neg (by omega)]) (by rw [fI_I, if_neg (by omega), k1 15, fI_I, if_neg (by omega)]) (Sm1.j (fun q => by unfold fRdA at q; omega) 16)) (Ic.2.2.2.2.2.2.sm A2 (fun a q => by omega))))
  | inr e =>
    rw [q9] at hs1 Gr1
    obtain ⟨h69, h79, h89, h99⟩ : e ≤ n ∧ fI σ1 8 3 = nI e ∧ fI σ1 8 5 = nI 0 ∧ fI σ1 8 6 = -1 := hs1
    rw [(xQ_r q9).1, (xQ_r q9).2] at h
    have hD9 := xq_D q9
    have Gr9 := Gr1 e rfl
    generalize hDD : (xq n (D, (S, T, sd, pn, P, rn, R), B, tp, pl, im, Im)).2 = DD at h hD9 Gr9
    refine e_aload_n dX9_quarry_35 rfl rfl ?_
    refine e_aload_n dX9_quarry_36 rfl rfl ?_
    refine e_getR (q := 8) dX9_quarry_37 fl_RX9_32 (Ms1.s 0 rfl) (Ms1.n (by decide)) rfl (Ms1.r 0 4 rfl) (by unfold fscr; omega) ?_
    refine e_getI dX9_quarry_40 fl_RX9_108 (Ms1.s 8 rfl) (Ms1.n (by decide)) rfl ?_
    refine e_int ((-1)) h99 ?_
    refine e_putI dX9_quarry_43 fl_RX9_17 (Ms1.s 0 rfl) (Ms1.n (by decide)) rfl rfl ?_
    refine e_aload_n dX9_quarry_46 rfl rfl ?_
    refine e_getR (q := 8) dX9_quarry_47 fl_RX9_32 (Ms1.s 0 rfl) (Ms1.n (by decide)) rfl (Ms1.r 0 4 rfl) (by unfold fscr; omega) ?_
    refine e_getI dX9_quarry_50 fl_RX9_111 (Ms1.s 8 rfl) (Ms1.n (by decide)) rfl ?_
    refine e_int (nI 0) (by rw [fI_I, if_neg (by omega)]; exact h89) ?_
    refine e_if_eq 67 dX9_quarry_53 (by decide) (fun _ => ?_) (fun c => absurd rfl c)
    refine e_aload_n dX9_quarry_67 rfl rfl ?_
    refine e_getR (q := 2) dX9_quarry_68 fl_RX9_23 (Ms1.s 0 rfl) (Ms1.n (by decide)) rfl (Ms1.r 0 3 rfl) (by unfold fscr; omega) ?_
    refine e_aload_n dX9_quarry_71 rfl rfl ?_
    refine e_getR (q := 8) dX9_quarry_72 fl_RX9_32 (Ms1.s 0 rfl) (Ms1.n (by decide)) rfl (Ms1.r 0 4 rfl) (by unfold fscr; omega) ?_
    refine e_getR (q := 9) dX9_quarry_75 fl_RX9_114 (Ms1.s 8 rfl) (Ms1.n (by decide)) rfl (Ms1.r 8 1 rfl) (by unfold fscr; omega) ?_
    refine e_callV (k := 2) [.ref 9] dX9_quarry_78 cc_X3_copyFrom lk_RX9_117 im_X3_copyFrom se_X3_copyFrom (by decide) (Ms1.s 2 rfl) (Ms1.n (by decide)) rfl (Nat.le_of_ble_eq_true rfl) (Nat.le_of_ble_eq_true rfl) ?_
    refine t_X3_copyFrom (σ := fsI σ1 0 2 (-1)) Ms1 Gr9 hD9 (fun σ2 Sm2 Gr2 => fK_v ?_)
    show fEv g _ mX9_quarry 81 [some (.ref 0), some (.int (nI n))] [] σ2 Q
    have Ms2 := (show fMs g (fsI σ1 0 2 (-1)) from Ms1).sm Sm2
    refine e_aload_n dX9_quarry_81 rfl rfl ?_
    refine e_getR (q := 15) dX9_quarry_82 fl_RX9_41 (Ms2.s 0 rfl) (Ms2.n (by decide)) rfl (Ms2.r 0 5 rfl) (by unfold fscr; omega) ?_
    refine e_callV (k := 15) [] dX9_quarry_85 cc_X8_begin lk_RX9_120 im_X8_begin se_X8_begin (by decide) (Ms2.s 15 rfl) (Ms2.n (by decide)) rfl (Nat.le_of_ble_eq_true rfl) (Nat.le_of_ble_eq_true rfl) ?_
    refine t_X8_begin (T := T) hD9 Ms2 Gr2 (fun σ3 Sm3 Yf3 => fK_v ?_)
    show fEv g _ mX9_quarry 88 [some (.ref 0), some (.int (nI n))] [] σ3 Q
    have Ms3 := Ms2.sm Sm3
    refine e_aload_n dX9_quarry_88 rfl rfl ?_
    refine e_getR (q := 29) dX9_quarry_89 fl_RX9_51 (Ms3.s 0 rfl) (Ms3.n (by decide)) rfl (Ms3.r 0 7 rfl) (by unfold fscr; omega) ?_
    refine e_callV (k := 29) [] dX9_quarry_92 cc_X0_begin lk_RX9_123 im_X0_begin se_X0_begin (by decide) (Ms3.s 29 rfl) (Ms3.n (by decide)) rfl (Nat.le_of_ble_eq_true rfl) (Nat.le_of_ble_eq_true rfl) ?_
    refine t_X0_begin Ms3 (fun σ4 Sm4 p1 p2 => fK_v ?_)
    show fEv g _ mX9_quarry 95 [some (.ref 0), some (.int (nI n))] [] σ4 Q
    have Ms4 := Ms3.sm Sm4
    have Gr4 : fGr σ4 2 DD := (Gr2.sm Sm3 (fun i hi (q : 15 ≤ 2 + i ∧ 2 + i ≤ 15 + 6) => by omega)).sm Sm4 (fun i hi (q : 2 + i = 29 ∨ 2 + i = 31) => by omega)
    refine e_aload_n dX9_quarry_95 rfl rfl ?_
    refine e_iconst (nI 0) dX9_quarry_96 (by decide) ?_
    refine e_putI dX9_quarry_97 fl_RX9_63 (Ms4.s 0 rfl) (Ms4.n (by decide)) rfl rfl ?_
    refine e_aload_n dX9_quarry_100 rfl rfl ?_
    refine e_iconst (nI 0) dX9_quarry_101 (by decide) ?_
    refine e_putZ dX9_quarry_102 fl_RX9_83 (Ms4.s 0 rfl) (Ms4.n (by decide)) rfl rfl (by decide) ?_
    refine e_aload_n dX9_quarry_105 rfl rfl ?_
    refine e_getR (q := 2) dX9_quarry_106 fl_RX9_23 (Ms4.s 0 rfl) (Ms4.n (by decide)) rfl (Ms4.r 0 3 rfl) (by unfold fscr; omega) ?_
    refine e_getI dX9_quarry_109 fl_RX9_124 (Ms4.s 2 rfl) (Ms4.n (by decide)) rfl ?_
    refine e_int (nI (dT DD 0)) (by rw [fI_I, if_neg (by omega), fI_I, if_neg (by omega)]; exact Gr4.1.1) ?_
    have A4 : fSm (fun a => a = 0 ∨ (2 ≤ a ∧ a < 32)) σ σ4 := (((A1.to (fun a q => (by omega : a = 0 ∨ (2 ≤ a ∧ a < 32)))).tr (fSm_I (A := fun a => a = 0 ∨ (2 ≤ a ∧ a < 32)) (Or.inl rfl))).tr (Sm2.to (fun a (q : 2 ≤ a ∧ a < 2 + 6) => (by omega : a = 0 ∨ (2 ≤ a ∧ a < 32))))).tr ((Sm3.to (fun a (q : 15 ≤ a ∧ a ≤ 15 + 6) => (by omega : a = 0 ∨ (2 ≤ a ∧ a < 32)))).tr (Sm4.to (fun a (q : a = 29 ∨ a = 31) => (by omega : a = 0 ∨ (2 ≤ a ∧ a < 32)))))
    have A5 : fSm (fun a => a = 0 ∨ (2 ≤ a ∧ a < 32)) σ (fsI (fsI σ4 0 10 (nI 0)) 0 14 (nI 0)) := (A4.tr (fSm_I (Or.inl rfl))).tr (fSm_I (Or.inl rfl))
    have k4 : ∀ j, fI σ4 0 j = fI (fsI σ1 0 2 (-1)) 0 j := fun j => (Sm4.i (fun (q : 0 = 29 ∨ 0 = 31) => by omega) j).trans ((Sm3.i (fun (q : 15 ≤ 0 ∧ 0 ≤ 15 + 6) => by omega) j).trans (Sm2.i (fun (q : 2 ≤ 0 ∧ 0 < 2 + 6) => by omega) j))
    refine e_ireturn .int dX9_quarry_112 rfl rfl (h _ (A5.to (fun a q => by unfold fClA; omega)) ⟨Gr4, ?_, ⟨p1, fun j hj => absurd hj (Nat.not_lt_zero _), fun c hc => p2 c hc⟩, ⟨by rw [fI_I, if_neg (by omega), fI_I, if_neg (by omega), k4 1, fI_I, if_neg (by omega), k1 1, fI_I, if_pos ⟨rfl, rfl⟩], fun i hi => (A5.i (fun q => by omega) i).trans (Ic.2.2.2.1.2.1 i hi), by rw [fI_I, if_neg (by omega), fI_I, if_neg (by omega), k4 2, fI_I, if_pos ⟨rfl, rfl⟩], by rw [fI_I, if_neg (by omega), fI_I, if_pos ⟨rfl, rfl⟩]⟩, fun j hj => absurd hj (Nat.not_lt_zero _), Or.inl (by rw [fI_I, if_pos ⟨rfl, rfl⟩]), Ic.2.2.2.2.2.2.sm A5 (fun a q => by omega)⟩)
    exact ⟨by obtain ⟨m9, h9⟩ := Yf3.1; exact ⟨m9, (h9.sm Sm4 (fun i hi (q : 15 + i = 29 ∨ 15 + i = 31) => by omega)).sm (A := fun a => a = 0) ((fSm_I (A := fun a => a = 0) rfl).tr (fSm_I rfl)) (fun i hi (q : 15 + i = 0) => by omega)⟩, (Yf3.2.sm Sm4 (fun i hi (q : 15 + i = 29 ∨ 15 + i = 31) => by omega)).sm (A := fun a => a = 0) ((fSm_I (A := fun a => a = 0) rfl).tr (fSm_I rfl)) (fun i hi (q : 15 + i = 0) => by omega)⟩
set_option maxRecDepth 20000 in
theorem t_X9_quarryE {g : fGP} {d : Nat} {σ : fAH} {Q : fRes → fAH → Prop} {x : fXS} {a : Int32}  (Ms : fMs g σ) (ok : fOK x) (Ic : fIc σ x) (hv : ¬ (nI 0 ≤ a ∧ a ≤ nI (xt x))) (rm : fnx σ + fgb σ + 1 ≤ 601024 ∧ fsu σ + 6 ≤ 7293034) (h : Q (.inr "java/lang/IllegalArgumentException") (fthr σ)) : fEv g d mX9_quarry 0 (fent [.ref 0, .int a] 2) [] σ Q := by
  obtain ⟨D, ⟨S, T, sd, pn, P, rn, R⟩, B, tp, pl, im, Im⟩ := x
  have hD : fWD D := ok.1
  have hW : fWS D S := ok.2.1.1
  have hC : fWC D S := ok.2.1.2.1
  have hN : fWN S 0 0 := ok.2.1.2.2.1
  have Gr : fGr σ 2 D := Ic.1
  obtain ⟨⟨m, Yr⟩, Yt⟩ : fYf σ 15 D S T sd := Ic.2.1
  have Gs := Ms.ground (k := 2) (by decide)
  have Ys := Ms.yard (k := 15) (by decide)
  obtain ⟨⟨g0, g1, g2, g3, g4, g5⟩, ⟨gn, gK⟩, ⟨gr0, gr1, gr2, gr3, gr4⟩⟩ := id Gs
  obtain ⟨⟨y0, y1, y2, y3, y4, y5, y6⟩, ⟨yn, yK⟩, ⟨yr0, yr1, yr2, yr3, yr4, yr5, yr6⟩⟩ := id Ys
  obtain ⟨t0, t1, t2, t3, t4, t5, t6⟩ := id hD.1
  have np := hW.n hD
  have n5 := hW.2.2.2.2
  have tp6 : tp ≤ 600 := ok.2.2.2.1
  have im3 : im ≤ 3 := ok.2.2.2.2.1
  have pn3 : pn ≤ 30 := ok.2.1.2.2.2.1
  have rn6 : rn ≤ 60 := ok.2.1.2.2.2.2.2.1
  have Dc : fDc σ 29 (S, T, sd, pn, P, rn, R) := Ic.2.2.1
  have w52 := hW.1
  show fEv g d mX9_quarry 0 [some (.ref 0), some (.int a)] [] σ Q
  refine e_iload_n dX9_quarry_0 rfl rfl ?_
  refine e_if_lt 12 dX9_quarry_1 (by decide) (fun c1 => ?_) (fun c1 => ?_)
  · exact e_throwS rfl rfl tw_A (fstr_m 0 rfl) dX9_quarry_12 dX9_quarry_15 dX9_quarry_16 dX9_quarry_18 dX9_quarry_21 (Nat.le_of_ble_eq_true rfl) rm.1 rm.2 h
  · refine e_iload_n dX9_quarry_4 rfl rfl ?_
    refine e_aload_n dX9_quarry_5 rfl rfl ?_
    refine e_getI dX9_quarry_6 fl_RX9_13 (Ms.s 0 rfl) (Ms.n (by decide)) rfl ?_
    refine e_int (nI tp) Ic.2.2.2.1.1 ?_
    refine e_icmp_le 22 dX9_quarry_9 (by decide) (fun c9 => ?_) (fun c9 => ?_)
    · exact absurd ⟨Int32.not_lt.mp c1, c9⟩ hv
    · exact e_throwS rfl rfl tw_A (fstr_m 0 rfl) dX9_quarry_12 dX9_quarry_15 dX9_quarry_16 dX9_quarry_18 dX9_quarry_21 (Nat.le_of_ble_eq_true rfl) rm.1 rm.2 h
