theorem nI_m1 {a : Nat} (ha : a < 2147483648) : ¬ nI a = -1 := fun e => by
  have h1 : (nI a).toInt = (a : Int) := nI_toInt ha
  rw [e] at h1
  have h2 : ((-1 : Int32)).toInt = -1 := by decide
  omega
set_option maxRecDepth 20000 in
theorem t_X3_isAcrossGrain {g : fGP} {d : Nat} {σ : fAH} {Q : fRes → fAH → Prop} {q s : Nat} {D : fSD} (Gs : fGs g σ q) (Gr : fGr σ q D) (hD : fWD D) (hs : s < dT D 1) (h : Q (.inl (some (.int (nI (bn (macr D s)))))) σ) : fEv g d mX3_isAcrossGrain 0 (fent [.ref q, .int (nI s)] 3) [] σ Q := by
  obtain ⟨⟨g0, g1, g2, g3, g4, g5⟩, ⟨gn, gK⟩, ⟨gr0, gr1, gr2, gr3, gr4⟩⟩ := id Gs
  obtain ⟨t0, t1, t2, t3, t4, t5, t6⟩ := id hD.1
  obtain ⟨s0, s1, s2, s3, s4, s5, s6⟩ := hD.2.2.1 s hs
  obtain ⟨b0, b1, b2, b3, b4⟩ := hD.2.1 _ s0
  have sb := hD.s2 hs
  show fEv g d mX3_isAcrossGrain 0 [some (.ref q), some (.int (nI s)), none] [] σ Q
  refine e_aload_n dX3_isAcrossGrain_0 rfl rfl ?_
  refine e_getR (q := q + 2) dX3_isAcrossGrain_1 fl_RX3_15 g0 (show q < fnx σ by omega) rfl gr1 (by unfold fscr; omega) ?_
  refine e_iload_n dX3_isAcrossGrain_4 rfl rfl ?_
  refine e_iconst (nI 5) dX3_isAcrossGrain_5 (by decide) ?_
  refine e_imul dX3_isAcrossGrain_6 ?_
  refine e_int (nI (s * 5)) (pk_mul s 5) ?_
  refine e_iconst (nI 0) dX3_isAcrossGrain_7 (by decide) ?_
  refine e_iadd dX3_isAcrossGrain_8 ?_
  refine e_int (nI (s * 5)) (nI_add (s * 5) 0) ?_
  refine e_iaload (s * 5) dX3_isAcrossGrain_9 g2 (show q + 2 < fnx σ by omega) rfl (by omega) (by decide) ?_
  refine e_int (nI (dS D s 0)) (Gr.2.2.1 s hs 0 (by decide)) ?_
  refine e_istore_n (L1 := [some (.ref q), some (.int (nI s)), some (.int (nI (dS D s 0)))]) dX3_isAcrossGrain_10 rfl (by decide) rfl ?_
  refine e_aload_n dX3_isAcrossGrain_11 rfl rfl ?_
  refine e_getR (q := q + 2) dX3_isAcrossGrain_12 fl_RX3_15 g0 (show q < fnx σ by omega) rfl gr1 (by unfold fscr; omega) ?_
  refine e_iload_n dX3_isAcrossGrain_15 rfl rfl ?_
  refine e_iconst (nI 5) dX3_isAcrossGrain_16 (by decide) ?_
  refine e_imul dX3_isAcrossGrain_17 ?_
  refine e_int (nI (s * 5)) (pk_mul s 5) ?_
  refine e_iconst (nI 1) dX3_isAcrossGrain_18 (by decide) ?_
  refine e_iadd dX3_isAcrossGrain_19 ?_
  refine e_int (nI (s * 5 + 1)) (nI_add (s * 5) 1) ?_
  refine e_iaload (s * 5 + 1) dX3_isAcrossGrain_20 g2 (show q + 2 < fnx σ by omega) rfl (by omega) (by decide) ?_
  refine e_int (nI (dS D s 1)) (Gr.2.2.1 s hs 1 (by decide)) ?_
  refine e_aload_n dX3_isAcrossGrain_21 rfl rfl ?_
  refine e_getR (q := q + 1) dX3_isAcrossGrain_22 fl_RX3_9 g0 (show q < fnx σ by omega) rfl gr0 (by unfold fscr; omega) ?_
  refine e_iload_n dX3_isAcrossGrain_25 rfl rfl ?_
  refine e_iconst (nI 3) dX3_isAcrossGrain_26 (by decide) ?_
  refine e_imul dX3_isAcrossGrain_27 ?_
  refine e_int (nI ((dS D s 0) * 3)) (pk_mul (dS D s 0) 3) ?_
  refine e_iconst (nI 2) dX3_isAcrossGrain_28 (by decide) ?_
  refine e_iadd dX3_isAcrossGrain_29 ?_
  refine e_int (nI ((dS D s 0) * 3 + 2)) (nI_add ((dS D s 0) * 3) 2) ?_
  refine e_iaload ((dS D s 0) * 3 + 2) dX3_isAcrossGrain_30 g1 (show q + 1 < fnx σ by omega) rfl (by omega) (by decide) ?_
  refine e_int (nI (dB D (dS D s 0) 2)) (Gr.2.1 _ s0 2 (by decide)) ?_
  refine e_icmp_eq 38 dX3_isAcrossGrain_31 (by decide) (fun c31 => ?_) (fun c31 => ?_)
  · rw [nI_inj (by omega) (by omega)] at c31
    have hm : macr D s = false := decide_eq_false (fun z => z c31)
    rw [hm] at h
    refine e_iconst (nI 0) dX3_isAcrossGrain_38 (by decide) ?_
    exact e_ireturn .boolean dX3_isAcrossGrain_39 rfl (by decide) (h)
  · rw [nI_inj (by omega) (by omega)] at c31
    have hm : macr D s = true := decide_eq_true c31
    rw [hm] at h
    refine e_iconst (nI 1) dX3_isAcrossGrain_34 (by decide) ?_
    refine e_goto 39 dX3_isAcrossGrain_35 (by decide) ?_
    exact e_ireturn .boolean dX3_isAcrossGrain_39 rfl (by decide) (h)
set_option maxRecDepth 20000 in
theorem t_X8_needOf {g : fGP} {d : Nat} {σ : fAH} {Q : fRes → fAH → Prop} {k q s m : Nat} {D : fSD} {S : Nat → Nat} {sd : Int32} (Gs : fGs g σ q) (Gr : fGr σ q D) (hD : fWD D) (Ys : fYs g σ k q) (Yr : fYr σ k D S m sd) (hW : fWS D S) (hs : s < dT D 1) (h : Q (.inl (some (.int (nI (mneed D S s))))) σ) : fEv g (d + 1) mX8_needOf 0 (fent [.ref k, .int (nI s)] 2) [] σ Q := by
  obtain ⟨⟨g0, g1, g2, g3, g4, g5⟩, ⟨gn, gK⟩, ⟨gr0, gr1, gr2, gr3, gr4⟩⟩ := id Gs
  obtain ⟨⟨y0, y1, y2, y3, y4, y5, y6⟩, ⟨yn, yK⟩, ⟨yr0, yr1, yr2, yr3, yr4, yr5, yr6⟩⟩ := id Ys
  obtain ⟨t0, t1, t2, t3, t4, t5, t6⟩ := id hD.1
  obtain ⟨s0, s1, s2, s3, s4, s5, s6⟩ := hD.2.2.1 s hs
  have dp := hW.2.2.1 s hs
  show fEv g (d + 1) mX8_needOf 0 [some (.ref k), some (.int (nI s))] [] σ Q
  refine e_aload_n dX8_needOf_0 rfl rfl ?_
  refine e_getR (q := q) dX8_needOf_1 fl_RX8_56 y0 (show k < fnx σ by omega) rfl yr0 (by unfold fscr; omega) ?_
  refine e_iload_n dX8_needOf_4 rfl rfl ?_
  refine e_callV (k := q) [.int (nI s)] dX8_needOf_5 cc_X3_isAcrossGrain lk_RX8_89 im_X3_isAcrossGrain se_X3_isAcrossGrain (by decide) g0 (show q < fnx σ by omega) rfl (Nat.le_of_ble_eq_true rfl) (Nat.le_of_ble_eq_true rfl) ?_
  refine t_X3_isAcrossGrain Gs Gr hD hs (fK_i ?_)
  show fEv g _ mX8_needOf 8 [some (.ref k), some (.int (nI s))] [.int (nI (bn (macr D s)))] σ Q
  refine e_if_eq 16 dX8_needOf_8 (by decide) (fun c8 => ?_) (fun c8 => ?_)
  · rw [nI_z (by have := bn_le (macr D s); omega)] at c8
    have hm : macr D s = false := by cases hc : macr D s <;> rw [hc] at c8 <;> first | rfl | cases c8
    unfold mneed at h
    rw [hm] at h
    refine e_iconst (nI 4) dX8_needOf_16 (by decide) ?_
    refine e_aload_n dX8_needOf_17 rfl rfl ?_
    refine e_getR (q := k + 2) dX8_needOf_18 fl_RX8_19 y0 (show k < fnx σ by omega) rfl yr2 (by unfold fscr; omega) ?_
    refine e_iload_n dX8_needOf_21 rfl rfl ?_
    refine e_iaload s dX8_needOf_22 y2 (show k + 2 < fnx σ by omega) rfl (by omega) (by decide) ?_
    refine e_int (nI (S (121 + s))) (Yr.2.2.1 s hs) ?_
    refine e_iconst (nI 3) dX8_needOf_23 (by decide) ?_
    refine e_idiv dX8_needOf_24 (by decide) ?_
    refine e_int (nI (S (121 + s) / 3)) (pk_div (by omega) (by decide) (by decide)) ?_
    refine e_isub dX8_needOf_25 ?_
    refine e_int (nI (4 - S (121 + s) / 3)) (pk_sub (by omega)) ?_
    exact e_ireturn .int dX8_needOf_26 rfl rfl (h)
  · rw [nI_z (by have := bn_le (macr D s); omega)] at c8
    have hm : macr D s = true := by cases hc : macr D s <;> rw [hc] at c8 <;> first | rfl | exact absurd rfl c8
    unfold mneed at h
    rw [hm] at h
    refine e_bipush (nI 6) dX8_needOf_11 (by decide) ?_
    refine e_goto 17 dX8_needOf_13 (by decide) ?_
    refine e_aload_n dX8_needOf_17 rfl rfl ?_
    refine e_getR (q := k + 2) dX8_needOf_18 fl_RX8_19 y0 (show k < fnx σ by omega) rfl yr2 (by unfold fscr; omega) ?_
    refine e_iload_n dX8_needOf_21 rfl rfl ?_
    refine e_iaload s dX8_needOf_22 y2 (show k + 2 < fnx σ by omega) rfl (by omega) (by decide) ?_
    refine e_int (nI (S (121 + s))) (Yr.2.2.1 s hs) ?_
    refine e_iconst (nI 3) dX8_needOf_23 (by decide) ?_
    refine e_idiv dX8_needOf_24 (by decide) ?_
    refine e_int (nI (S (121 + s) / 3)) (pk_div (by omega) (by decide) (by decide)) ?_
    refine e_isub dX8_needOf_25 ?_
    refine e_int (nI (6 - S (121 + s) / 3)) (pk_sub (by omega)) ?_
    exact e_ireturn .int dX8_needOf_26 rfl rfl (h)
set_option maxRecDepth 20000 in
theorem t_X8_lowEdge {g : fGP} {d : Nat} {σ : fAH} {Q : fRes → fAH → Prop} {k q s p : Nat} {D : fSD} (Gs : fGs g σ q) (Gr : fGr σ q D) (hD : fWD D) (Ys : fYs g σ k q) (hs : s < dT D 1) (hp : p < 1000) (h : Q (.inl (some (.int (nI (p * 6 + (1 + 2 * dS D s 1)))))) σ) : fEv g d mX8_lowEdge 0 (fent [.ref k, .int (nI p), .int (nI s)] 3) [] σ Q := by
  obtain ⟨⟨g0, g1, g2, g3, g4, g5⟩, ⟨gn, gK⟩, ⟨gr0, gr1, gr2, gr3, gr4⟩⟩ := id Gs
  obtain ⟨⟨y0, y1, y2, y3, y4, y5, y6⟩, ⟨yn, yK⟩, ⟨yr0, yr1, yr2, yr3, yr4, yr5, yr6⟩⟩ := id Ys
  obtain ⟨t0, t1, t2, t3, t4, t5, t6⟩ := id hD.1
  obtain ⟨s0, s1, s2, s3, s4, s5, s6⟩ := hD.2.2.1 s hs
  show fEv g d mX8_lowEdge 0 [some (.ref k), some (.int (nI p)), some (.int (nI s))] [] σ Q
  refine e_iload_n dX8_lowEdge_0 rfl rfl ?_
  refine e_bipush (nI 6) dX8_lowEdge_1 (by decide) ?_
  refine e_imul dX8_lowEdge_3 ?_
  refine e_int (nI (p * 6)) (pk_mul p 6) ?_
  refine e_aload_n dX8_lowEdge_4 rfl rfl ?_
  refine e_getR (q := q) dX8_lowEdge_5 fl_RX8_56 y0 (show k < fnx σ by omega) rfl yr0 (by unfold fscr; omega) ?_
  refine e_getR (q := q + 2) dX8_lowEdge_8 fl_RX8_71 g0 (show q < fnx σ by omega) rfl gr1 (by unfold fscr; omega) ?_
  refine e_iload_n dX8_lowEdge_11 rfl rfl ?_
  refine e_iconst (nI 5) dX8_lowEdge_12 (by decide) ?_
  refine e_imul dX8_lowEdge_13 ?_
  refine e_int (nI (s * 5)) (pk_mul s 5) ?_
  refine e_iconst (nI 1) dX8_lowEdge_14 (by decide) ?_
  refine e_iadd dX8_lowEdge_15 ?_
  refine e_int (nI (s * 5 + 1)) (nI_add (s * 5) 1) ?_
  refine e_iaload (s * 5 + 1) dX8_lowEdge_16 g2 (show q + 2 < fnx σ by omega) rfl (by omega) (by decide) ?_
  refine e_int (nI (dS D s 1)) (Gr.2.2.1 s hs 1 (by decide)) ?_
  refine e_if_ne 24 dX8_lowEdge_17 (by decide) (fun c17 => ?_) (fun c17 => ?_)
  · rw [nI_z (by omega)] at c17
    have c17 : dS D s 1 = 1 := by omega
    rw [c17] at h
    refine e_iconst (nI 3) dX8_lowEdge_24 (by decide) ?_
    refine e_iadd dX8_lowEdge_25 ?_
    refine e_int (nI (p * 6 + 3)) (nI_add (p * 6) 3) ?_
    exact e_ireturn .int dX8_lowEdge_26 rfl rfl (h)
  · rw [nI_z (by omega)] at c17
    rw [c17] at h
    refine e_iconst (nI 1) dX8_lowEdge_20 (by decide) ?_
    refine e_goto 25 dX8_lowEdge_21 (by decide) ?_
    refine e_iadd dX8_lowEdge_25 ?_
    refine e_int (nI (p * 6 + 1)) (nI_add (p * 6) 1) ?_
    exact e_ireturn .int dX8_lowEdge_26 rfl rfl (h)
set_option maxRecDepth 20000 in
theorem l_X8_pieceUnder {g : fGP} {d : Nat} {σ : fAH} {Q : fRes → fAH → Prop} {k q s m : Nat} {D : fSD} {S : Nat → Nat} {sd w9 : Int32} (Gs : fGs g σ q) (Gr : fGr σ q D) (hD : fWD D) (Ys : fYs g σ k q) (Yr : fYr σ k D S m sd) (hW : fWS D S) (hs : s < dT D 1) : ∀ (n p : Nat) (o8 : Option Value), p + n = S 120 → Q (.inl (some (.int (mo (mfd (mhit D S s) n p))))) σ → fEv g d mX8_pieceUnder 82 [some (.ref k), some (.int (nI s)), some (.int (nI (s * 5))), some (.int w9), some (.int (nI (mX D s))), some (.int (nI (mY D s))), some (.int (nI (dS D s 0))), some (.int (nI p)), o8] [] σ Q := by
  obtain ⟨⟨g0, g1, g2, g3, g4, g5⟩, ⟨gn, gK⟩, ⟨gr0, gr1, gr2, gr3, gr4⟩⟩ := id Gs
  obtain ⟨⟨y0, y1, y2, y3, y4, y5, y6⟩, ⟨yn, yK⟩, ⟨yr0, yr1, yr2, yr3, yr4, yr5, yr6⟩⟩ := id Ys
  obtain ⟨t0, t1, t2, t3, t4, t5, t6⟩ := id hD.1
  obtain ⟨s0, s1, s2, s3, s4, s5, s6⟩ := hD.2.2.1 s hs
  have sb := hD.s2 hs
  have np := hW.n hD
  have x9 : mX D s < 12 := by unfold mX; split <;> omega
  have y9 : mY D s < 12 := by unfold mY; split <;> omega
  intro n
  induction n with
  | zero =>
    intro p o8 hpn h
    refine e_iload dX8_pieceUnder_82 rfl ?_
    refine e_aload_n dX8_pieceUnder_84 rfl rfl ?_
    refine e_getI dX8_pieceUnder_85 fl_RX8_15 y0 (show k < fnx σ by omega) rfl ?_
    refine e_int (nI (S 120)) Yr.1.1 ?_
    refine e_icmp_ge 190 dX8_pieceUnder_88 (by decide) (fun c88 => ?_) (fun c88 => absurd ((nI_le' (by omega) (by omega)).mpr (by omega)) c88)
    refine e_iconst (-1) dX8_pieceUnder_190 (by decide) ?_
    exact e_ireturn .int dX8_pieceUnder_191 rfl rfl (h)
  | succ n ih =>
    intro p o8 hpn h
    have hp : p < S 120 := by omega
    obtain ⟨p0, p1, p2, p3, p4, p5⟩ := hW.2.1 p hp
    refine e_iload dX8_pieceUnder_82 rfl ?_
    refine e_aload_n dX8_pieceUnder_84 rfl rfl ?_
    refine e_getI dX8_pieceUnder_85 fl_RX8_15 y0 (show k < fnx σ by omega) rfl ?_
    refine e_int (nI (S 120)) Yr.1.1 ?_
    refine e_icmp_ge 190 dX8_pieceUnder_88 (by decide) (fun c88 => absurd ((nI_le' (by omega) (by omega)).mp c88) (by omega)) (fun c88 => ?_)
    refine e_iload dX8_pieceUnder_91 rfl ?_
    refine e_bipush (nI 6) dX8_pieceUnder_93 (by decide) ?_
    refine e_imul dX8_pieceUnder_95 ?_
    refine e_int (nI (p * 6)) (pk_mul p 6) ?_
    refine e_istore (L1 := [some (.ref k), some (.int (nI s)), some (.int (nI (s * 5))), some (.int w9), some (.int (nI (mX D s))), some (.int (nI (mY D s))), some (.int (nI (dS D s 0))), some (.int (nI p)), some (.int (nI (p * 6)))]) dX8_pieceUnder_96 (by decide) rfl ?_
    refine e_aload_n dX8_pieceUnder_98 rfl rfl ?_
    refine e_getR (q := k + 1) dX8_pieceUnder_99 fl_RX8_9 y0 (show k < fnx σ by omega) rfl yr1 (by unfold fscr; omega) ?_
    refine e_iload dX8_pieceUnder_102 rfl ?_
    refine e_iconst (nI 0) dX8_pieceUnder_104 (by decide) ?_
    refine e_iadd dX8_pieceUnder_105 ?_
    refine e_int (nI (p * 6)) (nI_add (p * 6) 0) ?_
    refine e_iaload (p * 6) dX8_pieceUnder_106 y1 (show k + 1 < fnx σ by omega) rfl (by omega) (by decide) ?_
    refine e_int (nI (S (p * 6))) (Yr.2.1 p hp 0 (by decide)) ?_
    refine e_iload dX8_pieceUnder_107 rfl ?_
    refine e_icmp_ne 184 dX8_pieceUnder_109 (by decide) (fun c109 => ?_) (fun c109 => ?_)
    · rw [nI_inj (by omega) (by omega)] at c109
      refine e_iinc (v := nI (p + 1)) (L1 := [some (.ref k), some (.int (nI s)), some (.int (nI (s * 5))), some (.int w9), some (.int (nI (mX D s))), some (.int (nI (mY D s))), some (.int (nI (dS D s 0))), some (.int (nI (p + 1))), some (.int (nI (p * 6)))]) dX8_pieceUnder_184 rfl (show nI p + Int32.ofInt 1 = nI (p + 1) from nI_add p 1) (by decide) rfl ?_
      refine e_goto 82 dX8_pieceUnder_187 (by decide) ?_
      refine ih (p + 1) (some (.int (nI (p * 6)))) (by omega) ?_
      have hf : mhit D S s p = false := decide_eq_false (by intro hh; omega)
      rw [mfd, hf] at h
      exact h
    · rw [nI_inj (by omega) (by omega)] at c109
      refine e_aload_n dX8_pieceUnder_112 rfl rfl ?_
      refine e_getR (q := k + 1) dX8_pieceUnder_113 fl_RX8_9 y0 (show k < fnx σ by omega) rfl yr1 (by unfold fscr; omega) ?_
      refine e_iload dX8_pieceUnder_116 rfl ?_
      refine e_iconst (nI 5) dX8_pieceUnder_118 (by decide) ?_
      refine e_iadd dX8_pieceUnder_119 ?_
      refine e_int (nI (p * 6 + 5)) (nI_add (p * 6) 5) ?_
      refine e_iaload (p * 6 + 5) dX8_pieceUnder_120 y1 (show k + 1 < fnx σ by omega) rfl (by omega) (by decide) ?_
      refine e_int (nI (S (p * 6 + 5))) (Yr.2.1 p hp 5 (by decide)) ?_
      refine e_iconst (nI 1) dX8_pieceUnder_121 (by decide) ?_
      refine e_icmp_ne 184 dX8_pieceUnder_122 (by decide) (fun c122 => ?_) (fun c122 => ?_)
      · rw [nI_inj (by omega) (by omega)] at c122
        refine e_iinc (v := nI (p + 1)) (L1 := [some (.ref k), some (.int (nI s)), some (.int (nI (s * 5))), some (.int w9), some (.int (nI (mX D s))), some (.int (nI (mY D s))), some (.int (nI (dS D s 0))), some (.int (nI (p + 1))), some (.int (nI (p * 6)))]) dX8_pieceUnder_184 rfl (show nI p + Int32.ofInt 1 = nI (p + 1) from nI_add p 1) (by decide) rfl ?_
        refine e_goto 82 dX8_pieceUnder_187 (by decide) ?_
        refine ih (p + 1) (some (.int (nI (p * 6)))) (by omega) ?_
        have hf : mhit D S s p = false := decide_eq_false (by intro hh; omega)
        rw [mfd, hf] at h
        exact h
      · rw [nI_inj (by omega) (by omega)] at c122
        refine e_aload_n dX8_pieceUnder_125 rfl rfl ?_
        refine e_getR (q := k + 1) dX8_pieceUnder_126 fl_RX8_9 y0 (show k < fnx σ by omega) rfl yr1 (by unfold fscr; omega) ?_
        refine e_iload dX8_pieceUnder_129 rfl ?_
        refine e_iconst (nI 1) dX8_pieceUnder_131 (by decide) ?_
        refine e_iadd dX8_pieceUnder_132 ?_
        refine e_int (nI (p * 6 + 1)) (nI_add (p * 6) 1) ?_
        refine e_iaload (p * 6 + 1) dX8_pieceUnder_133 y1 (show k + 1 < fnx σ by omega) rfl (by omega) (by decide) ?_
        refine e_int (nI (S (p * 6 + 1))) (Yr.2.1 p hp 1 (by decide)) ?_
        refine e_iload dX8_pieceUnder_134 rfl ?_
        refine e_icmp_gt 184 dX8_pieceUnder_136 (by decide) (fun c136 => ?_) (fun c136 => ?_)
        · rw [nI_lt' (by omega) (by omega)] at c136
          refine e_iinc (v := nI (p + 1)) (L1 := [some (.ref k), some (.int (nI s)), some (.int (nI (s * 5))), some (.int w9), some (.int (nI (mX D s))), some (.int (nI (mY D s))), some (.int (nI (dS D s 0))), some (.int (nI (p + 1))), some (.int (nI (p * 6)))]) dX8_pieceUnder_184 rfl (show nI p + Int32.ofInt 1 = nI (p + 1) from nI_add p 1) (by decide) rfl ?_
          refine e_goto 82 dX8_pieceUnder_187 (by decide) ?_
          refine ih (p + 1) (some (.int (nI (p * 6)))) (by omega) ?_
          have hf : mhit D S s p = false := decide_eq_false (by intro hh; omega)
          rw [mfd, hf] at h
          exact h
        · rw [nI_lt' (by omega) (by omega)] at c136
          refine e_iload dX8_pieceUnder_139 rfl ?_
          refine e_aload_n dX8_pieceUnder_141 rfl rfl ?_
          refine e_getR (q := k + 1) dX8_pieceUnder_142 fl_RX8_9 y0 (show k < fnx σ by omega) rfl yr1 (by unfold fscr; omega) ?_
          refine e_iload dX8_pieceUnder_145 rfl ?_
          refine e_iconst (nI 2) dX8_pieceUnder_147 (by decide) ?_
          refine e_iadd dX8_pieceUnder_148 ?_
          refine e_int (nI (p * 6 + 2)) (nI_add (p * 6) 2) ?_
          refine e_iaload (p * 6 + 2) dX8_pieceUnder_149 y1 (show k + 1 < fnx σ by omega) rfl (by omega) (by decide) ?_
          refine e_int (nI (S (p * 6 + 2))) (Yr.2.1 p hp 2 (by decide)) ?_
          refine e_icmp_ge 184 dX8_pieceUnder_150 (by decide) (fun c150 => ?_) (fun c150 => ?_)
          · rw [nI_le' (by omega) (by omega)] at c150
            refine e_iinc (v := nI (p + 1)) (L1 := [some (.ref k), some (.int (nI s)), some (.int (nI (s * 5))), some (.int w9), some (.int (nI (mX D s))), some (.int (nI (mY D s))), some (.int (nI (dS D s 0))), some (.int (nI (p + 1))), some (.int (nI (p * 6)))]) dX8_pieceUnder_184 rfl (show nI p + Int32.ofInt 1 = nI (p + 1) from nI_add p 1) (by decide) rfl ?_
            refine e_goto 82 dX8_pieceUnder_187 (by decide) ?_
            refine ih (p + 1) (some (.int (nI (p * 6)))) (by omega) ?_
            have hf : mhit D S s p = false := decide_eq_false (by intro hh; omega)
            rw [mfd, hf] at h
            exact h
          · rw [nI_le' (by omega) (by omega)] at c150
            refine e_aload_n dX8_pieceUnder_153 rfl rfl ?_
            refine e_getR (q := k + 1) dX8_pieceUnder_154 fl_RX8_9 y0 (show k < fnx σ by omega) rfl yr1 (by unfold fscr; omega) ?_
            refine e_iload dX8_pieceUnder_157 rfl ?_
            refine e_iconst (nI 3) dX8_pieceUnder_159 (by decide) ?_
            refine e_iadd dX8_pieceUnder_160 ?_
            refine e_int (nI (p * 6 + 3)) (nI_add (p * 6) 3) ?_
            refine e_iaload (p * 6 + 3) dX8_pieceUnder_161 y1 (show k + 1 < fnx σ by omega) rfl (by omega) (by decide) ?_
            refine e_int (nI (S (p * 6 + 3))) (Yr.2.1 p hp 3 (by decide)) ?_
            refine e_iload dX8_pieceUnder_162 rfl ?_
            refine e_icmp_gt 184 dX8_pieceUnder_164 (by decide) (fun c164 => ?_) (fun c164 => ?_)
            · rw [nI_lt' (by omega) (by omega)] at c164
              refine e_iinc (v := nI (p + 1)) (L1 := [some (.ref k), some (.int (nI s)), some (.int (nI (s * 5))), some (.int w9), some (.int (nI (mX D s))), some (.int (nI (mY D s))), some (.int (nI (dS D s 0))), some (.int (nI (p + 1))), some (.int (nI (p * 6)))]) dX8_pieceUnder_184 rfl (show nI p + Int32.ofInt 1 = nI (p + 1) from nI_add p 1) (by decide) rfl ?_
              refine e_goto 82 dX8_pieceUnder_187 (by decide) ?_
              refine ih (p + 1) (some (.int (nI (p * 6)))) (by omega) ?_
              have hf : mhit D S s p = false := decide_eq_false (by intro hh; omega)
              rw [mfd, hf] at h
              exact h
            · rw [nI_lt' (by omega) (by omega)] at c164
              refine e_iload dX8_pieceUnder_167 rfl ?_
              refine e_aload_n dX8_pieceUnder_169 rfl rfl ?_
              refine e_getR (q := k + 1) dX8_pieceUnder_170 fl_RX8_9 y0 (show k < fnx σ by omega) rfl yr1 (by unfold fscr; omega) ?_
              refine e_iload dX8_pieceUnder_173 rfl ?_
              refine e_iconst (nI 4) dX8_pieceUnder_175 (by decide) ?_
              refine e_iadd dX8_pieceUnder_176 ?_
              refine e_int (nI (p * 6 + 4)) (nI_add (p * 6) 4) ?_
              refine e_iaload (p * 6 + 4) dX8_pieceUnder_177 y1 (show k + 1 < fnx σ by omega) rfl (by omega) (by decide) ?_
              refine e_int (nI (S (p * 6 + 4))) (Yr.2.1 p hp 4 (by decide)) ?_
              refine e_icmp_ge 184 dX8_pieceUnder_178 (by decide) (fun c178 => ?_) (fun c178 => ?_)
              · rw [nI_le' (by omega) (by omega)] at c178
                refine e_iinc (v := nI (p + 1)) (L1 := [some (.ref k), some (.int (nI s)), some (.int (nI (s * 5))), some (.int w9), some (.int (nI (mX D s))), some (.int (nI (mY D s))), some (.int (nI (dS D s 0))), some (.int (nI (p + 1))), some (.int (nI (p * 6)))]) dX8_pieceUnder_184 rfl (show nI p + Int32.ofInt 1 = nI (p + 1) from nI_add p 1) (by decide) rfl ?_
                refine e_goto 82 dX8_pieceUnder_187 (by decide) ?_
                refine ih (p + 1) (some (.int (nI (p * 6)))) (by omega) ?_
                have hf : mhit D S s p = false := decide_eq_false (by intro hh; omega)
                rw [mfd, hf] at h
                exact h
              · rw [nI_le' (by omega) (by omega)] at c178
                refine e_iload dX8_pieceUnder_181 rfl ?_
                have hf : mhit D S s p = true := decide_eq_true (by refine ⟨?_, ?_, ?_, ?_, ?_, ?_⟩ <;> omega)
                rw [mfd, hf] at h
                exact e_ireturn .int dX8_pieceUnder_183 rfl rfl h
set_option maxRecDepth 20000 in
theorem t_X8_pieceUnder {g : fGP} {d : Nat} {σ : fAH} {Q : fRes → fAH → Prop} {k q s m : Nat} {D : fSD} {S : Nat → Nat} {sd : Int32} (Gs : fGs g σ q) (Gr : fGr σ q D) (hD : fWD D) (Ys : fYs g σ k q) (Yr : fYr σ k D S m sd) (hW : fWS D S) (hs : s < dT D 1) (h : Q (.inl (some (.int (mo (mpc D S s))))) σ) : fEv g d mX8_pieceUnder 0 (fent [.ref k, .int (nI s)] 9) [] σ Q := by
  obtain ⟨⟨g0, g1, g2, g3, g4, g5⟩, ⟨gn, gK⟩, ⟨gr0, gr1, gr2, gr3, gr4⟩⟩ := id Gs
  obtain ⟨⟨y0, y1, y2, y3, y4, y5, y6⟩, ⟨yn, yK⟩, ⟨yr0, yr1, yr2, yr3, yr4, yr5, yr6⟩⟩ := id Ys
  obtain ⟨t0, t1, t2, t3, t4, t5, t6⟩ := id hD.1
  obtain ⟨s0, s1, s2, s3, s4, s5, s6⟩ := hD.2.2.1 s hs
  have sb := hD.s2 hs
  show fEv g d mX8_pieceUnder 0 [some (.ref k), some (.int (nI s)), none, none, none, none, none, none, none] [] σ Q
  rcases (show dS D s 1 = 0 ∨ dS D s 1 = 1 by omega) with wy | wy
  · refine e_iload_n dX8_pieceUnder_0 rfl rfl ?_
    refine e_iconst (nI 5) dX8_pieceUnder_1 (by decide) ?_
    refine e_imul dX8_pieceUnder_2 ?_
    refine e_int (nI (s * 5)) (pk_mul s 5) ?_
    refine e_istore_n (L1 := [some (.ref k), some (.int (nI s)), some (.int (nI (s * 5))), none, none, none, none, none, none]) dX8_pieceUnder_3 rfl (by decide) rfl ?_
    refine e_aload_n dX8_pieceUnder_4 rfl rfl ?_
    refine e_getR (q := q) dX8_pieceUnder_5 fl_RX8_56 y0 (show k < fnx σ by omega) rfl yr0 (by unfold fscr; omega) ?_
    refine e_getR (q := q + 2) dX8_pieceUnder_8 fl_RX8_71 g0 (show q < fnx σ by omega) rfl gr1 (by unfold fscr; omega) ?_
    refine e_iload_n dX8_pieceUnder_11 rfl rfl ?_
    refine e_iconst (nI 1) dX8_pieceUnder_12 (by decide) ?_
    refine e_iadd dX8_pieceUnder_13 ?_
    refine e_int (nI (s * 5 + 1)) (nI_add (s * 5) 1) ?_
    refine e_iaload (s * 5 + 1) dX8_pieceUnder_14 g2 (show q + 2 < fnx σ by omega) rfl (by omega) (by decide) ?_
    refine e_int (nI 0) ((Gr.2.2.1 s hs 1 (by decide)).trans (by rw [wy])) ?_
    refine e_if_ne 22 dX8_pieceUnder_15 (by decide) (fun c => absurd c (by decide)) (fun _ => ?_)
    refine e_iconst (nI 1) dX8_pieceUnder_18 (by decide) ?_
    refine e_goto 23 dX8_pieceUnder_19 (by decide) ?_
    refine e_istore_n (L1 := [some (.ref k), some (.int (nI s)), some (.int (nI (s * 5))), some (.int (nI 1)), none, none, none, none, none]) dX8_pieceUnder_23 rfl (by decide) rfl ?_
    refine e_aload_n dX8_pieceUnder_24 rfl rfl ?_
    refine e_getR (q := q) dX8_pieceUnder_25 fl_RX8_56 y0 (show k < fnx σ by omega) rfl yr0 (by unfold fscr; omega) ?_
    refine e_getR (q := q + 2) dX8_pieceUnder_28 fl_RX8_71 g0 (show q < fnx σ by omega) rfl gr1 (by unfold fscr; omega) ?_
    refine e_iload_n dX8_pieceUnder_31 rfl rfl ?_
    refine e_iload_n dX8_pieceUnder_32 rfl rfl ?_
    refine e_if_eq 40 dX8_pieceUnder_33 (by decide) (fun c => absurd c (by decide)) (fun _ => ?_)
    refine e_iconst (nI 2) dX8_pieceUnder_36 (by decide) ?_
    refine e_goto 41 dX8_pieceUnder_37 (by decide) ?_
    refine e_iadd dX8_pieceUnder_41 ?_
    refine e_int (nI (s * 5 + 2)) (nI_add (s * 5) 2) ?_
    refine e_iaload (s * 5 + 2) dX8_pieceUnder_42 g2 (show q + 2 < fnx σ by omega) rfl (by omega) (by decide) ?_
    refine e_int (nI (mX D s)) ((Gr.2.2.1 s hs 2 (by decide)).trans (by unfold mX; rw [wy]; rfl)) ?_
    refine e_istore (L1 := [some (.ref k), some (.int (nI s)), some (.int (nI (s * 5))), some (.int (nI 1)), some (.int (nI (mX D s))), none, none, none, none]) dX8_pieceUnder_43 (by decide) rfl ?_
    refine e_aload_n dX8_pieceUnder_45 rfl rfl ?_
    refine e_getR (q := q) dX8_pieceUnder_46 fl_RX8_56 y0 (show k < fnx σ by omega) rfl yr0 (by unfold fscr; omega) ?_
    refine e_getR (q := q + 2) dX8_pieceUnder_49 fl_RX8_71 g0 (show q < fnx σ by omega) rfl gr1 (by unfold fscr; omega) ?_
    refine e_iload_n dX8_pieceUnder_52 rfl rfl ?_
    refine e_iload_n dX8_pieceUnder_53 rfl rfl ?_
    refine e_if_eq 61 dX8_pieceUnder_54 (by decide) (fun c => absurd c (by decide)) (fun _ => ?_)
    refine e_iconst (nI 3) dX8_pieceUnder_57 (by decide) ?_
    refine e_goto 62 dX8_pieceUnder_58 (by decide) ?_
    refine e_iadd dX8_pieceUnder_62 ?_
    refine e_int (nI (s * 5 + 3)) (nI_add (s * 5) 3) ?_
    refine e_iaload (s * 5 + 3) dX8_pieceUnder_63 g2 (show q + 2 < fnx σ by omega) rfl (by omega) (by decide) ?_
    refine e_int (nI (mY D s)) ((Gr.2.2.1 s hs 3 (by decide)).trans (by unfold mY; rw [wy]; rfl)) ?_
    refine e_istore (L1 := [some (.ref k), some (.int (nI s)), some (.int (nI (s * 5))), some (.int (nI 1)), some (.int (nI (mX D s))), some (.int (nI (mY D s))), none, none, none]) dX8_pieceUnder_64 (by decide) rfl ?_
    refine e_aload_n dX8_pieceUnder_66 rfl rfl ?_
    refine e_getR (q := q) dX8_pieceUnder_67 fl_RX8_56 y0 (show k < fnx σ by omega) rfl yr0 (by unfold fscr; omega) ?_
    refine e_getR (q := q + 2) dX8_pieceUnder_70 fl_RX8_71 g0 (show q < fnx σ by omega) rfl gr1 (by unfold fscr; omega) ?_
    refine e_iload_n dX8_pieceUnder_73 rfl rfl ?_
    refine e_iconst (nI 0) dX8_pieceUnder_74 (by decide) ?_
    refine e_iadd dX8_pieceUnder_75 ?_
    refine e_int (nI (s * 5)) (nI_add (s * 5) 0) ?_
    refine e_iaload (s * 5) dX8_pieceUnder_76 g2 (show q + 2 < fnx σ by omega) rfl (by omega) (by decide) ?_
    refine e_int (nI (dS D s 0)) (Gr.2.2.1 s hs 0 (by decide)) ?_
    refine e_istore (L1 := [some (.ref k), some (.int (nI s)), some (.int (nI (s * 5))), some (.int (nI 1)), some (.int (nI (mX D s))), some (.int (nI (mY D s))), some (.int (nI (dS D s 0))), none, none]) dX8_pieceUnder_77 (by decide) rfl ?_
    refine e_iconst (nI 0) dX8_pieceUnder_79 (by decide) ?_
    refine e_istore (L1 := [some (.ref k), some (.int (nI s)), some (.int (nI (s * 5))), some (.int (nI 1)), some (.int (nI (mX D s))), some (.int (nI (mY D s))), some (.int (nI (dS D s 0))), some (.int (nI 0)), none]) dX8_pieceUnder_80 (by decide) rfl ?_
    exact l_X8_pieceUnder Gs Gr hD Ys Yr hW hs (S 120) 0 none (by omega) h
  · refine e_iload_n dX8_pieceUnder_0 rfl rfl ?_
    refine e_iconst (nI 5) dX8_pieceUnder_1 (by decide) ?_
    refine e_imul dX8_pieceUnder_2 ?_
    refine e_int (nI (s * 5)) (pk_mul s 5) ?_
    refine e_istore_n (L1 := [some (.ref k), some (.int (nI s)), some (.int (nI (s * 5))), none, none, none, none, none, none]) dX8_pieceUnder_3 rfl (by decide) rfl ?_
    refine e_aload_n dX8_pieceUnder_4 rfl rfl ?_
    refine e_getR (q := q) dX8_pieceUnder_5 fl_RX8_56 y0 (show k < fnx σ by omega) rfl yr0 (by unfold fscr; omega) ?_
    refine e_getR (q := q + 2) dX8_pieceUnder_8 fl_RX8_71 g0 (show q < fnx σ by omega) rfl gr1 (by unfold fscr; omega) ?_
    refine e_iload_n dX8_pieceUnder_11 rfl rfl ?_
    refine e_iconst (nI 1) dX8_pieceUnder_12 (by decide) ?_
    refine e_iadd dX8_pieceUnder_13 ?_
    refine e_int (nI (s * 5 + 1)) (nI_add (s * 5) 1) ?_
    refine e_iaload (s * 5 + 1) dX8_pieceUnder_14 g2 (show q + 2 < fnx σ by omega) rfl (by omega) (by decide) ?_
    refine e_int (nI 1) ((Gr.2.2.1 s hs 1 (by decide)).trans (by rw [wy])) ?_
    refine e_if_ne 22 dX8_pieceUnder_15 (by decide) (fun _ => ?_) (fun c => absurd c (by decide))
    refine e_iconst (nI 0) dX8_pieceUnder_22 (by decide) ?_
    refine e_istore_n (L1 := [some (.ref k), some (.int (nI s)), some (.int (nI (s * 5))), some (.int (nI 0)), none, none, none, none, none]) dX8_pieceUnder_23 rfl (by decide) rfl ?_
    refine e_aload_n dX8_pieceUnder_24 rfl rfl ?_
    refine e_getR (q := q) dX8_pieceUnder_25 fl_RX8_56 y0 (show k < fnx σ by omega) rfl yr0 (by unfold fscr; omega) ?_
    refine e_getR (q := q + 2) dX8_pieceUnder_28 fl_RX8_71 g0 (show q < fnx σ by omega) rfl gr1 (by unfold fscr; omega) ?_
    refine e_iload_n dX8_pieceUnder_31 rfl rfl ?_
    refine e_iload_n dX8_pieceUnder_32 rfl rfl ?_
    refine e_if_eq 40 dX8_pieceUnder_33 (by decide) (fun _ => ?_) (fun c => absurd c (by decide))
    refine e_iconst (nI 3) dX8_pieceUnder_40 (by decide) ?_
    refine e_iadd dX8_pieceUnder_41 ?_
    refine e_int (nI (s * 5 + 3)) (nI_add (s * 5) 3) ?_
    refine e_iaload (s * 5 + 3) dX8_pieceUnder_42 g2 (show q + 2 < fnx σ by omega) rfl (by omega) (by decide) ?_
    refine e_int (nI (mX D s)) ((Gr.2.2.1 s hs 3 (by decide)).trans (by unfold mX; rw [wy]; rfl)) ?_
    refine e_istore (L1 := [some (.ref k), some (.int (nI s)), some (.int (nI (s * 5))), some (.int (nI 0)), some (.int (nI (mX D s))), none, none, none, none]) dX8_pieceUnder_43 (by decide) rfl ?_
    refine e_aload_n dX8_pieceUnder_45 rfl rfl ?_
    refine e_getR (q := q) dX8_pieceUnder_46 fl_RX8_56 y0 (show k < fnx σ by omega) rfl yr0 (by unfold fscr; omega) ?_
    refine e_getR (q := q + 2) dX8_pieceUnder_49 fl_RX8_71 g0 (show q < fnx σ by omega) rfl gr1 (by unfold fscr; omega) ?_
    refine e_iload_n dX8_pieceUnder_52 rfl rfl ?_
    refine e_iload_n dX8_pieceUnder_53 rfl rfl ?_
    refine e_if_eq 61 dX8_pieceUnder_54 (by decide) (fun _ => ?_) (fun c => absurd c (by decide))
    refine e_iconst (nI 2) dX8_pieceUnder_61 (by decide) ?_
    refine e_iadd dX8_pieceUnder_62 ?_
    refine e_int (nI (s * 5 + 2)) (nI_add (s * 5) 2) ?_
    refine e_iaload (s * 5 + 2) dX8_pieceUnder_63 g2 (show q + 2 < fnx σ by omega) rfl (by omega) (by decide) ?_
    refine e_int (nI (mY D s)) ((Gr.2.2.1 s hs 2 (by decide)).trans (by unfold mY; rw [wy]; rfl)) ?_
    refine e_istore (L1 := [some (.ref k), some (.int (nI s)), some (.int (nI (s * 5))), some (.int (nI 0)), some (.int (nI (mX D s))), some (.int (nI (mY D s))), none, none, none]) dX8_pieceUnder_64 (by decide) rfl ?_
    refine e_aload_n dX8_pieceUnder_66 rfl rfl ?_
    refine e_getR (q := q) dX8_pieceUnder_67 fl_RX8_56 y0 (show k < fnx σ by omega) rfl yr0 (by unfold fscr; omega) ?_
    refine e_getR (q := q + 2) dX8_pieceUnder_70 fl_RX8_71 g0 (show q < fnx σ by omega) rfl gr1 (by unfold fscr; omega) ?_
    refine e_iload_n dX8_pieceUnder_73 rfl rfl ?_
    refine e_iconst (nI 0) dX8_pieceUnder_74 (by decide) ?_
    refine e_iadd dX8_pieceUnder_75 ?_
    refine e_int (nI (s * 5)) (nI_add (s * 5) 0) ?_
    refine e_iaload (s * 5) dX8_pieceUnder_76 g2 (show q + 2 < fnx σ by omega) rfl (by omega) (by decide) ?_
    refine e_int (nI (dS D s 0)) (Gr.2.2.1 s hs 0 (by decide)) ?_
    refine e_istore (L1 := [some (.ref k), some (.int (nI s)), some (.int (nI (s * 5))), some (.int (nI 0)), some (.int (nI (mX D s))), some (.int (nI (mY D s))), some (.int (nI (dS D s 0))), none, none]) dX8_pieceUnder_77 (by decide) rfl ?_
    refine e_iconst (nI 0) dX8_pieceUnder_79 (by decide) ?_
    refine e_istore (L1 := [some (.ref k), some (.int (nI s)), some (.int (nI (s * 5))), some (.int (nI 0)), some (.int (nI (mX D s))), some (.int (nI (mY D s))), some (.int (nI (dS D s 0))), some (.int (nI 0)), none]) dX8_pieceUnder_80 (by decide) rfl ?_
    exact l_X8_pieceUnder Gs Gr hD Ys Yr hW hs (S 120) 0 none (by omega) h
set_option maxRecDepth 20000 in
theorem t_X8_isInside {g : fGP} {d : Nat} {σ : fAH} {Q : fRes → fAH → Prop} {k q s p ln m : Nat} {D : fSD} {S : Nat → Nat} {sd : Int32} (Gs : fGs g σ q) (Gr : fGr σ q D) (hD : fWD D) (Ys : fYs g σ k q) (Yr : fYr σ k D S m sd) (hW : fWS D S) (hs : s < dT D 1) (hp : p < S 120) (hl : ln < 1000) (h : Q (.inl (some (.int (nI (bn (mins D S s p ln)))))) σ) : fEv g (d + 1) mX8_isInside 0 (fent [.ref k, .int (nI p), .int (nI s), .int (nI ln)] 5) [] σ Q := by
  obtain ⟨⟨g0, g1, g2, g3, g4, g5⟩, ⟨gn, gK⟩, ⟨gr0, gr1, gr2, gr3, gr4⟩⟩ := id Gs
  obtain ⟨⟨y0, y1, y2, y3, y4, y5, y6⟩, ⟨yn, yK⟩, ⟨yr0, yr1, yr2, yr3, yr4, yr5, yr6⟩⟩ := id Ys
  obtain ⟨t0, t1, t2, t3, t4, t5, t6⟩ := id hD.1
  obtain ⟨s0, s1, s2, s3, s4, s5, s6⟩ := hD.2.2.1 s hs
  have np := hW.n hD
  obtain ⟨p0, p1, p2, p3, p4, p5⟩ := hW.2.1 p hp
  have hb : S (p * 6 + (1 + 2 * dS D s 1)) ≤ 12 ∧ S (p * 6 + (2 + 2 * dS D s 1)) ≤ 12 := by rcases (show dS D s 1 = 0 ∨ dS D s 1 = 1 by omega) with e | e; rw [e]; exact ⟨show S (p * 6 + 1) ≤ 12 by omega, show S (p * 6 + 2) ≤ 12 by omega⟩; rw [e]; exact ⟨show S (p * 6 + 3) ≤ 12 by omega, show S (p * 6 + 4) ≤ 12 by omega⟩
  show fEv g (d + 1) mX8_isInside 0 [some (.ref k), some (.int (nI p)), some (.int (nI s)), some (.int (nI ln)), none] [] σ Q
  refine e_iload_n dX8_isInside_0 rfl rfl ?_
  refine e_iconst (-1) dX8_isInside_1 (by decide) ?_
  refine e_icmp_ne 7 dX8_isInside_2 (by decide) (fun _ => ?_) (fun c => absurd c (nI_m1 (by omega)))
  refine e_aload_n dX8_isInside_7 rfl rfl ?_
  refine e_iload_n dX8_isInside_8 rfl rfl ?_
  refine e_iload_n dX8_isInside_9 rfl rfl ?_
  refine e_callV (k := k) [.int (nI p), .int (nI s)] dX8_isInside_10 cc_X8_lowEdge lk_RX8_93 im_X8_lowEdge se_X8_lowEdge (by decide) y0 (show k < fnx σ by omega) rfl (Nat.le_of_ble_eq_true rfl) (Nat.le_of_ble_eq_true rfl) ?_
  refine t_X8_lowEdge Gs Gr hD Ys hs (by omega) (fK_i ?_)
  show fEv g _ mX8_isInside 13 [some (.ref k), some (.int (nI p)), some (.int (nI s)), some (.int (nI ln)), none] [.int (nI (p * 6 + (1 + 2 * dS D s 1)))] σ Q
  refine e_istore (L1 := [some (.ref k), some (.int (nI p)), some (.int (nI s)), some (.int (nI ln)), some (.int (nI (p * 6 + (1 + 2 * dS D s 1))))]) dX8_isInside_13 (by decide) rfl ?_
  refine e_aload_n dX8_isInside_15 rfl rfl ?_
  refine e_getR (q := k + 1) dX8_isInside_16 fl_RX8_9 y0 (show k < fnx σ by omega) rfl yr1 (by unfold fscr; omega) ?_
  refine e_iload dX8_isInside_19 rfl ?_
  refine e_iaload (p * 6 + (1 + 2 * dS D s 1)) dX8_isInside_21 y1 (show k + 1 < fnx σ by omega) rfl (by omega) (by decide) ?_
  refine e_int (nI (S (p * 6 + (1 + 2 * dS D s 1)))) (Yr.2.1 p hp _ (by omega)) ?_
  refine e_iload_n dX8_isInside_22 rfl rfl ?_
  refine e_icmp_ge 43 dX8_isInside_23 (by decide) (fun c23 => ?_) (fun c23 => ?_)
  · rw [nI_le' (by omega) (by omega)] at c23
    have hm : mins D S s p ln = false := decide_eq_false (by intro hh; omega)
    rw [hm] at h
    refine e_iconst (nI 0) dX8_isInside_43 (by decide) ?_
    exact e_ireturn .boolean dX8_isInside_44 rfl (by decide) (h)
  · rw [nI_le' (by omega) (by omega)] at c23
    refine e_iload_n dX8_isInside_26 rfl rfl ?_
    refine e_aload_n dX8_isInside_27 rfl rfl ?_
    refine e_getR (q := k + 1) dX8_isInside_28 fl_RX8_9 y0 (show k < fnx σ by omega) rfl yr1 (by unfold fscr; omega) ?_
    refine e_iload dX8_isInside_31 rfl ?_
    refine e_iconst (nI 1) dX8_isInside_33 (by decide) ?_
    refine e_iadd dX8_isInside_34 ?_
    refine e_int (nI (p * 6 + (1 + 2 * dS D s 1) + 1)) (nI_add (p * 6 + (1 + 2 * dS D s 1)) 1) ?_
    refine e_iaload (p * 6 + (1 + 2 * dS D s 1) + 1) dX8_isInside_35 y1 (show k + 1 < fnx σ by omega) rfl (by omega) (by decide) ?_
    refine e_int (nI (S (p * 6 + (2 + 2 * dS D s 1)))) (show fI σ (k + 1) (p * 6 + (1 + 2 * dS D s 1) + 1) = nI (S (p * 6 + (2 + 2 * dS D s 1))) by rw [show p * 6 + (1 + 2 * dS D s 1) + 1 = p * 6 + (2 + 2 * dS D s 1) by omega]; exact Yr.2.1 p hp _ (by omega)) ?_
    refine e_icmp_ge 43 dX8_isInside_36 (by decide) (fun c36 => ?_) (fun c36 => ?_)
    · rw [nI_le' (by omega) (by omega)] at c36
      have hm : mins D S s p ln = false := decide_eq_false (by intro hh; omega)
      rw [hm] at h
      refine e_iconst (nI 0) dX8_isInside_43 (by decide) ?_
      exact e_ireturn .boolean dX8_isInside_44 rfl (by decide) (h)
    · rw [nI_le' (by omega) (by omega)] at c36
      have hm : mins D S s p ln = true := decide_eq_true (by constructor <;> omega)
      rw [hm] at h
      refine e_iconst (nI 1) dX8_isInside_39 (by decide) ?_
      refine e_goto 44 dX8_isInside_40 (by decide) ?_
      exact e_ireturn .boolean dX8_isInside_44 rfl (by decide) (h)
set_option maxRecDepth 20000 in
theorem t_X8_isInside_no {g : fGP} {d : Nat} {σ : fAH} {Q : fRes → fAH → Prop} {k : Nat} {x2 x3 : Int32} (h : Q (.inl (some (.int (nI 0)))) σ) : fEv g d mX8_isInside 0 (fent [.ref k, .int (-1), .int x2, .int x3] 5) [] σ Q := by
  show fEv g d mX8_isInside 0 [some (.ref k), some (.int (-1)), some (.int x2), some (.int x3), none] [] σ Q
  refine e_iload_n dX8_isInside_0 rfl rfl ?_
  refine e_iconst (-1) dX8_isInside_1 (by decide) ?_
  refine e_icmp_ne 7 dX8_isInside_2 (by decide) (fun c => absurd rfl c) (fun _ => ?_)
  refine e_iconst (nI 0) dX8_isInside_5 (by decide) ?_
  exact e_ireturn .boolean dX8_isInside_6 rfl (by decide) (h)
set_option maxRecDepth 20000 in
theorem t_X8_isAlive {g : fGP} {d : Nat} {σ : fAH} {Q : fRes → fAH → Prop} {k q s m : Nat} {D : fSD} {S : Nat → Nat} {sd : Int32} (Gs : fGs g σ q) (Gr : fGr σ q D) (hD : fWD D) (Ys : fYs g σ k q) (Yr : fYr σ k D S m sd) (hW : fWS D S) (hs : s < dT D 1) (h : Q (.inl (some (.int (nI (bn (mal D S s)))))) σ) : fEv g (d + 2) mX8_isAlive 0 (fent [.ref k, .int (nI s)] 3) [] σ Q := by
  obtain ⟨⟨g0, g1, g2, g3, g4, g5⟩, ⟨gn, gK⟩, ⟨gr0, gr1, gr2, gr3, gr4⟩⟩ := id Gs
  obtain ⟨⟨y0, y1, y2, y3, y4, y5, y6⟩, ⟨yn, yK⟩, ⟨yr0, yr1, yr2, yr3, yr4, yr5, yr6⟩⟩ := id Ys
  obtain ⟨t0, t1, t2, t3, t4, t5, t6⟩ := id hD.1
  obtain ⟨s0, s1, s2, s3, s4, s5, s6⟩ := hD.2.2.1 s hs
  have sb := hD.s2 hs
  have np := hW.n hD
  have mb := Yr.2.2.2.2.1
  have hbit := bit_sp (Yr.2.2.2.2.2 s (by omega))
  show fEv g (d + 2) mX8_isAlive 0 [some (.ref k), some (.int (nI s)), none] [] σ Q
  refine e_aload_n dX8_isAlive_0 rfl rfl ?_
  refine e_getI dX8_isAlive_1 fl_RX8_22 y0 (show k < fnx σ by omega) rfl ?_
  refine e_int (nI m) Yr.1.2.1 ?_
  refine e_iload_n dX8_isAlive_4 rfl rfl ?_
  refine e_ishr dX8_isAlive_5 ?_
  refine e_int (nI (m / 2 ^ s)) (nI_shr (by omega) (by omega)) ?_
  refine e_iconst (nI 1) dX8_isAlive_6 (by decide) ?_
  refine e_iand dX8_isAlive_7 ?_
  refine e_int (nI (m / 2 ^ s % 2)) (nI_and1 (Nat.lt_of_le_of_lt (Nat.div_le_self _ _) (by omega))) ?_
  refine e_iconst (nI 1) dX8_isAlive_8 (by decide) ?_
  refine e_icmp_ne 14 dX8_isAlive_9 (by decide) (fun c9 => ?_) (fun c9 => ?_)
  · rw [nI_inj (by omega) (by omega)] at c9
    have hz : decide (S (133 + s) = 0) = true := decide_eq_true (by rcases Nat.eq_zero_or_pos (S (133 + s)) with z | z; exact z; exact absurd (hbit.mpr z) c9)
    have ha : Q (.inl (some (.int (nI (bn (match mpc D S s with | none => false | some p => mins D S s p (dS D s 2))))))) σ := by unfold mal at h; rw [hz] at h; exact h
    refine e_aload_n dX8_isAlive_14 rfl rfl ?_
    refine e_iload_n dX8_isAlive_15 rfl rfl ?_
    refine e_callV (k := k) [.int (nI s)] dX8_isAlive_16 cc_X8_pieceUnder lk_RX8_97 im_X8_pieceUnder se_X8_pieceUnder (by decide) y0 (show k < fnx σ by omega) rfl (Nat.le_of_ble_eq_true rfl) (Nat.le_of_ble_eq_true rfl) ?_
    refine t_X8_pieceUnder Gs Gr hD Ys Yr hW hs (fK_i ?_)
    show fEv g _ mX8_isAlive 19 [some (.ref k), some (.int (nI s)), none] [.int (mo (mpc D S s))] σ Q
    cases hpc : mpc D S s with
    | none =>
      refine e_int (-1) rfl ?_
      rw [hpc] at ha
      refine e_istore_n (L1 := [some (.ref k), some (.int (nI s)), some (.int ((-1)))]) dX8_isAlive_19 rfl (by decide) rfl ?_
      refine e_iload_n dX8_isAlive_20 rfl rfl ?_
      refine e_iconst (-1) dX8_isAlive_21 (by decide) ?_
      refine e_icmp_eq 51 dX8_isAlive_22 (by decide) (fun _ => ?_) (fun c => absurd rfl c)
      refine e_iconst (nI 0) dX8_isAlive_51 (by decide) ?_
      exact e_ireturn .boolean dX8_isAlive_52 rfl (by decide) ha
    | some p =>
      refine e_int (nI p) rfl ?_
      have hp := (mpc_lt hpc).1
      rw [hpc] at ha
      have ha : Q (.inl (some (.int (nI (bn (mins D S s p (dS D s 2))))))) σ := ha
      refine e_istore_n (L1 := [some (.ref k), some (.int (nI s)), some (.int (nI p))]) dX8_isAlive_19 rfl (by decide) rfl ?_
      refine e_iload_n dX8_isAlive_20 rfl rfl ?_
      refine e_iconst (-1) dX8_isAlive_21 (by decide) ?_
      refine e_icmp_eq 51 dX8_isAlive_22 (by decide) (fun c => absurd c (nI_m1 (by omega))) (fun _ => ?_)
      refine e_aload_n dX8_isAlive_25 rfl rfl ?_
      refine e_iload_n dX8_isAlive_26 rfl rfl ?_
      refine e_iload_n dX8_isAlive_27 rfl rfl ?_
      refine e_aload_n dX8_isAlive_28 rfl rfl ?_
      refine e_getR (q := q) dX8_isAlive_29 fl_RX8_56 y0 (show k < fnx σ by omega) rfl yr0 (by unfold fscr; omega) ?_
      refine e_getR (q := q + 2) dX8_isAlive_32 fl_RX8_71 g0 (show q < fnx σ by omega) rfl gr1 (by unfold fscr; omega) ?_
      refine e_iload_n dX8_isAlive_35 rfl rfl ?_
      refine e_iconst (nI 5) dX8_isAlive_36 (by decide) ?_
      refine e_imul dX8_isAlive_37 ?_
      refine e_int (nI (s * 5)) (pk_mul s 5) ?_
      refine e_iconst (nI 2) dX8_isAlive_38 (by decide) ?_
      refine e_iadd dX8_isAlive_39 ?_
      refine e_int (nI (s * 5 + 2)) (nI_add (s * 5) 2) ?_
      refine e_iaload (s * 5 + 2) dX8_isAlive_40 g2 (show q + 2 < fnx σ by omega) rfl (by omega) (by decide) ?_
      refine e_int (nI (dS D s 2)) (Gr.2.2.1 s hs 2 (by decide)) ?_
      refine e_callV (k := k) [.int (nI p), .int (nI s), .int (nI (dS D s 2))] dX8_isAlive_41 cc_X8_isInside lk_RX8_101 im_X8_isInside se_X8_isInside (by decide) y0 (show k < fnx σ by omega) rfl (Nat.le_of_ble_eq_true rfl) (Nat.le_of_ble_eq_true rfl) ?_
      refine t_X8_isInside Gs Gr hD Ys Yr hW hs hp (by omega) (fK_i ?_)
      show fEv g _ mX8_isAlive 44 [some (.ref k), some (.int (nI s)), some (.int (nI p))] [.int (nI (bn (mins D S s p (dS D s 2))))] σ Q
      refine e_if_eq 51 dX8_isAlive_44 (by decide) (fun c44 => ?_) (fun c44 => ?_)
      · have hm : mins D S s p (dS D s 2) = false := by cases hc : mins D S s p (dS D s 2) <;> rw [hc] at c44 <;> first | rfl | (exact absurd c44 (by decide))
        rw [hm] at ha
        refine e_iconst (nI 0) dX8_isAlive_51 (by decide) ?_
        exact e_ireturn .boolean dX8_isAlive_52 rfl (by decide) ha
      · have hm : mins D S s p (dS D s 2) = true := by cases hc : mins D S s p (dS D s 2) <;> rw [hc] at c44 <;> first | rfl | (exact absurd (by decide) c44)
        rw [hm] at ha
        refine e_iconst (nI 1) dX8_isAlive_47 (by decide) ?_
        refine e_goto 52 dX8_isAlive_48 (by decide) ?_
        exact e_ireturn .boolean dX8_isAlive_52 rfl (by decide) ha
  · rw [nI_inj (by omega) (by omega)] at c9
    have c9 := hbit.mp c9
    have hz : decide (S (133 + s) = 0) = false := decide_eq_false (by omega)
    unfold mal at h
    rw [hz] at h
    refine e_iconst (nI 0) dX8_isAlive_12 (by decide) ?_
    exact e_ireturn .boolean dX8_isAlive_13 rfl (by decide) h
