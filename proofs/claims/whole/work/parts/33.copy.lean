theorem yyl {k j : Nat} (hY : k ∈ [15, 22, 37, 46, 59, 69, 79]) (hJ : j ∈ [15, 22, 37, 46, 59, 69, 79]) (h : j ≠ k) : k + 6 < j ∨ j + 6 < k := by
  simp only [List.mem_cons, List.not_mem_nil, or_false] at hY hJ
  omega
theorem ysy {k j : Nat} (hY : k ∈ [15, 22, 37, 46, 59, 69, 79]) (hJ : j ∈ [15, 22, 37, 46, 59, 69, 79]) (h : j ≠ k) : ∀ i, i < 7 → ¬ fYA k (j + i) := by
  intro i hi
  have := yyl hY hJ h
  unfold fYA
  omega
theorem fYf.sm {A : Nat → Prop} {σ σ1 : fAH} {k : Nat} {D : fSD} {S : Nat → Nat} {T : Nat → Int32} {sd : Int32} (h : fYf σ k D S T sd) (s : fSm A σ σ1) (na : ∀ i, i < 7 → ¬ A (k + i)) : fYf σ1 k D S T sd := by
  obtain ⟨⟨m, Yr⟩, Yt⟩ := h
  exact ⟨⟨m, Yr.sm s na⟩, Yt.sm s na⟩
set_option maxRecDepth 20000 in
theorem t_X8_drawCold {g : fGP} {d : Nat} {σ : fAH} {Q : fRes → fAH → Prop} {k m : Nat} {D : fSD} {S : Nat → Nat} {T : Nat → Int32} {sd : Int32} (Ms : fMs g σ) (hY : k ∈ [15, 22, 37, 46, 59, 69, 79]) (Gr : fGr σ 2 D) (hD : fWD D) (Yr : fYr σ k D S m sd) (Yt : fYt σ k S T) (hW : fWS D S) (hC : fWC D S) (hn : S 155 < 30) (h : ∀ σ', fSm (fYA k) σ σ' → fYf σ' k D S T (mdc D S sd).2 → Q (.inl (some (.int (nI (mdc D S sd).1)))) σ') : fEv g (d + 2) mX8_drawCold 0 (fent [.ref k] 1) [] σ Q := by
  have yl := fyl hY
  have Gs := Ms.ground (k := 2) (by decide)
  have Ys := Ms.yard hY
  obtain ⟨⟨g0, g1, g2, g3, g4, g5⟩, ⟨gn, gK⟩, ⟨gr0, gr1, gr2, gr3, gr4⟩⟩ := id Gs
  obtain ⟨⟨y0, y1, y2, y3, y4, y5, y6⟩, ⟨yn, yK⟩, ⟨yr0, yr1, yr2, yr3, yr4, yr5, yr6⟩⟩ := id Ys
  obtain ⟨t0, t1, t2, t3, t4, t5, t6⟩ := id hD.1
  have np := hW.n hD
  show fEv g (d + 2) mX8_drawCold 0 [some (.ref k)] [] σ Q
  refine e_aload_n dX8_drawCold_0 rfl rfl ?_
  refine e_getI dX8_drawCold_1 fl_RX8_41 y0 (show k < fnx σ by omega) rfl ?_
  refine e_int (nI (S 155)) Yr.1.2.2.1 ?_
  refine e_bipush (nI 30) dX8_drawCold_4 (by decide) ?_
  refine e_icmp_ge 44 dX8_drawCold_6 (by decide) (fun c => absurd ((nI_le' (by omega) (by omega)).mp c) (by omega)) (fun _ => ?_)
  refine e_aload_n dX8_drawCold_9 rfl rfl ?_
  refine e_getR (q := 2) dX8_drawCold_10 fl_RX8_56 y0 (show k < fnx σ by omega) rfl yr0 (by unfold fscr; omega) ?_
  refine e_aload_n dX8_drawCold_13 rfl rfl ?_
  refine e_getI dX8_drawCold_14 fl_RX8_41 y0 (show k < fnx σ by omega) rfl ?_
  refine e_int (nI (S 155)) Yr.1.2.2.1 ?_
  refine e_callV (k := 2) [.int (nI (S 155))] dX8_drawCold_17 cc_X3_hasOdds lk_RX8_121 im_X3_hasOdds se_X3_hasOdds (by decide) g0 (show 2 < fnx σ by omega) rfl (Nat.le_of_ble_eq_true rfl) (Nat.le_of_ble_eq_true rfl) ?_
  refine t_X3_hasOdds Gs Gr hD (by omega) (fK_i ?_)
  show fEv g _ mX8_drawCold 20 [some (.ref k)] [.int (nI (bn (decide (0 < mall D (S 155)))))] σ Q
  refine e_if_eq 44 dX8_drawCold_20 (by decide) (fun c20 => ?_) (fun c20 => ?_)
  · have c20 := bn0 c20
    refine e_iconst (nI 0) dX8_drawCold_44 (by decide) ?_
    have hm : mdc D S sd = (0, sd) := if_neg (of_decide_eq_false c20)
    rw [hm] at h
    exact e_ireturn .int dX8_drawCold_45 rfl rfl (h _ fSm.rfl' ⟨⟨_, Yr⟩, Yt⟩)
  · have c20 := bn1 c20
    refine e_aload_n dX8_drawCold_23 rfl rfl ?_
    refine e_getR (q := 2) dX8_drawCold_24 fl_RX8_56 y0 (show k < fnx σ by omega) rfl yr0 (by unfold fscr; omega) ?_
    refine e_aload_n dX8_drawCold_27 rfl rfl ?_
    refine e_getI dX8_drawCold_28 fl_RX8_41 y0 (show k < fnx σ by omega) rfl ?_
    refine e_int (nI (S 155)) Yr.1.2.2.1 ?_
    refine e_aload_n dX8_drawCold_31 rfl rfl ?_
    refine e_getR (q := k + 6) dX8_drawCold_32 fl_RX8_37 y0 (show k < fnx σ by omega) rfl yr6 (by unfold fscr; omega) ?_
    refine e_callV (k := k + 6) [] dX8_drawCold_35 cc_X4_eighth lk_RX8_124 im_X4_eighth se_X4_eighth (by decide) y6 (show k + 6 < fnx σ by omega) rfl (Nat.le_of_ble_eq_true rfl) (Nat.le_of_ble_eq_true rfl) ?_
    refine t_X4_eighth y6 (show k + 6 < fnx σ by omega) Yr.1.2.2.2.2.2.2.2 (fK_i ?_)
    show fEv g _ mX8_drawCold 38 [some (.ref k)] [.int (nI (d8 sd)), .int (nI (S 155)), .ref 2] (fsI σ (k + 6) 0 (sdn sd)) Q
    have Yr1 := Yr.sdx (sdn sd)
    have Yt1 : fYt (fsI σ (k + 6) 0 (sdn sd)) k S T := Yt.cg (fI_ne (by omega)) (fI_ne (by omega)) rfl rfl
    have Sm1 : fSm (fYA k) σ (fsI σ (k + 6) 0 (sdn sd)) := fSm_I ⟨by omega, by omega⟩
    generalize fsI σ (k + 6) 0 (sdn sd) = σ1 at Yr1 Yt1 Sm1 ⊢
    have Ms1 := Ms.sm (Sm1)
    have Gs1 := Ms1.ground (k := 2) (by decide)
    have Ys1 := Ms1.yard hY
    have Gr1 := Gr.y Sm1 hY
    have en1 : fnx σ1 = fnx σ := Sm1.n
    have vl := d8_lt sd
    refine e_callV (k := 2) [.int (nI (S 155)), .int (nI (d8 sd))] dX8_drawCold_38 cc_X3_coldOf lk_RX8_128 im_X3_coldOf se_X3_coldOf (by decide) g0 (show 2 < fnx σ1 by omega) rfl (Nat.le_of_ble_eq_true rfl) (Nat.le_of_ble_eq_true rfl) ?_
    refine t_X3_coldOf Gs1 Gr1 hD (by omega) (by first | omega | exact d8_lt _) (fK_i ?_)
    show fEv g _ mX8_drawCold 41 [some (.ref k)] [.int (nI (mco D (S 155) (d8 sd) (dT D 6) 0 0))] σ1 Q
    refine e_goto 45 dX8_drawCold_41 (by decide) ?_
    have hm : mdc D S sd = (mco D (S 155) (d8 sd) (dT D 6) 0 0, sdn sd) := if_pos (of_decide_eq_true c20)
    rw [hm] at h
    exact e_ireturn .int dX8_drawCold_45 rfl rfl (h _ Sm1 ⟨⟨_, Yr1⟩, Yt1⟩)
set_option maxRecDepth 20000 in
theorem t_X8_copyFrom {g : fGP} {d : Nat} {σ : fAH} {Q : fRes → fAH → Prop} {k j m : Nat} {D : fSD} {S : Nat → Nat} {T : Nat → Int32} {sd : Int32} (Ms : fMs g σ) (hY : k ∈ [15, 22, 37, 46, 59, 69, 79]) (hJ : j ∈ [15, 22, 37, 46, 59, 69, 79]) (hjk : j ≠ k) (hD : fWD D) (Yr : fYr σ j D S m sd) (Yt : fYt σ j S T) (hW : fWS D S) (h : ∀ σ', fSm (fYA k) σ σ' → fYf σ' k D S T sd → Q (.inl none) σ') : fEv g d mX8_copyFrom 0 (fent [.ref k, .ref j] 2) [] σ Q := by
  have yy := yyl hY hJ hjk
  have yl := fyl hY
  have Gs := Ms.ground (k := 2) (by decide)
  have Ys := Ms.yard hY
  have Zs := Ms.yard hJ
  obtain ⟨⟨g0, g1, g2, g3, g4, g5⟩, ⟨gn, gK⟩, ⟨gr0, gr1, gr2, gr3, gr4⟩⟩ := id Gs
  obtain ⟨⟨y0, y1, y2, y3, y4, y5, y6⟩, ⟨yn, yK⟩, ⟨yr0, yr1, yr2, yr3, yr4, yr5, yr6⟩⟩ := id Ys
  obtain ⟨⟨z0, z1, z2, z3, z4, z5, z6⟩, ⟨zn, zK⟩, ⟨zr0, zr1, zr2, zr3, zr4, zr5, zr6⟩⟩ := id Zs
  obtain ⟨t0, t1, t2, t3, t4, t5, t6⟩ := id hD.1
  have np := hW.n hD
  have n5 := hW.2.2.2.2
  have n2 := hW.1.2
  show fEv g d mX8_copyFrom 0 [some (.ref k), some (.ref j)] [] σ Q
  refine e_aload_n dX8_copyFrom_0 rfl rfl ?_
  refine e_getR (q := j + 1) dX8_copyFrom_1 fl_RX8_9 z0 (show j < fnx σ by omega) rfl zr1 (by unfold fscr; omega) ?_
  refine e_iconst (nI 0) dX8_copyFrom_4 (by decide) ?_
  refine e_aload_n dX8_copyFrom_5 rfl rfl ?_
  refine e_getR (q := k + 1) dX8_copyFrom_6 fl_RX8_9 y0 (show k < fnx σ by omega) rfl yr1 (by unfold fscr; omega) ?_
  refine e_iconst (nI 0) dX8_copyFrom_9 (by decide) ?_
  refine e_aload_n dX8_copyFrom_10 rfl rfl ?_
  refine e_getI dX8_copyFrom_11 fl_RX8_15 z0 (show j < fnx σ by omega) rfl ?_
  refine e_int (nI (S 120)) Yr.1.1 ?_
  refine e_bipush (nI 6) dX8_copyFrom_14 (by decide) ?_
  refine e_imul dX8_copyFrom_16 ?_
  refine e_int (nI ((S 120) * 6)) (pk_mul (S 120) 6) ?_
  refine e_copy 0 0 ((S 120) * 6) dX8_copyFrom_17 ml_RX8_83 z1 y1 (show j + 1 < fnx σ by omega) (show k + 1 < fnx σ by omega) Ms.2.2.2 rfl rfl rfl (by omega) (by omega) (by decide) (by decide) (Nat.le_of_ble_eq_true rfl) w_copy ?_
  refine e_aload_n dX8_copyFrom_20 rfl rfl ?_
  refine e_aload_n dX8_copyFrom_21 rfl rfl ?_
  refine e_getI dX8_copyFrom_22 fl_RX8_15 z0 (show j < fnx σ by omega) rfl ?_
  refine e_int (nI (S 120)) (by rw [fI_C, if_neg (by omega)]; exact Yr.1.1) ?_
  refine e_putI dX8_copyFrom_25 fl_RX8_15 y0 (show k < fnx σ by omega) rfl rfl ?_
  refine e_aload_n dX8_copyFrom_28 rfl rfl ?_
  refine e_getR (q := j + 2) dX8_copyFrom_29 fl_RX8_19 z0 (show j < fnx σ by omega) rfl zr2 (by unfold fscr; omega) ?_
  refine e_iconst (nI 0) dX8_copyFrom_32 (by decide) ?_
  refine e_aload_n dX8_copyFrom_33 rfl rfl ?_
  refine e_getR (q := k + 2) dX8_copyFrom_34 fl_RX8_19 y0 (show k < fnx σ by omega) rfl yr2 (by unfold fscr; omega) ?_
  refine e_iconst (nI 0) dX8_copyFrom_37 (by decide) ?_
  refine e_aload_n dX8_copyFrom_38 rfl rfl ?_
  refine e_getR (q := k + 2) dX8_copyFrom_39 fl_RX8_19 y0 (show k < fnx σ by omega) rfl yr2 (by unfold fscr; omega) ?_
  refine e_alen dX8_copyFrom_42 y2 (by decide) (show k + 2 < fnx σ by omega) ?_
  refine e_copy 0 0 12 dX8_copyFrom_43 ml_RX8_83 z2 y2 (show j + 2 < fnx σ by omega) (show k + 2 < fnx σ by omega) (show 0 < fgb σ from Ms.2.2.2) rfl rfl rfl (by omega) (by omega) (by decide) (by decide) (Nat.le_of_ble_eq_true rfl) w_copy ?_
  refine e_aload_n dX8_copyFrom_46 rfl rfl ?_
  refine e_aload_n dX8_copyFrom_47 rfl rfl ?_
  refine e_getI dX8_copyFrom_48 fl_RX8_22 z0 (show j < fnx σ by omega) rfl ?_
  refine e_int (nI m) (by rw [fI_C, if_neg (by omega), fI_I, if_neg (by omega), fI_C, if_neg (by omega)]; exact Yr.1.2.1) ?_
  refine e_putI dX8_copyFrom_51 fl_RX8_22 y0 (show k < fnx σ by omega) rfl rfl ?_
  refine e_aload_n dX8_copyFrom_54 rfl rfl ?_
  refine e_getR (q := j + 3) dX8_copyFrom_55 fl_RX8_25 z0 (show j < fnx σ by omega) rfl zr3 (by unfold fscr; omega) ?_
  refine e_iconst (nI 0) dX8_copyFrom_58 (by decide) ?_
  refine e_aload_n dX8_copyFrom_59 rfl rfl ?_
  refine e_getR (q := k + 3) dX8_copyFrom_60 fl_RX8_25 y0 (show k < fnx σ by omega) rfl yr3 (by unfold fscr; omega) ?_
  refine e_iconst (nI 0) dX8_copyFrom_63 (by decide) ?_
  refine e_aload_n dX8_copyFrom_64 rfl rfl ?_
  refine e_getR (q := k + 3) dX8_copyFrom_65 fl_RX8_25 y0 (show k < fnx σ by omega) rfl yr3 (by unfold fscr; omega) ?_
  refine e_alen dX8_copyFrom_68 y3 (by decide) (show k + 3 < fnx σ by omega) ?_
  refine e_copy 0 0 6 dX8_copyFrom_69 ml_RX8_83 z3 y3 (show j + 3 < fnx σ by omega) (show k + 3 < fnx σ by omega) (show 0 < fgb σ from Ms.2.2.2) rfl rfl rfl (by omega) (by omega) (by decide) (by decide) (Nat.le_of_ble_eq_true rfl) w_copy ?_
  refine e_aload_n dX8_copyFrom_72 rfl rfl ?_
  refine e_getR (q := j + 4) dX8_copyFrom_73 fl_RX8_28 z0 (show j < fnx σ by omega) rfl zr4 (by unfold fscr; omega) ?_
  refine e_iconst (nI 0) dX8_copyFrom_76 (by decide) ?_
  refine e_aload_n dX8_copyFrom_77 rfl rfl ?_
  refine e_getR (q := k + 4) dX8_copyFrom_78 fl_RX8_28 y0 (show k < fnx σ by omega) rfl yr4 (by unfold fscr; omega) ?_
  refine e_iconst (nI 0) dX8_copyFrom_81 (by decide) ?_
  refine e_aload_n dX8_copyFrom_82 rfl rfl ?_
  refine e_getI dX8_copyFrom_83 fl_RX8_41 z0 (show j < fnx σ by omega) rfl ?_
  refine e_int (nI (S 155)) (by rw [fI_C, if_neg (by omega), fI_I, if_neg (by omega), fI_C, if_neg (by omega), fI_I, if_neg (by omega), fI_C, if_neg (by omega)]; exact Yr.1.2.2.1) ?_
  refine e_copy 0 0 (S 155) dX8_copyFrom_86 ml_RX8_83 z4 y4 (show j + 4 < fnx σ by omega) (show k + 4 < fnx σ by omega) (show 0 < fgb σ from Ms.2.2.2) rfl rfl rfl (by omega) (by omega) (by decide) (by decide) (Nat.le_of_ble_eq_true rfl) w_copy ?_
  refine e_aload_n dX8_copyFrom_89 rfl rfl ?_
  refine e_getR (q := j + 5) dX8_copyFrom_90 fl_RX8_31 z0 (show j < fnx σ by omega) rfl zr5 (by unfold fscr; omega) ?_
  refine e_iconst (nI 0) dX8_copyFrom_93 (by decide) ?_
  refine e_aload_n dX8_copyFrom_94 rfl rfl ?_
  refine e_getR (q := k + 5) dX8_copyFrom_95 fl_RX8_31 y0 (show k < fnx σ by omega) rfl yr5 (by unfold fscr; omega) ?_
  refine e_iconst (nI 0) dX8_copyFrom_98 (by decide) ?_
  refine e_aload_n dX8_copyFrom_99 rfl rfl ?_
  refine e_getI dX8_copyFrom_100 fl_RX8_47 z0 (show j < fnx σ by omega) rfl ?_
  refine e_int (nI (S 152)) (by rw [fI_C, if_neg (by omega), fI_C, if_neg (by omega), fI_I, if_neg (by omega), fI_C, if_neg (by omega), fI_I, if_neg (by omega), fI_C, if_neg (by omega)]; exact Yr.1.2.2.2.2.1) ?_
  refine e_iconst (nI 4) dX8_copyFrom_103 (by decide) ?_
  refine e_imul dX8_copyFrom_104 ?_
  refine e_int (nI ((S 152) * 4)) (pk_mul (S 152) 4) ?_
  refine e_copy 0 0 ((S 152) * 4) dX8_copyFrom_105 ml_RX8_83 z5 y5 (show j + 5 < fnx σ by omega) (show k + 5 < fnx σ by omega) (show 0 < fgb σ from Ms.2.2.2) rfl rfl rfl (by omega) (by omega) (by decide) (by decide) (Nat.le_of_ble_eq_true rfl) w_copy ?_
  refine e_aload_n dX8_copyFrom_108 rfl rfl ?_
  refine e_getR (q := k + 6) dX8_copyFrom_109 fl_RX8_37 y0 (show k < fnx σ by omega) rfl yr6 (by unfold fscr; omega) ?_
  refine e_aload_n dX8_copyFrom_112 rfl rfl ?_
  refine e_getR (q := j + 6) dX8_copyFrom_113 fl_RX8_37 z0 (show j < fnx σ by omega) rfl zr6 (by unfold fscr; omega) ?_
  refine e_getI dX8_copyFrom_116 fl_RX8_80 z6 (show j + 6 < fnx σ by omega) rfl ?_
  refine e_int (sd) (by rw [fI_C, if_neg (by omega), fI_C, if_neg (by omega), fI_C, if_neg (by omega), fI_I, if_neg (by omega), fI_C, if_neg (by omega), fI_I, if_neg (by omega), fI_C, if_neg (by omega)]; exact Yr.1.2.2.2.2.2.2.2) ?_
  refine e_putI dX8_copyFrom_119 fl_RX8_80 y6 (show k + 6 < fnx σ by omega) rfl rfl ?_
  refine e_aload_n dX8_copyFrom_122 rfl rfl ?_
  refine e_aload_n dX8_copyFrom_123 rfl rfl ?_
  refine e_getI dX8_copyFrom_124 fl_RX8_41 z0 (show j < fnx σ by omega) rfl ?_
  refine e_int (nI (S 155)) (by rw [fI_I, if_neg (by omega), fI_C, if_neg (by omega), fI_C, if_neg (by omega), fI_C, if_neg (by omega), fI_I, if_neg (by omega), fI_C, if_neg (by omega), fI_I, if_neg (by omega), fI_C, if_neg (by omega)]; exact Yr.1.2.2.1) ?_
  refine e_putI dX8_copyFrom_127 fl_RX8_41 y0 (show k < fnx σ by omega) rfl rfl ?_
  refine e_aload_n dX8_copyFrom_130 rfl rfl ?_
  refine e_aload_n dX8_copyFrom_131 rfl rfl ?_
  refine e_getI dX8_copyFrom_132 fl_RX8_44 z0 (show j < fnx σ by omega) rfl ?_
  refine e_int (nI (S 151)) (by rw [fI_I, if_neg (by omega), fI_I, if_neg (by omega), fI_C, if_neg (by omega), fI_C, if_neg (by omega), fI_C, if_neg (by omega), fI_I, if_neg (by omega), fI_C, if_neg (by omega), fI_I, if_neg (by omega), fI_C, if_neg (by omega)]; exact Yr.1.2.2.2.1) ?_
  refine e_putI dX8_copyFrom_135 fl_RX8_44 y0 (show k < fnx σ by omega) rfl rfl ?_
  refine e_aload_n dX8_copyFrom_138 rfl rfl ?_
  refine e_aload_n dX8_copyFrom_139 rfl rfl ?_
  refine e_getI dX8_copyFrom_140 fl_RX8_47 z0 (show j < fnx σ by omega) rfl ?_
  refine e_int (nI (S 152)) (by rw [fI_I, if_neg (by omega), fI_I, if_neg (by omega), fI_I, if_neg (by omega), fI_C, if_neg (by omega), fI_C, if_neg (by omega), fI_C, if_neg (by omega), fI_I, if_neg (by omega), fI_C, if_neg (by omega), fI_I, if_neg (by omega), fI_C, if_neg (by omega)]; exact Yr.1.2.2.2.2.1) ?_
  refine e_putI dX8_copyFrom_143 fl_RX8_47 y0 (show k < fnx σ by omega) rfl rfl ?_
  refine e_aload_n dX8_copyFrom_146 rfl rfl ?_
  refine e_aload_n dX8_copyFrom_147 rfl rfl ?_
  refine e_getI dX8_copyFrom_148 fl_RX8_50 z0 (show j < fnx σ by omega) rfl ?_
  refine e_int (nI (S 153)) (by rw [fI_I, if_neg (by omega), fI_I, if_neg (by omega), fI_I, if_neg (by omega), fI_I, if_neg (by omega), fI_C, if_neg (by omega), fI_C, if_neg (by omega), fI_C, if_neg (by omega), fI_I, if_neg (by omega), fI_C, if_neg (by omega), fI_I, if_neg (by omega), fI_C, if_neg (by omega)]; exact Yr.1.2.2.2.2.2.1) ?_
  refine e_putI dX8_copyFrom_151 fl_RX8_50 y0 (show k < fnx σ by omega) rfl rfl ?_
  refine e_aload_n dX8_copyFrom_154 rfl rfl ?_
  refine e_aload_n dX8_copyFrom_155 rfl rfl ?_
  refine e_getI dX8_copyFrom_156 fl_RX8_53 z0 (show j < fnx σ by omega) rfl ?_
  refine e_int (nI (S 154)) (by rw [fI_I, if_neg (by omega), fI_I, if_neg (by omega), fI_I, if_neg (by omega), fI_I, if_neg (by omega), fI_I, if_neg (by omega), fI_C, if_neg (by omega), fI_C, if_neg (by omega), fI_C, if_neg (by omega), fI_I, if_neg (by omega), fI_C, if_neg (by omega), fI_I, if_neg (by omega), fI_C, if_neg (by omega)]; exact Yr.1.2.2.2.2.2.2.1) ?_
  refine e_putI dX8_copyFrom_159 fl_RX8_53 y0 (show k < fnx σ by omega) rfl rfl ?_
  refine e_return dX8_copyFrom_162 rfl (h _ ((((((((((((((fSm_C (A := fYA k) ⟨by omega, by omega⟩).tr (fSm_I (A := fYA k) ⟨by omega, by omega⟩)).tr (fSm_C (A := fYA k) ⟨by omega, by omega⟩)).tr (fSm_I (A := fYA k) ⟨by omega, by omega⟩)).tr (fSm_C (A := fYA k) ⟨by omega, by omega⟩)).tr (fSm_C (A := fYA k) ⟨by omega, by omega⟩)).tr (fSm_C (A := fYA k) ⟨by omega, by omega⟩)).tr (fSm_I (A := fYA k) ⟨by omega, by omega⟩)).tr (fSm_I (A := fYA k) ⟨by omega, by omega⟩)).tr (fSm_I (A := fYA k) ⟨by omega, by omega⟩)).tr (fSm_I (A := fYA k) ⟨by omega, by omega⟩)).tr (fSm_I (A := fYA k) ⟨by omega, by omega⟩)).tr (fSm_I (A := fYA k) ⟨by omega, by omega⟩))) ⟨⟨m, ⟨⟨?_, ?_, ?_, ?_, ?_, ?_, ?_, ?_⟩, fun p hp c hc => ?_, fun i hi => ?_, fun o ho => ?_, Yr.2.2.2.2.1, Yr.2.2.2.2.2⟩⟩, fun i hi c hc => ?_, fun t ht => ?_⟩)
  · rw [fI_I, if_neg (by omega), fI_I, if_neg (by omega), fI_I, if_neg (by omega), fI_I, if_neg (by omega), fI_I, if_neg (by omega), fI_I, if_neg (by omega), fI_C, if_neg (by omega), fI_C, if_neg (by omega), fI_C, if_neg (by omega), fI_I, if_neg (by omega), fI_C, if_neg (by omega), fI_I, if_pos ⟨rfl, rfl⟩]
  · rw [fI_I, if_neg (by omega), fI_I, if_neg (by omega), fI_I, if_neg (by omega), fI_I, if_neg (by omega), fI_I, if_neg (by omega), fI_I, if_neg (by omega), fI_C, if_neg (by omega), fI_C, if_neg (by omega), fI_C, if_neg (by omega), fI_I, if_pos ⟨rfl, rfl⟩]
  · rw [fI_I, if_neg (by omega), fI_I, if_neg (by omega), fI_I, if_neg (by omega), fI_I, if_neg (by omega), fI_I, if_pos ⟨rfl, rfl⟩]
  · rw [fI_I, if_neg (by omega), fI_I, if_neg (by omega), fI_I, if_neg (by omega), fI_I, if_pos ⟨rfl, rfl⟩]
  · rw [fI_I, if_neg (by omega), fI_I, if_neg (by omega), fI_I, if_pos ⟨rfl, rfl⟩]
  · rw [fI_I, if_neg (by omega), fI_I, if_pos ⟨rfl, rfl⟩]
  · rw [fI_I, if_pos ⟨rfl, rfl⟩]
  · rw [fI_I, if_neg (by omega), fI_I, if_neg (by omega), fI_I, if_neg (by omega), fI_I, if_neg (by omega), fI_I, if_neg (by omega), fI_I, if_pos ⟨rfl, rfl⟩]
  · rw [fI_I, if_neg (by omega), fI_I, if_neg (by omega), fI_I, if_neg (by omega), fI_I, if_neg (by omega), fI_I, if_neg (by omega), fI_I, if_neg (by omega), fI_C, if_neg (by omega), fI_C, if_neg (by omega), fI_C, if_neg (by omega), fI_I, if_neg (by omega), fI_C, if_neg (by omega), fI_I, if_neg (by omega), fI_C, if_pos rfl, if_pos (by omega), Nat.sub_zero, Nat.zero_add]; exact Yr.2.1 p hp c hc
  · rw [fI_I, if_neg (by omega), fI_I, if_neg (by omega), fI_I, if_neg (by omega), fI_I, if_neg (by omega), fI_I, if_neg (by omega), fI_I, if_neg (by omega), fI_C, if_neg (by omega), fI_C, if_neg (by omega), fI_C, if_neg (by omega), fI_I, if_neg (by omega), fI_C, if_pos rfl, if_pos (by omega), fI_I, if_neg (by omega), fI_C, if_neg (by omega), Nat.sub_zero, Nat.zero_add]; exact Yr.2.2.1 i hi
  · rw [fI_I, if_neg (by omega), fI_I, if_neg (by omega), fI_I, if_neg (by omega), fI_I, if_neg (by omega), fI_I, if_neg (by omega), fI_I, if_neg (by omega), fI_C, if_neg (by omega), fI_C, if_neg (by omega), fI_C, if_pos rfl, if_pos (by omega), fI_I, if_neg (by omega), fI_C, if_neg (by omega), fI_I, if_neg (by omega), fI_C, if_neg (by omega), Nat.sub_zero, Nat.zero_add]; exact Yr.2.2.2.1 o ho
  · rw [fI_I, if_neg (by omega), fI_I, if_neg (by omega), fI_I, if_neg (by omega), fI_I, if_neg (by omega), fI_I, if_neg (by omega), fI_I, if_neg (by omega), fI_C, if_pos rfl, if_pos (by omega), fI_C, if_neg (by omega), fI_C, if_neg (by omega), fI_I, if_neg (by omega), fI_C, if_neg (by omega), fI_I, if_neg (by omega), fI_C, if_neg (by omega), Nat.sub_zero, Nat.zero_add]; exact Yt.1 i hi c hc
  · rw [fI_I, if_neg (by omega), fI_I, if_neg (by omega), fI_I, if_neg (by omega), fI_I, if_neg (by omega), fI_I, if_neg (by omega), fI_I, if_neg (by omega), fI_C, if_neg (by omega), fI_C, if_pos rfl, if_pos (by omega), fI_C, if_neg (by omega), fI_I, if_neg (by omega), fI_C, if_neg (by omega), fI_I, if_neg (by omega), fI_C, if_neg (by omega), Nat.sub_zero, Nat.zero_add]; exact Yt.2 t ht
