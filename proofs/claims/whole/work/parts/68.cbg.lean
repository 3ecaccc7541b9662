set_option maxRecDepth 20000 in
theorem t_X3_copyFrom {g : fGP} {d : Nat} {σ : fAH} {Q : fRes → fAH → Prop} {D : fSD} (Ms : fMs g σ) (Gr : fGr σ 9 D) (hD : fWD D) (h : ∀ σ', fSm (fGA 2) σ σ' → fGr σ' 2 D → Q (.inl none) σ') : fEv g d mX3_copyFrom 0 (fent [.ref 2, .ref 9] 2) [] σ Q := by
  obtain ⟨t0, t1, t2, t3, t4, t5, t6⟩ := id hD.1
  show fEv g d mX3_copyFrom 0 [some (.ref 2), some (.ref 9)] [] σ Q
  refine e_aload_n dX3_copyFrom_0 rfl rfl ?_
  refine e_getR (q := 10) dX3_copyFrom_1 fl_RX3_9 (Ms.s 9 rfl) (Ms.n (by decide)) rfl (Ms.r 9 0 rfl) (by unfold fscr; omega) ?_
  refine e_iconst (nI 0) dX3_copyFrom_4 (by decide) ?_
  refine e_aload_n dX3_copyFrom_5 rfl rfl ?_
  refine e_getR (q := 3) dX3_copyFrom_6 fl_RX3_9 (Ms.s 2 rfl) (Ms.n (by decide)) rfl (Ms.r 2 0 rfl) (by unfold fscr; omega) ?_
  refine e_iconst (nI 0) dX3_copyFrom_9 (by decide) ?_
  refine e_aload_n dX3_copyFrom_10 rfl rfl ?_
  refine e_getR (q := 3) dX3_copyFrom_11 fl_RX3_9 (Ms.s 2 rfl) (Ms.n (by decide)) rfl (Ms.r 2 0 rfl) (by unfold fscr; omega) ?_
  refine e_alen dX3_copyFrom_14 (Ms.s 3 rfl) (by decide) (Ms.n (by decide)) ?_
  refine e_copy 0 0 18 dX3_copyFrom_15 ml_RX3_58 (Ms.s 10 rfl) (Ms.s 3 rfl) (Ms.n (by decide)) (Ms.n (by decide)) Ms.2.2.2 rfl rfl rfl (by omega) (by omega) (by decide) (by decide) (Nat.le_of_ble_eq_true rfl) w_copy ?_
  refine e_aload_n dX3_copyFrom_18 rfl rfl ?_
  refine e_getR (q := 11) dX3_copyFrom_19 fl_RX3_15 (Ms.s 9 rfl) (Ms.n (by decide)) rfl (Ms.r 9 1 rfl) (by unfold fscr; omega) ?_
  refine e_iconst (nI 0) dX3_copyFrom_22 (by decide) ?_
  refine e_aload_n dX3_copyFrom_23 rfl rfl ?_
  refine e_getR (q := 4) dX3_copyFrom_24 fl_RX3_15 (Ms.s 2 rfl) (Ms.n (by decide)) rfl (Ms.r 2 1 rfl) (by unfold fscr; omega) ?_
  refine e_iconst (nI 0) dX3_copyFrom_27 (by decide) ?_
  refine e_aload_n dX3_copyFrom_28 rfl rfl ?_
  refine e_getR (q := 4) dX3_copyFrom_29 fl_RX3_15 (Ms.s 2 rfl) (Ms.n (by decide)) rfl (Ms.r 2 1 rfl) (by unfold fscr; omega) ?_
  refine e_alen dX3_copyFrom_32 (Ms.s 4 rfl) (by decide) (Ms.n (by decide)) ?_
  refine e_copy 0 0 60 dX3_copyFrom_33 ml_RX3_58 (Ms.s 11 rfl) (Ms.s 4 rfl) (Ms.n (by decide)) (Ms.n (by decide)) Ms.2.2.2 rfl rfl rfl (by omega) (by omega) (by decide) (by decide) (Nat.le_of_ble_eq_true rfl) w_copy ?_
  refine e_aload_n dX3_copyFrom_36 rfl rfl ?_
  refine e_getR (q := 12) dX3_copyFrom_37 fl_RX3_18 (Ms.s 9 rfl) (Ms.n (by decide)) rfl (Ms.r 9 2 rfl) (by unfold fscr; omega) ?_
  refine e_iconst (nI 0) dX3_copyFrom_40 (by decide) ?_
  refine e_aload_n dX3_copyFrom_41 rfl rfl ?_
  refine e_getR (q := 5) dX3_copyFrom_42 fl_RX3_18 (Ms.s 2 rfl) (Ms.n (by decide)) rfl (Ms.r 2 2 rfl) (by unfold fscr; omega) ?_
  refine e_iconst (nI 0) dX3_copyFrom_45 (by decide) ?_
  refine e_aload_n dX3_copyFrom_46 rfl rfl ?_
  refine e_getR (q := 5) dX3_copyFrom_47 fl_RX3_18 (Ms.s 2 rfl) (Ms.n (by decide)) rfl (Ms.r 2 2 rfl) (by unfold fscr; omega) ?_
  refine e_alen dX3_copyFrom_50 (Ms.s 5 rfl) (by decide) (Ms.n (by decide)) ?_
  refine e_copy 0 0 30 dX3_copyFrom_51 ml_RX3_58 (Ms.s 12 rfl) (Ms.s 5 rfl) (Ms.n (by decide)) (Ms.n (by decide)) Ms.2.2.2 rfl rfl rfl (by omega) (by omega) (by decide) (by decide) (Nat.le_of_ble_eq_true rfl) w_copy ?_
  refine e_aload_n dX3_copyFrom_54 rfl rfl ?_
  refine e_getR (q := 13) dX3_copyFrom_55 fl_RX3_21 (Ms.s 9 rfl) (Ms.n (by decide)) rfl (Ms.r 9 3 rfl) (by unfold fscr; omega) ?_
  refine e_iconst (nI 0) dX3_copyFrom_58 (by decide) ?_
  refine e_aload_n dX3_copyFrom_59 rfl rfl ?_
  refine e_getR (q := 6) dX3_copyFrom_60 fl_RX3_21 (Ms.s 2 rfl) (Ms.n (by decide)) rfl (Ms.r 2 3 rfl) (by unfold fscr; omega) ?_
  refine e_iconst (nI 0) dX3_copyFrom_63 (by decide) ?_
  refine e_aload_n dX3_copyFrom_64 rfl rfl ?_
  refine e_getR (q := 6) dX3_copyFrom_65 fl_RX3_21 (Ms.s 2 rfl) (Ms.n (by decide)) rfl (Ms.r 2 3 rfl) (by unfold fscr; omega) ?_
  refine e_alen dX3_copyFrom_68 (Ms.s 6 rfl) (by decide) (Ms.n (by decide)) ?_
  refine e_copy 0 0 72 dX3_copyFrom_69 ml_RX3_58 (Ms.s 13 rfl) (Ms.s 6 rfl) (Ms.n (by decide)) (Ms.n (by decide)) Ms.2.2.2 rfl rfl rfl (by omega) (by omega) (by decide) (by decide) (Nat.le_of_ble_eq_true rfl) w_copy ?_
  refine e_aload_n dX3_copyFrom_72 rfl rfl ?_
  refine e_getR (q := 14) dX3_copyFrom_73 fl_RX3_24 (Ms.s 9 rfl) (Ms.n (by decide)) rfl (Ms.r 9 4 rfl) (by unfold fscr; omega) ?_
  refine e_iconst (nI 0) dX3_copyFrom_76 (by decide) ?_
  refine e_aload_n dX3_copyFrom_77 rfl rfl ?_
  refine e_getR (q := 7) dX3_copyFrom_78 fl_RX3_24 (Ms.s 2 rfl) (Ms.n (by decide)) rfl (Ms.r 2 4 rfl) (by unfold fscr; omega) ?_
  refine e_iconst (nI 0) dX3_copyFrom_81 (by decide) ?_
  refine e_aload_n dX3_copyFrom_82 rfl rfl ?_
  refine e_getR (q := 7) dX3_copyFrom_83 fl_RX3_24 (Ms.s 2 rfl) (Ms.n (by decide)) rfl (Ms.r 2 4 rfl) (by unfold fscr; omega) ?_
  refine e_alen dX3_copyFrom_86 (Ms.s 7 rfl) (by decide) (Ms.n (by decide)) ?_
  refine e_copy 0 0 300 dX3_copyFrom_87 ml_RX3_58 (Ms.s 14 rfl) (Ms.s 7 rfl) (Ms.n (by decide)) (Ms.n (by decide)) Ms.2.2.2 rfl rfl rfl (by omega) (by omega) (by decide) (by decide) (Nat.le_of_ble_eq_true rfl) w_copy ?_
  refine e_aload_n dX3_copyFrom_90 rfl rfl ?_
  refine e_aload_n dX3_copyFrom_91 rfl rfl ?_
  refine e_getI dX3_copyFrom_92 fl_RX3_30 (Ms.s 9 rfl) (Ms.n (by decide)) rfl ?_
  refine e_int (nI (dT D 0)) (by rw [fI_C, if_neg (by omega), fI_C, if_neg (by omega), fI_C, if_neg (by omega), fI_C, if_neg (by omega), fI_C, if_neg (by omega)]; exact Gr.1.1) ?_
  refine e_putI dX3_copyFrom_95 fl_RX3_30 (Ms.s 2 rfl) (Ms.n (by decide)) rfl rfl ?_
  refine e_aload_n dX3_copyFrom_98 rfl rfl ?_
  refine e_aload_n dX3_copyFrom_99 rfl rfl ?_
  refine e_getI dX3_copyFrom_100 fl_RX3_34 (Ms.s 9 rfl) (Ms.n (by decide)) rfl ?_
  refine e_int (nI (dT D 1)) (by rw [fI_I, if_neg (by omega), fI_C, if_neg (by omega), fI_C, if_neg (by omega), fI_C, if_neg (by omega), fI_C, if_neg (by omega), fI_C, if_neg (by omega)]; exact Gr.1.2.1) ?_
  refine e_putI dX3_copyFrom_103 fl_RX3_34 (Ms.s 2 rfl) (Ms.n (by decide)) rfl rfl ?_
  refine e_aload_n dX3_copyFrom_106 rfl rfl ?_
  refine e_aload_n dX3_copyFrom_107 rfl rfl ?_
  refine e_getI dX3_copyFrom_108 fl_RX3_37 (Ms.s 9 rfl) (Ms.n (by decide)) rfl ?_
  refine e_int (nI (dT D 2)) (by rw [fI_I, if_neg (by omega), fI_I, if_neg (by omega), fI_C, if_neg (by omega), fI_C, if_neg (by omega), fI_C, if_neg (by omega), fI_C, if_neg (by omega), fI_C, if_neg (by omega)]; exact Gr.1.2.2.1) ?_
  refine e_putI dX3_copyFrom_111 fl_RX3_37 (Ms.s 2 rfl) (Ms.n (by decide)) rfl rfl ?_
  refine e_aload_n dX3_copyFrom_114 rfl rfl ?_
  refine e_aload_n dX3_copyFrom_115 rfl rfl ?_
  refine e_getI dX3_copyFrom_116 fl_RX3_40 (Ms.s 9 rfl) (Ms.n (by decide)) rfl ?_
  refine e_int (nI (dT D 6)) (by rw [fI_I, if_neg (by omega), fI_I, if_neg (by omega), fI_I, if_neg (by omega), fI_C, if_neg (by omega), fI_C, if_neg (by omega), fI_C, if_neg (by omega), fI_C, if_neg (by omega), fI_C, if_neg (by omega)]; exact Gr.1.2.2.2.1) ?_
  refine e_putI dX3_copyFrom_119 fl_RX3_40 (Ms.s 2 rfl) (Ms.n (by decide)) rfl rfl ?_
  refine e_aload_n dX3_copyFrom_122 rfl rfl ?_
  refine e_aload_n dX3_copyFrom_123 rfl rfl ?_
  refine e_getI dX3_copyFrom_124 fl_RX3_43 (Ms.s 9 rfl) (Ms.n (by decide)) rfl ?_
  refine e_int (nI (dT D 3)) (by rw [fI_I, if_neg (by omega), fI_I, if_neg (by omega), fI_I, if_neg (by omega), fI_I, if_neg (by omega), fI_C, if_neg (by omega), fI_C, if_neg (by omega), fI_C, if_neg (by omega), fI_C, if_neg (by omega), fI_C, if_neg (by omega)]; exact Gr.1.2.2.2.2.1) ?_
  refine e_putI dX3_copyFrom_127 fl_RX3_43 (Ms.s 2 rfl) (Ms.n (by decide)) rfl rfl ?_
  refine e_aload_n dX3_copyFrom_130 rfl rfl ?_
  refine e_aload_n dX3_copyFrom_131 rfl rfl ?_
  refine e_getI dX3_copyFrom_132 fl_RX3_46 (Ms.s 9 rfl) (Ms.n (by decide)) rfl ?_
  refine e_int (nI (dT D 4)) (by rw [fI_I, if_neg (by omega), fI_I, if_neg (by omega), fI_I, if_neg (by omega), fI_I, if_neg (by omega), fI_I, if_neg (by omega), fI_C, if_neg (by omega), fI_C, if_neg (by omega), fI_C, if_neg (by omega), fI_C, if_neg (by omega), fI_C, if_neg (by omega)]; exact Gr.1.2.2.2.2.2.1) ?_
  refine e_putI dX3_copyFrom_135 fl_RX3_46 (Ms.s 2 rfl) (Ms.n (by decide)) rfl rfl ?_
  refine e_aload_n dX3_copyFrom_138 rfl rfl ?_
  refine e_aload_n dX3_copyFrom_139 rfl rfl ?_
  refine e_getI dX3_copyFrom_140 fl_RX3_49 (Ms.s 9 rfl) (Ms.n (by decide)) rfl ?_
  refine e_int (nI (dT D 5)) (by rw [fI_I, if_neg (by omega), fI_I, if_neg (by omega), fI_I, if_neg (by omega), fI_I, if_neg (by omega), fI_I, if_neg (by omega), fI_I, if_neg (by omega), fI_C, if_neg (by omega), fI_C, if_neg (by omega), fI_C, if_neg (by omega), fI_C, if_neg (by omega), fI_C, if_neg (by omega)]; exact Gr.1.2.2.2.2.2.2) ?_
  refine e_putI dX3_copyFrom_143 fl_RX3_49 (Ms.s 2 rfl) (Ms.n (by decide)) rfl rfl ?_
  refine e_return dX3_copyFrom_146 rfl (h _ ((((((((((((fSm_C (A := fGA 2) ⟨by omega, by omega⟩).tr (fSm_C (A := fGA 2) ⟨by omega, by omega⟩)).tr (fSm_C (A := fGA 2) ⟨by omega, by omega⟩)).tr (fSm_C (A := fGA 2) ⟨by omega, by omega⟩)).tr (fSm_C (A := fGA 2) ⟨by omega, by omega⟩)).tr (fSm_I (A := fGA 2) ⟨by omega, by omega⟩)).tr (fSm_I (A := fGA 2) ⟨by omega, by omega⟩)).tr (fSm_I (A := fGA 2) ⟨by omega, by omega⟩)).tr (fSm_I (A := fGA 2) ⟨by omega, by omega⟩)).tr (fSm_I (A := fGA 2) ⟨by omega, by omega⟩)).tr (fSm_I (A := fGA 2) ⟨by omega, by omega⟩)).tr (fSm_I (A := fGA 2) ⟨by omega, by omega⟩)) ⟨⟨?_, ?_, ?_, ?_, ?_, ?_, ?_⟩, ?_, ?_, ?_, ?_, ?_⟩)
  · rw [fI_I, if_neg (by omega), fI_I, if_neg (by omega), fI_I, if_neg (by omega), fI_I, if_neg (by omega), fI_I, if_neg (by omega), fI_I, if_neg (by omega), fI_I, if_pos ⟨rfl, rfl⟩]
  · rw [fI_I, if_neg (by omega), fI_I, if_neg (by omega), fI_I, if_neg (by omega), fI_I, if_neg (by omega), fI_I, if_neg (by omega), fI_I, if_pos ⟨rfl, rfl⟩]
  · rw [fI_I, if_neg (by omega), fI_I, if_neg (by omega), fI_I, if_neg (by omega), fI_I, if_neg (by omega), fI_I, if_pos ⟨rfl, rfl⟩]
  · rw [fI_I, if_neg (by omega), fI_I, if_neg (by omega), fI_I, if_neg (by omega), fI_I, if_pos ⟨rfl, rfl⟩]
  · rw [fI_I, if_neg (by omega), fI_I, if_neg (by omega), fI_I, if_pos ⟨rfl, rfl⟩]
  · rw [fI_I, if_neg (by omega), fI_I, if_pos ⟨rfl, rfl⟩]
  · rw [fI_I, if_pos ⟨rfl, rfl⟩]
  · intro x hx y hy; rw [fI_I, if_neg (by omega), fI_I, if_neg (by omega), fI_I, if_neg (by omega), fI_I, if_neg (by omega), fI_I, if_neg (by omega), fI_I, if_neg (by omega), fI_I, if_neg (by omega), fI_C, if_neg (by omega), fI_C, if_neg (by omega), fI_C, if_neg (by omega), fI_C, if_neg (by omega), fI_C, if_pos rfl, if_pos (by omega), Nat.zero_add, Nat.sub_zero]; exact Gr.2.1 x hx y hy
  · intro x hx y hy; rw [fI_I, if_neg (by omega), fI_I, if_neg (by omega), fI_I, if_neg (by omega), fI_I, if_neg (by omega), fI_I, if_neg (by omega), fI_I, if_neg (by omega), fI_I, if_neg (by omega), fI_C, if_neg (by omega), fI_C, if_neg (by omega), fI_C, if_neg (by omega), fI_C, if_pos rfl, if_pos (by omega), fI_C, if_neg (by omega), Nat.zero_add, Nat.sub_zero]; exact Gr.2.2.1 x hx y hy
  · intro x hx y hy; rw [fI_I, if_neg (by omega), fI_I, if_neg (by omega), fI_I, if_neg (by omega), fI_I, if_neg (by omega), fI_I, if_neg (by omega), fI_I, if_neg (by omega), fI_I, if_neg (by omega), fI_C, if_neg (by omega), fI_C, if_neg (by omega), fI_C, if_pos rfl, if_pos (by omega), fI_C, if_neg (by omega), fI_C, if_neg (by omega), Nat.zero_add, Nat.sub_zero]; exact Gr.2.2.2.1 x hx y hy
  · intro x hx y hy; rw [fI_I, if_neg (by omega), fI_I, if_neg (by omega), fI_I, if_neg (by omega), fI_I, if_neg (by omega), fI_I, if_neg (by omega), fI_I, if_neg (by omega), fI_I, if_neg (by omega), fI_C, if_neg (by omega), fI_C, if_pos rfl, if_pos (by omega), fI_C, if_neg (by omega), fI_C, if_neg (by omega), fI_C, if_neg (by omega), Nat.zero_add, Nat.sub_zero]; exact Gr.2.2.2.2.1 x hx y hy
  · intro x hx; refine ⟨?_, fun y h1 h2 => ?_⟩
    · rw [fI_I, if_neg (by omega), fI_I, if_neg (by omega), fI_I, if_neg (by omega), fI_I, if_neg (by omega), fI_I, if_neg (by omega), fI_I, if_neg (by omega), fI_I, if_neg (by omega), fI_C, if_pos rfl, if_pos (by omega), fI_C, if_neg (by omega), fI_C, if_neg (by omega), fI_C, if_neg (by omega), fI_C, if_neg (by omega), Nat.zero_add, Nat.sub_zero]; exact (Gr.2.2.2.2.2 x hx).1
    · rw [fI_I, if_neg (by omega), fI_I, if_neg (by omega), fI_I, if_neg (by omega), fI_I, if_neg (by omega), fI_I, if_neg (by omega), fI_I, if_neg (by omega), fI_I, if_neg (by omega), fI_C, if_pos rfl, if_pos (by omega), fI_C, if_neg (by omega), fI_C, if_neg (by omega), fI_C, if_neg (by omega), fI_C, if_neg (by omega), Nat.zero_add, Nat.sub_zero]; exact (Gr.2.2.2.2.2 x hx).2 y h1 h2
set_option maxRecDepth 20000 in
theorem l_X8_bg3 {g : fGP} {d : Nat} {Q : fRes → fAH → Prop} {D : fSD} {T : Nat → Int32} (hD : fWD D) {σ : fAH} {o1 o2 : Option Value} (Ms : fMs g σ) (hp : fI σ 15 2 = nI (dT D 0)) (hr : ∀ p, p < dT D 0 → ∀ c, c < 6 → fI σ 16 (p * 6 + c) = nI (mbw D p c)) (hd : ∀ j, j < dT D 1 → fI σ 17 j = nI (dS D j 4)) (h : ∀ σ', fSm (fYA 15) σ σ' → fYf σ' 15 D (mS0 D) T (nI 0) → Q (.inl none) σ') : fEv g (d + 1) mX8_begin 158 [some (.ref 15), o1, o2] [] σ Q := by
  obtain ⟨t0, t1, t2, t3, t4, t5, t6⟩ := id hD.1
  refine e_aload_n dX8_begin_158 rfl rfl ?_
  refine e_getR (q := 18) dX8_begin_159 fl_RX8_25 (Ms.s 15 rfl) (Ms.n (by decide)) rfl (Ms.r 15 5 rfl) (by unfold fscr; omega) ?_
  refine e_iconst (nI 0) dX8_begin_162 (by decide) ?_
  refine e_callS [.ref 18, .int (nI 0)] dX8_begin_163 cc_J7_fill_53178 lk_RX8_74 st_J7_fill_53178 in_RJ7 rfl (Nat.le_of_ble_eq_true rfl) (Nat.le_of_ble_eq_true rfl) ?_
  refine t_J7_fill (Ms.s 18 rfl) (by decide) (Ms.n (by decide)) (fun σ1 Sm1 hp1 => fK_v ?_)
  show fEv g _ mX8_begin 166 [some (.ref 15), o1, o2] [] σ1 Q
  have Ms1 := Ms.sm Sm1
  refine e_aload_n dX8_begin_166 rfl rfl ?_
  refine e_iconst (nI 0) dX8_begin_167 (by decide) ?_
  refine e_putI dX8_begin_168 fl_RX8_22 (Ms1.s 15 rfl) (Ms1.n (by decide)) rfl rfl ?_
  refine e_aload_n dX8_begin_171 rfl rfl ?_
  refine e_getR (q := 21) dX8_begin_172 fl_RX8_37 (Ms1.s 15 rfl) (Ms1.n (by decide)) rfl (Ms1.r 15 8 rfl) (by unfold fscr; omega) ?_
  refine e_iconst (nI 0) dX8_begin_175 (by decide) ?_
  refine e_putI dX8_begin_176 fl_RX8_80 (Ms1.s 21 rfl) (Ms1.n (by decide)) rfl rfl ?_
  refine e_aload_n dX8_begin_179 rfl rfl ?_
  refine e_iconst (nI 0) dX8_begin_180 (by decide) ?_
  refine e_putI dX8_begin_181 fl_RX8_41 (Ms1.s 15 rfl) (Ms1.n (by decide)) rfl rfl ?_
  refine e_aload_n dX8_begin_184 rfl rfl ?_
  refine e_iconst (nI 0) dX8_begin_185 (by decide) ?_
  refine e_putI dX8_begin_186 fl_RX8_44 (Ms1.s 15 rfl) (Ms1.n (by decide)) rfl rfl ?_
  refine e_aload_n dX8_begin_189 rfl rfl ?_
  refine e_iconst (nI 0) dX8_begin_190 (by decide) ?_
  refine e_putI dX8_begin_191 fl_RX8_47 (Ms1.s 15 rfl) (Ms1.n (by decide)) rfl rfl ?_
  refine e_aload_n dX8_begin_194 rfl rfl ?_
  refine e_iconst (nI 0) dX8_begin_195 (by decide) ?_
  refine e_putI dX8_begin_196 fl_RX8_50 (Ms1.s 15 rfl) (Ms1.n (by decide)) rfl rfl ?_
  refine e_aload_n dX8_begin_199 rfl rfl ?_
  refine e_iconst (nI 0) dX8_begin_200 (by decide) ?_
  refine e_putI dX8_begin_201 fl_RX8_53 (Ms1.s 15 rfl) (Ms1.n (by decide)) rfl rfl ?_
  have sm1 : fSm (fYA 15) σ (fsI (fsI (fsI (fsI (fsI (fsI (fsI σ1 15 4 (nI 0)) 21 0 (nI 0)) 15 9 (nI 0)) 15 10 (nI 0)) 15 11 (nI 0)) 15 12 (nI 0)) 15 13 (nI 0)) := (Sm1.to (fun a (q : a = 18) => (⟨by omega, by omega⟩ : 15 ≤ a ∧ a ≤ 15 + 6))).tr (((((((fSm_I (A := fYA 15) ⟨by omega, by omega⟩).tr (fSm_I (A := fYA 15) ⟨by omega, by omega⟩)).tr (fSm_I (A := fYA 15) ⟨by omega, by omega⟩)).tr (fSm_I (A := fYA 15) ⟨by omega, by omega⟩)).tr (fSm_I (A := fYA 15) ⟨by omega, by omega⟩)).tr (fSm_I (A := fYA 15) ⟨by omega, by omega⟩)).tr (fSm_I (A := fYA 15) ⟨by omega, by omega⟩))
  refine e_return dX8_begin_204 rfl (h _ sm1 ⟨⟨0, ⟨⟨?_, ?_, ?_, ?_, ?_, ?_, ?_, ?_⟩, fun p hp9 c hc => ?_, fun i hi => ?_, fun o ho => ?_, by decide, fun i hi => ?_⟩⟩, ⟨fun i hi => ?_, fun i hi => ?_⟩⟩)
  · rw [fI_I, if_neg (by omega), fI_I, if_neg (by omega), fI_I, if_neg (by omega), fI_I, if_neg (by omega), fI_I, if_neg (by omega), fI_I, if_neg (by omega), fI_I, if_neg (by omega)]; rw [mS0_n]; exact (Sm1.i (fun (q : 15 = 18) => by omega) 2).trans hp
  · rw [fI_I, if_neg (by omega), fI_I, if_neg (by omega), fI_I, if_neg (by omega), fI_I, if_neg (by omega), fI_I, if_neg (by omega), fI_I, if_neg (by omega), fI_I, if_pos ⟨rfl, rfl⟩]
  · rw [mS0_z hD (by omega)]; rw [fI_I, if_neg (by omega), fI_I, if_neg (by omega), fI_I, if_neg (by omega), fI_I, if_neg (by omega), fI_I, if_pos ⟨rfl, rfl⟩]
  · rw [mS0_z hD (by omega)]; rw [fI_I, if_neg (by omega), fI_I, if_neg (by omega), fI_I, if_neg (by omega), fI_I, if_pos ⟨rfl, rfl⟩]
  · rw [mS0_z hD (by omega)]; rw [fI_I, if_neg (by omega), fI_I, if_neg (by omega), fI_I, if_pos ⟨rfl, rfl⟩]
  · rw [mS0_z hD (by omega)]; rw [fI_I, if_neg (by omega), fI_I, if_pos ⟨rfl, rfl⟩]
  · rw [mS0_z hD (by omega)]; rw [fI_I, if_pos ⟨rfl, rfl⟩]
  · rw [fI_I, if_neg (by omega), fI_I, if_neg (by omega), fI_I, if_neg (by omega), fI_I, if_neg (by omega), fI_I, if_neg (by omega), fI_I, if_pos ⟨rfl, rfl⟩]
  · rw [mS0_n] at hp9; rw [fI_I, if_neg (by omega), fI_I, if_neg (by omega), fI_I, if_neg (by omega), fI_I, if_neg (by omega), fI_I, if_neg (by omega), fI_I, if_neg (by omega), fI_I, if_neg (by omega)]; rw [mS0_p hD hp9 hc]; exact (Sm1.i (fun (q : 16 = 18) => by omega) _).trans (hr p hp9 c hc)
  · rw [fI_I, if_neg (by omega), fI_I, if_neg (by omega), fI_I, if_neg (by omega), fI_I, if_neg (by omega), fI_I, if_neg (by omega), fI_I, if_neg (by omega), fI_I, if_neg (by omega)]; rw [mS0_d hi]; exact (Sm1.i (fun (q : 17 = 18) => by omega) _).trans (hd i hi)
  · rw [fI_I, if_neg (by omega), fI_I, if_neg (by omega), fI_I, if_neg (by omega), fI_I, if_neg (by omega), fI_I, if_neg (by omega), fI_I, if_neg (by omega), fI_I, if_neg (by omega)]; rw [mS0_z hD (by omega)]; exact hp1 o (by omega)
  · rw [mS0_z hD (by omega)]; exact Nat.zero_testBit i
  · rw [mS0_z hD (by omega)] at hi; exact absurd hi (Nat.not_lt_zero _)
  · rw [mS0_z hD (by omega)] at hi; exact absurd hi (Nat.not_lt_zero _)
set_option maxRecDepth 20000 in
theorem l_X8_bg2 {g : fGP} {d : Nat} {Q : fRes → fAH → Prop} {D : fSD} {T : Nat → Int32} (hD : fWD D) : ∀ (n i : Nat) (σ : fAH) (o2 : Option Value), i + n = dT D 1 → fMs g σ → fGr σ 2 D → fI σ 15 2 = nI (dT D 0) → (∀ p, p < dT D 0 → ∀ c, c < 6 → fI σ 16 (p * 6 + c) = nI (mbw D p c)) → (∀ j, j < i → fI σ 17 j = nI (dS D j 4)) → (∀ σ', fSm (fYA 15) σ σ' → fYf σ' 15 D (mS0 D) T (nI 0) → Q (.inl none) σ') → fEv g (d + 1) mX8_begin 122 [some (.ref 15), some (.int (nI i)), o2] [] σ Q := by
  intro n
  induction n with
  | zero =>
    intro i σ o2 hin Ms Gr hp hr hd h
    obtain ⟨t0, t1, t2, t3, t4, t5, t6⟩ := id hD.1
    refine e_iload_n dX8_begin_122 rfl rfl ?_
    refine e_aload_n dX8_begin_123 rfl rfl ?_
    refine e_getR (q := 2) dX8_begin_124 fl_RX8_56 (Ms.s 15 rfl) (Ms.n (by decide)) rfl (Ms.r 15 0 rfl) (by unfold fscr; omega) ?_
    refine e_getI dX8_begin_127 fl_RX8_68 (Ms.s 2 rfl) (Ms.n (by decide)) rfl ?_
    refine e_int (nI (dT D 1)) Gr.1.2.1 ?_
    refine e_icmp_ge 158 dX8_begin_130 (by decide) (fun cz => ?_) (fun cz => absurd ((nI_le' (by omega) (by omega)).mpr (by omega)) cz)
    exact l_X8_bg3 hD Ms hp hr (fun j hj => hd j (by omega)) h
  | succ n ih =>
    intro i σ o2 hin Ms Gr hp hr hd h
    obtain ⟨t0, t1, t2, t3, t4, t5, t6⟩ := id hD.1
    have hi : i < dT D 1 := by omega
    refine e_iload_n dX8_begin_122 rfl rfl ?_
    refine e_aload_n dX8_begin_123 rfl rfl ?_
    refine e_getR (q := 2) dX8_begin_124 fl_RX8_56 (Ms.s 15 rfl) (Ms.n (by decide)) rfl (Ms.r 15 0 rfl) (by unfold fscr; omega) ?_
    refine e_getI dX8_begin_127 fl_RX8_68 (Ms.s 2 rfl) (Ms.n (by decide)) rfl ?_
    refine e_int (nI (dT D 1)) Gr.1.2.1 ?_
    refine e_icmp_ge 158 dX8_begin_130 (by decide) (fun cz => absurd ((nI_le' (by omega) (by omega)).mp cz) (by omega)) (fun cz => ?_)
    refine e_aload_n dX8_begin_133 rfl rfl ?_
    refine e_getR (q := 17) dX8_begin_134 fl_RX8_19 (Ms.s 15 rfl) (Ms.n (by decide)) rfl (Ms.r 15 3 rfl) (by unfold fscr; omega) ?_
    refine e_iload_n dX8_begin_137 rfl rfl ?_
    refine e_aload_n dX8_begin_138 rfl rfl ?_
    refine e_getR (q := 2) dX8_begin_139 fl_RX8_56 (Ms.s 15 rfl) (Ms.n (by decide)) rfl (Ms.r 15 0 rfl) (by unfold fscr; omega) ?_
    refine e_getR (q := 4) dX8_begin_142 fl_RX8_71 (Ms.s 2 rfl) (Ms.n (by decide)) rfl (Ms.r 2 1 rfl) (by unfold fscr; omega) ?_
    refine e_iload_n dX8_begin_145 rfl rfl ?_
    refine e_iconst (nI 5) dX8_begin_146 (by decide) ?_
    refine e_imul dX8_begin_147 ?_
    refine e_int (nI (i * 5)) (pk_mul i 5) ?_
    refine e_iconst (nI 4) dX8_begin_148 (by decide) ?_
    refine e_iadd dX8_begin_149 ?_
    refine e_int (nI (i * 5 + 4)) (nI_add (i * 5) 4) ?_
    refine e_iaload (i * 5 + 4) dX8_begin_150 (Ms.s 4 rfl) (Ms.n (by decide)) rfl (by omega) (by decide) ?_
    refine e_int (nI (dS D i 4)) (Gr.2.2.1 i (by omega) 4 (by decide)) ?_
    refine e_iastore i dX8_begin_151 (Ms.s 17 rfl) (Ms.n (by decide)) rfl (by omega) (by decide) ?_
    refine e_iinc (v := nI (i + 1)) (L1 := [some (.ref 15), some (.int (nI (i + 1))), o2]) dX8_begin_152 rfl (show nI i + Int32.ofInt 1 = nI (i + 1) from nI_add i 1) (by decide) rfl ?_
    refine e_goto 122 dX8_begin_155 (by decide) ?_
    refine ih (i + 1) (fsI σ 17 i (nI (dS D i 4))) _ (by omega) (Ms.sm (fSm_I (A := fYA 15) ⟨by omega, by omega⟩)) Gr (by rw [fI_I, if_neg (by omega)]; exact hp) (fun p hp9 c hc => by rw [fI_I, if_neg (by omega)]; exact hr p hp9 c hc) (fun j hj => ?_) (fun σ' Sm' => h σ' ((fSm_I (A := fYA 15) ⟨by omega, by omega⟩).tr Sm'))
    by_cases e : j = i
    · rw [fI_I, if_pos ⟨rfl, e⟩, e]
    · rw [fI_I, if_neg (by omega)]; exact hd j (by omega)
set_option maxRecDepth 20000 in
theorem l_X8_bg1 {g : fGP} {d : Nat} {Q : fRes → fAH → Prop} {D : fSD} {T : Nat → Int32} (hD : fWD D) : ∀ (n i : Nat) (σ : fAH) (o2 : Option Value), i + n = dT D 0 → fMs g σ → fGr σ 2 D → fI σ 15 2 = nI i → (∀ p, p < i → ∀ c, c < 6 → fI σ 16 (p * 6 + c) = nI (mbw D p c)) → (∀ σ', fSm (fYA 15) σ σ' → fYf σ' 15 D (mS0 D) T (nI 0) → Q (.inl none) σ') → fEv g (d + 1) mX8_begin 7 [some (.ref 15), some (.int (nI i)), o2] [] σ Q := by
  intro n
  induction n with
  | zero =>
    intro i σ o2 hin Ms Gr hp hr h
    obtain ⟨t0, t1, t2, t3, t4, t5, t6⟩ := id hD.1
    refine e_iload_n dX8_begin_7 rfl rfl ?_
    refine e_aload_n dX8_begin_8 rfl rfl ?_
    refine e_getR (q := 2) dX8_begin_9 fl_RX8_56 (Ms.s 15 rfl) (Ms.n (by decide)) rfl (Ms.r 15 0 rfl) (by unfold fscr; omega) ?_
    refine e_getI dX8_begin_12 fl_RX8_60 (Ms.s 2 rfl) (Ms.n (by decide)) rfl ?_
    refine e_int (nI (dT D 0)) Gr.1.1 ?_
    refine e_icmp_ge 120 dX8_begin_15 (by decide) (fun cz => ?_) (fun cz => absurd ((nI_le' (by omega) (by omega)).mpr (by omega)) cz)
    refine e_iconst (nI 0) dX8_begin_120 (by decide) ?_
    refine e_istore_n (L1 := [some (.ref 15), some (.int (nI 0)), o2]) dX8_begin_121 rfl (by decide) rfl ?_
    exact l_X8_bg2 hD (dT D 1) 0 σ _ (by omega) Ms Gr (by rw [hp, show i = dT D 0 by omega]) (fun p hp9 c hc => hr p (by omega) c hc) (fun j hj => absurd hj (by omega)) h
  | succ n ih =>
    intro i σ o2 hin Ms Gr hp hr h
    obtain ⟨t0, t1, t2, t3, t4, t5, t6⟩ := id hD.1
    have hi : i < dT D 0 := by omega
    refine e_iload_n dX8_begin_7 rfl rfl ?_
    refine e_aload_n dX8_begin_8 rfl rfl ?_
    refine e_getR (q := 2) dX8_begin_9 fl_RX8_56 (Ms.s 15 rfl) (Ms.n (by decide)) rfl (Ms.r 15 0 rfl) (by unfold fscr; omega) ?_
    refine e_getI dX8_begin_12 fl_RX8_60 (Ms.s 2 rfl) (Ms.n (by decide)) rfl ?_
    refine e_int (nI (dT D 0)) Gr.1.1 ?_
    refine e_icmp_ge 120 dX8_begin_15 (by decide) (fun cz => absurd ((nI_le' (by omega) (by omega)).mp cz) (by omega)) (fun cz => ?_)
    refine e_aload_n dX8_begin_18 rfl rfl ?_
    refine e_getI dX8_begin_19 fl_RX8_15 (Ms.s 15 rfl) (Ms.n (by decide)) rfl ?_
    refine e_int (nI i) hp ?_
    refine e_bipush (nI 6) dX8_begin_22 (by decide) ?_
    refine e_imul dX8_begin_24 ?_
    refine e_int (nI (i * 6)) (pk_mul i 6) ?_
    refine e_istore_n (L1 := [some (.ref 15), some (.int (nI i)), some (.int (nI (i * 6)))]) dX8_begin_25 rfl (by decide) rfl ?_
    refine e_aload_n dX8_begin_26 rfl rfl ?_
    refine e_getR (q := 16) dX8_begin_27 fl_RX8_9 (Ms.s 15 rfl) (Ms.n (by decide)) rfl (Ms.r 15 1 rfl) (by unfold fscr; omega) ?_
    refine e_iload_n dX8_begin_30 rfl rfl ?_
    refine e_iconst (nI 0) dX8_begin_31 (by decide) ?_
    refine e_iadd dX8_begin_32 ?_
    refine e_int (nI (i * 6)) (nI_add (i * 6) 0) ?_
    refine e_iload_n dX8_begin_33 rfl rfl ?_
    refine e_iastore (i * 6) dX8_begin_34 (Ms.s 16 rfl) (Ms.n (by decide)) rfl (by omega) (by decide) ?_
    refine e_aload_n dX8_begin_35 rfl rfl ?_
    refine e_getR (q := 16) dX8_begin_36 fl_RX8_9 (Ms.s 15 rfl) (Ms.n (by decide)) rfl (Ms.r 15 1 rfl) (by unfold fscr; omega) ?_
    refine e_iload_n dX8_begin_39 rfl rfl ?_
    refine e_iconst (nI 1) dX8_begin_40 (by decide) ?_
    refine e_iadd dX8_begin_41 ?_
    refine e_int (nI (i * 6 + 1)) (nI_add (i * 6) 1) ?_
    refine e_iconst (nI 0) dX8_begin_42 (by decide) ?_
    refine e_iastore (i * 6 + 1) dX8_begin_43 (Ms.s 16 rfl) (Ms.n (by decide)) rfl (by omega) (by decide) ?_
    refine e_aload_n dX8_begin_44 rfl rfl ?_
    refine e_getR (q := 16) dX8_begin_45 fl_RX8_9 (Ms.s 15 rfl) (Ms.n (by decide)) rfl (Ms.r 15 1 rfl) (by unfold fscr; omega) ?_
    refine e_iload_n dX8_begin_48 rfl rfl ?_
    refine e_iconst (nI 2) dX8_begin_49 (by decide) ?_
    refine e_iadd dX8_begin_50 ?_
    refine e_int (nI (i * 6 + 2)) (nI_add (i * 6) 2) ?_
    refine e_aload_n dX8_begin_51 rfl rfl ?_
    refine e_getR (q := 2) dX8_begin_52 fl_RX8_56 (Ms.s 15 rfl) (Ms.n (by decide)) rfl (Ms.r 15 0 rfl) (by unfold fscr; omega) ?_
    refine e_getR (q := 3) dX8_begin_55 fl_RX8_65 (Ms.s 2 rfl) (Ms.n (by decide)) rfl (Ms.r 2 0 rfl) (by unfold fscr; omega) ?_
    refine e_iload_n dX8_begin_58 rfl rfl ?_
    refine e_iconst (nI 3) dX8_begin_59 (by decide) ?_
    refine e_imul dX8_begin_60 ?_
    refine e_int (nI (i * 3)) (pk_mul i 3) ?_
    refine e_iconst (nI 0) dX8_begin_61 (by decide) ?_
    refine e_iadd dX8_begin_62 ?_
    refine e_int (nI (i * 3)) (nI_add (i * 3) 0) ?_
    refine e_iaload (i * 3) dX8_begin_63 (Ms.s 3 rfl) (Ms.n (by decide)) rfl (by omega) (by decide) ?_
    refine e_int (nI (dB D i 0)) (by rw [fI_I, if_neg (by omega), fI_I, if_neg (by omega)]; exact (Gr.2.1 i (by omega) 0 (by decide))) ?_
    refine e_iastore (i * 6 + 2) dX8_begin_64 (Ms.s 16 rfl) (Ms.n (by decide)) rfl (by omega) (by decide) ?_
    refine e_aload_n dX8_begin_65 rfl rfl ?_
    refine e_getR (q := 16) dX8_begin_66 fl_RX8_9 (Ms.s 15 rfl) (Ms.n (by decide)) rfl (Ms.r 15 1 rfl) (by unfold fscr; omega) ?_
    refine e_iload_n dX8_begin_69 rfl rfl ?_
    refine e_iconst (nI 3) dX8_begin_70 (by decide) ?_
    refine e_iadd dX8_begin_71 ?_
    refine e_int (nI (i * 6 + 3)) (nI_add (i * 6) 3) ?_
    refine e_iconst (nI 0) dX8_begin_72 (by decide) ?_
    refine e_iastore (i * 6 + 3) dX8_begin_73 (Ms.s 16 rfl) (Ms.n (by decide)) rfl (by omega) (by decide) ?_
    refine e_aload_n dX8_begin_74 rfl rfl ?_
    refine e_getR (q := 16) dX8_begin_75 fl_RX8_9 (Ms.s 15 rfl) (Ms.n (by decide)) rfl (Ms.r 15 1 rfl) (by unfold fscr; omega) ?_
    refine e_iload_n dX8_begin_78 rfl rfl ?_
    refine e_iconst (nI 4) dX8_begin_79 (by decide) ?_
    refine e_iadd dX8_begin_80 ?_
    refine e_int (nI (i * 6 + 4)) (nI_add (i * 6) 4) ?_
    refine e_aload_n dX8_begin_81 rfl rfl ?_
    refine e_getR (q := 2) dX8_begin_82 fl_RX8_56 (Ms.s 15 rfl) (Ms.n (by decide)) rfl (Ms.r 15 0 rfl) (by unfold fscr; omega) ?_
    refine e_getR (q := 3) dX8_begin_85 fl_RX8_65 (Ms.s 2 rfl) (Ms.n (by decide)) rfl (Ms.r 2 0 rfl) (by unfold fscr; omega) ?_
    refine e_iload_n dX8_begin_88 rfl rfl ?_
    refine e_iconst (nI 3) dX8_begin_89 (by decide) ?_
    refine e_imul dX8_begin_90 ?_
    refine e_int (nI (i * 3)) (pk_mul i 3) ?_
    refine e_iconst (nI 1) dX8_begin_91 (by decide) ?_
    refine e_iadd dX8_begin_92 ?_
    refine e_int (nI (i * 3 + 1)) (nI_add (i * 3) 1) ?_
    refine e_iaload (i * 3 + 1) dX8_begin_93 (Ms.s 3 rfl) (Ms.n (by decide)) rfl (by omega) (by decide) ?_
    refine e_int (nI (dB D i 1)) (by rw [fI_I, if_neg (by omega), fI_I, if_neg (by omega), fI_I, if_neg (by omega), fI_I, if_neg (by omega)]; exact (Gr.2.1 i (by omega) 1 (by decide))) ?_
    refine e_iastore (i * 6 + 4) dX8_begin_94 (Ms.s 16 rfl) (Ms.n (by decide)) rfl (by omega) (by decide) ?_
    refine e_aload_n dX8_begin_95 rfl rfl ?_
    refine e_getR (q := 16) dX8_begin_96 fl_RX8_9 (Ms.s 15 rfl) (Ms.n (by decide)) rfl (Ms.r 15 1 rfl) (by unfold fscr; omega) ?_
    refine e_iload_n dX8_begin_99 rfl rfl ?_
    refine e_iconst (nI 5) dX8_begin_100 (by decide) ?_
    refine e_iadd dX8_begin_101 ?_
    refine e_int (nI (i * 6 + 5)) (nI_add (i * 6) 5) ?_
    refine e_iconst (nI 1) dX8_begin_102 (by decide) ?_
    refine e_iastore (i * 6 + 5) dX8_begin_103 (Ms.s 16 rfl) (Ms.n (by decide)) rfl (by omega) (by decide) ?_
    refine e_aload_n dX8_begin_104 rfl rfl ?_
    refine e_dup dX8_begin_105 rfl ?_
    refine e_getI dX8_begin_106 fl_RX8_15 (Ms.s 15 rfl) (Ms.n (by decide)) rfl ?_
    refine e_int (nI i) (by rw [fI_I, if_neg (by omega), fI_I, if_neg (by omega), fI_I, if_neg (by omega), fI_I, if_neg (by omega), fI_I, if_neg (by omega), fI_I, if_neg (by omega)]; exact hp) ?_
    refine e_iconst (nI 1) dX8_begin_109 (by decide) ?_
    refine e_iadd dX8_begin_110 ?_
    refine e_int (nI (i + 1)) (nI_add i 1) ?_
    refine e_putI dX8_begin_111 fl_RX8_15 (Ms.s 15 rfl) (Ms.n (by decide)) rfl rfl ?_
    refine e_iinc (v := nI (i + 1)) (L1 := [some (.ref 15), some (.int (nI (i + 1))), some (.int (nI (i * 6)))]) dX8_begin_114 rfl (show nI i + Int32.ofInt 1 = nI (i + 1) from nI_add i 1) (by decide) rfl ?_
    refine e_goto 7 dX8_begin_117 (by decide) ?_
    refine ih (i + 1) (fsI (fsI (fsI (fsI (fsI (fsI (fsI σ 16 (i * 6) (nI i)) 16 (i * 6 + 1) (nI 0)) 16 (i * 6 + 2) (nI (dB D i 0))) 16 (i * 6 + 3) (nI 0)) 16 (i * 6 + 4) (nI (dB D i 1))) 16 (i * 6 + 5) (nI 1)) 15 2 (nI (i + 1))) _ (by omega) (Ms.sm (((((((fSm_I (A := fYA 15) ⟨by omega, by omega⟩).tr (fSm_I (A := fYA 15) ⟨by omega, by omega⟩)).tr (fSm_I (A := fYA 15) ⟨by omega, by omega⟩)).tr (fSm_I (A := fYA 15) ⟨by omega, by omega⟩)).tr (fSm_I (A := fYA 15) ⟨by omega, by omega⟩)).tr (fSm_I (A := fYA 15) ⟨by omega, by omega⟩)).tr (fSm_I (A := fYA 15) ⟨by omega, by omega⟩))) Gr (by rw [fI_I, if_pos ⟨rfl, rfl⟩]) (fun p hp9 c hc => ?_) (fun σ' Sm' => h σ' ((((((((fSm_I (A := fYA 15) ⟨by omega, by omega⟩).tr (fSm_I (A := fYA 15) ⟨by omega, by omega⟩)).tr (fSm_I (A := fYA 15) ⟨by omega, by omega⟩)).tr (fSm_I (A := fYA 15) ⟨by omega, by omega⟩)).tr (fSm_I (A := fYA 15) ⟨by omega, by omega⟩)).tr (fSm_I (A := fYA 15) ⟨by omega, by omega⟩)).tr (fSm_I (A := fYA 15) ⟨by omega, by omega⟩)).tr Sm'))
    by_cases e : p = i
    · rw [e]
      rcases (show c = 0 ∨ c = 1 ∨ c = 2 ∨ c = 3 ∨ c = 4 ∨ c = 5 by omega) with rfl | rfl | rfl | rfl | rfl | rfl
      · rw [fI_I, if_neg (by omega), fI_I, if_neg (by omega), fI_I, if_neg (by omega), fI_I, if_neg (by omega), fI_I, if_neg (by omega), fI_I, if_neg (by omega), fI_I, if_pos ⟨rfl, rfl⟩]; rfl
      · rw [fI_I, if_neg (by omega), fI_I, if_neg (by omega), fI_I, if_neg (by omega), fI_I, if_neg (by omega), fI_I, if_neg (by omega), fI_I, if_pos ⟨rfl, rfl⟩]; rfl
      · rw [fI_I, if_neg (by omega), fI_I, if_neg (by omega), fI_I, if_neg (by omega), fI_I, if_neg (by omega), fI_I, if_pos ⟨rfl, rfl⟩]; rfl
      · rw [fI_I, if_neg (by omega), fI_I, if_neg (by omega), fI_I, if_neg (by omega), fI_I, if_pos ⟨rfl, rfl⟩]; rfl
      · rw [fI_I, if_neg (by omega), fI_I, if_neg (by omega), fI_I, if_pos ⟨rfl, rfl⟩]; rfl
      · rw [fI_I, if_neg (by omega), fI_I, if_pos ⟨rfl, rfl⟩]; rfl
    · rw [fI_I, if_neg (by omega), fI_I, if_neg (by omega), fI_I, if_neg (by omega), fI_I, if_neg (by omega), fI_I, if_neg (by omega), fI_I, if_neg (by omega), fI_I, if_neg (by omega)]; exact hr p (by omega) c hc
set_option maxRecDepth 20000 in
theorem t_X8_begin {g : fGP} {d : Nat} {Q : fRes → fAH → Prop} {D : fSD} {T : Nat → Int32} (hD : fWD D) {σ : fAH} (Ms : fMs g σ) (Gr : fGr σ 2 D) (h : ∀ σ', fSm (fYA 15) σ σ' → fYf σ' 15 D (mS0 D) T (nI 0) → Q (.inl none) σ') : fEv g (d + 1) mX8_begin 0 (fent [.ref 15] 3) [] σ Q := by
  show fEv g (d + 1) mX8_begin 0 [some (.ref 15), none, none] [] σ Q
  refine e_aload_n dX8_begin_0 rfl rfl ?_
  refine e_iconst (nI 0) dX8_begin_1 (by decide) ?_
  refine e_putI dX8_begin_2 fl_RX8_15 (Ms.s 15 rfl) (Ms.n (by decide)) rfl rfl ?_
  refine e_iconst (nI 0) dX8_begin_5 (by decide) ?_
  refine e_istore_n (L1 := [some (.ref 15), some (.int (nI 0)), none]) dX8_begin_6 rfl (by decide) rfl ?_
  exact l_X8_bg1 hD (dT D 0) 0 _ _ (by omega) (Ms.sm (fSm_I (A := fYA 15) ⟨by omega, by omega⟩)) Gr (by rw [fI_I, if_pos ⟨rfl, rfl⟩]) (fun p hp => absurd hp (by omega)) (fun σ' Sm' => h σ' ((fSm_I (A := fYA 15) ⟨by omega, by omega⟩).tr Sm'))
set_option maxRecDepth 20000 in
theorem t_X0_begin {g : fGP} {d : Nat} {σ : fAH} {Q : fRes → fAH → Prop} (Ms : fMs g σ) (h : ∀ σ', fSm (fun a => a = 29 ∨ a = 31) σ σ' → fI σ' 29 1 = nI 0 → (∀ j, j < 4 → fI σ' 31 j = nI 0) → Q (.inl none) σ') : fEv g (d + 1) mX0_begin 0 (fent [.ref 29] 1) [] σ Q := by
  show fEv g (d + 1) mX0_begin 0 [some (.ref 29)] [] σ Q
  refine e_aload_n dX0_begin_0 rfl rfl ?_
  refine e_iconst (nI 0) dX0_begin_1 (by decide) ?_
  refine e_putI dX0_begin_2 fl_RX0_15 (Ms.s 29 rfl) (Ms.n (by decide)) rfl rfl ?_
  refine e_aload_n dX0_begin_5 rfl rfl ?_
  refine e_getR (q := 31) dX0_begin_6 fl_RX0_19 (Ms.s 29 rfl) (Ms.n (by decide)) rfl (Ms.r 29 2 rfl) (by unfold fscr; omega) ?_
  refine e_iconst (nI 0) dX0_begin_9 (by decide) ?_
  refine e_callS [.ref 31, .int (nI 0)] dX0_begin_10 cc_J7_fill_53178 lk_RX0_22 st_J7_fill_53178 in_RJ7 rfl (Nat.le_of_ble_eq_true rfl) (Nat.le_of_ble_eq_true rfl) ?_
  refine t_J7_fill (Ms.s 31 rfl) (by decide) (Ms.n (by decide)) (fun σ1 Sm1 hp1 => fK_v ?_)
  show fEv g _ mX0_begin 13 [some (.ref 29)] [] σ1 Q
  exact e_return dX0_begin_13 rfl (h _ ((fSm_I (A := fun a => a = 29 ∨ a = 31) (Or.inl rfl)).tr (Sm1.to (fun a (q : a = 31) => Or.inr q))) ((Sm1.i (fun (q : 29 = 31) => by omega) 1).trans (by rw [fI_I, if_pos ⟨rfl, rfl⟩])) hp1)
