theorem ac_0 : Cond.arrayClass (fTy 0) ∈ lw_tbl := List.mem_of_getElem? (i := 247) (by decide +kernel)
theorem ac_1 : Cond.arrayClass (fTy 1) ∈ lw_tbl := List.mem_of_getElem? (i := 246) (by decide +kernel)
theorem ac_2 : Cond.arrayClass (fTy 2) ∈ lw_tbl := List.mem_of_getElem? (i := 1722) (by decide +kernel)
theorem nw_RL_8 : Cond.classLink RL 8 (fKC 8) ∈ lw_tbl ∧ Cond.instantiable (fKC 8) (fKN 8) ∈ lw_tbl ∧ Cond.initialized (fKC 8) ∈ lw_tbl := ⟨List.mem_of_getElem? (i := 159) (by decide +kernel), List.mem_of_getElem? (i := 160) (by decide +kernel), List.mem_of_getElem? (i := 133) (by decide +kernel)⟩
theorem nw_RX9_20 : Cond.classLink RX9 20 (fKC 2) ∈ lw_tbl ∧ Cond.instantiable (fKC 2) (fKN 2) ∈ lw_tbl ∧ Cond.initialized (fKC 2) ∈ lw_tbl := ⟨List.mem_of_getElem? (i := 167) (by decide +kernel), List.mem_of_getElem? (i := 168) (by decide +kernel), List.mem_of_getElem? (i := 134) (by decide +kernel)⟩
theorem nw_RX9_27 : Cond.classLink RX9 27 (fKC 4) ∈ lw_tbl ∧ Cond.instantiable (fKC 4) (fKN 4) ∈ lw_tbl ∧ Cond.initialized (fKC 4) ∈ lw_tbl := ⟨List.mem_of_getElem? (i := 248) (by decide +kernel), List.mem_of_getElem? (i := 249) (by decide +kernel), List.mem_of_getElem? (i := 136) (by decide +kernel)⟩
theorem nw_RX5_9 : Cond.classLink RX5 9 (fKC 2) ∈ lw_tbl ∧ Cond.instantiable (fKC 2) (fKN 2) ∈ lw_tbl ∧ Cond.initialized (fKC 2) ∈ lw_tbl := ⟨List.mem_of_getElem? (i := 254) (by decide +kernel), List.mem_of_getElem? (i := 168) (by decide +kernel), List.mem_of_getElem? (i := 134) (by decide +kernel)⟩
theorem nw_RX9_36 : Cond.classLink RX9 36 (fKC 7) ∈ lw_tbl ∧ Cond.instantiable (fKC 7) (fKN 7) ∈ lw_tbl ∧ Cond.initialized (fKC 7) ∈ lw_tbl := ⟨List.mem_of_getElem? (i := 281) (by decide +kernel), List.mem_of_getElem? (i := 282) (by decide +kernel), List.mem_of_getElem? (i := 137) (by decide +kernel)⟩
theorem nw_RX8_34 : Cond.classLink RX8 34 (fKC 3) ∈ lw_tbl ∧ Cond.instantiable (fKC 3) (fKN 3) ∈ lw_tbl ∧ Cond.initialized (fKC 3) ∈ lw_tbl := ⟨List.mem_of_getElem? (i := 287) (by decide +kernel), List.mem_of_getElem? (i := 288) (by decide +kernel), List.mem_of_getElem? (i := 139) (by decide +kernel)⟩
theorem nw_RX9_48 : Cond.classLink RX9 48 (fKC 0) ∈ lw_tbl ∧ Cond.instantiable (fKC 0) (fKN 0) ∈ lw_tbl ∧ Cond.initialized (fKC 0) ∈ lw_tbl := ⟨List.mem_of_getElem? (i := 360) (by decide +kernel), List.mem_of_getElem? (i := 361) (by decide +kernel), List.mem_of_getElem? (i := 140) (by decide +kernel)⟩
theorem nw_RX9_66 : Cond.classLink RX9 66 (fKC 1) ∈ lw_tbl ∧ Cond.instantiable (fKC 1) (fKN 1) ∈ lw_tbl ∧ Cond.initialized (fKC 1) ∈ lw_tbl := ⟨List.mem_of_getElem? (i := 379) (by decide +kernel), List.mem_of_getElem? (i := 380) (by decide +kernel), List.mem_of_getElem? (i := 141) (by decide +kernel)⟩
theorem nw_RX2_11 : Cond.classLink RX2 11 (fKC 7) ∈ lw_tbl ∧ Cond.instantiable (fKC 7) (fKN 7) ∈ lw_tbl ∧ Cond.initialized (fKC 7) ∈ lw_tbl := ⟨List.mem_of_getElem? (i := 385) (by decide +kernel), List.mem_of_getElem? (i := 282) (by decide +kernel), List.mem_of_getElem? (i := 137) (by decide +kernel)⟩
theorem nw_RX2_17 : Cond.classLink RX2 17 (fKC 6) ∈ lw_tbl ∧ Cond.instantiable (fKC 6) (fKN 6) ∈ lw_tbl ∧ Cond.initialized (fKC 6) ∈ lw_tbl := ⟨List.mem_of_getElem? (i := 386) (by decide +kernel), List.mem_of_getElem? (i := 389) (by decide +kernel), List.mem_of_getElem? (i := 142) (by decide +kernel)⟩
theorem nw_RX9_73 : Cond.classLink RX9 73 (fKC 5) ∈ lw_tbl ∧ Cond.instantiable (fKC 5) (fKN 5) ∈ lw_tbl ∧ Cond.initialized (fKC 5) ∈ lw_tbl := ⟨List.mem_of_getElem? (i := 418) (by decide +kernel), List.mem_of_getElem? (i := 419) (by decide +kernel), List.mem_of_getElem? (i := 143) (by decide +kernel)⟩
theorem nw_RL_85 : Cond.classLink RL 85 (fKC 9) ∈ lw_tbl ∧ Cond.instantiable (fKC 9) (fKN 9) ∈ lw_tbl ∧ Cond.initialized (fKC 9) ∈ lw_tbl := ⟨List.mem_of_getElem? (i := 1248) (by decide +kernel), List.mem_of_getElem? (i := 1249) (by decide +kernel), List.mem_of_getElem? (i := 144) (by decide +kernel)⟩
theorem cl_mna : Cond.classLink RX10 23 "[[I" ∈ lw_tbl := List.mem_of_getElem? (i := 1254) (by decide +kernel)
theorem fmR_o {R : Nat → Nat → Option Nat} {n N a j : Nat} (h : a ≠ n) : fmR R n N a j = R a j := if_neg h
set_option maxRecDepth 20000 in
theorem t_X1_init {g : fGP} {d : Nat} {σ : fAH} {Q : fRes → fAH → Prop} {k : Nat} (h : Q (.inl none) σ) : fEv g d mX1_init 0 (fent [.ref k] 1) [] σ Q := by
  show fEv g d mX1_init 0 [some (.ref k)] [] σ Q
  refine e_aload_n dX1_init_0 rfl rfl ?_
  refine e_objInit dX1_init_1 ml_RX1_1 w_obj (Nat.le_of_ble_eq_true rfl) ?_
  exact e_return dX1_init_4 rfl h
set_option maxRecDepth 20000 in
theorem t_X4_init {g : fGP} {d : Nat} {Q : fRes → fAH → Prop} {R : Nat → Nat → Option Nat} {I : Nat → Nat → Int32} {J : Nat → Nat → Int64} {k u : Nat} {n : Nat} (hs : gsh g k = .inl 3) (hk : k < n) (hi : I k 0 = nI 0) (h : Q (.inl none) ((n, 0, u), R, I, J)) : fEv g (d + 1) mX4_init 0 (fent [.ref k] 1) [] ((n, 0, u), R, I, J) Q := by
  show fEv g (d + 1) mX4_init 0 [some (.ref k)] [] ((n, 0, u), R, I, J) Q
  refine e_aload_n dX4_init_0 rfl rfl ?_
  refine e_callI (k := k) [] dX4_init_1 cc_X1_init rfl lk_RX4_1 im_X1_init rfl rfl (Nat.le_of_ble_eq_true rfl) (Nat.le_of_ble_eq_true rfl) ?_
  refine t_X1_init (fK_v ?_)
  show fEv g _ mX4_init 4 [some (.ref k)] [] ((n, 0, u), R, I, J) Q
  refine e_aload_n dX4_init_4 rfl rfl ?_
  refine e_iconst (nI 0) dX4_init_5 (by decide) ?_
  refine n_putI0 dX4_init_6 fl_RX4_7 hs hk rfl rfl hi ?_
  exact e_return dX4_init_9 rfl h
set_option maxRecDepth 20000 in
theorem t_X0_init {g : fGP} {d : Nat} {Q : fRes → fAH → Prop} {R : Nat → Nat → Option Nat} {I : Nat → Nat → Int32} {J : Nat → Nat → Int64} {k u : Nat} (z0 : fZ k R I J) (sh : gsh g k = .inl 0 ∧ gsh g (k + 1) = .inr (0, 30) ∧ gsh g (k + 2) = .inr (0, 4)) (hc : k + 3 ≤ 601024) (hu : u + 34 ≤ 7293034) (h : Q (.inl none) ((k + 3, 0, u + 34), dRf R k, I, J)) : fEv g (d) mX0_init 0 (fent [.ref k] 1) [] ((k + 1, 0, u), R, I, J) Q := by
  show fEv g (d) mX0_init 0 [some (.ref k)] [] ((k + 1, 0, u), R, I, J) Q
  have z := z0.to (m := k + 1) (by omega)
  refine e_aload_n dX0_init_0 rfl rfl ?_
  refine e_objInit dX0_init_1 ml_RX0_3 w_obj (Nat.le_of_ble_eq_true rfl) ?_
  refine e_aload_n dX0_init_4 rfl rfl ?_
  refine e_bipush (nI 30) dX0_init_5 (by decide) ?_
  refine n_newarr (t := 0) (N := 30) (k + 2) (u + 30) dX0_init_7 rfl (by decide) ac_0 rfl (by decide) z (sh.2.1) (by omega) (by omega) (by omega) (by omega) ?_
  have z_1 := z.to (m := k + 2) (by omega)
  refine n_putR dX0_init_9 fl_RX0_9 (sh.1) (by omega) rfl rfl rfl ff_RX0_9 rfl (by unfold fscr; omega) ?_
  have z_2 := z_1.up (k := k) (j := 0) (v := some (k + 1)) (by omega)
  refine e_aload_n dX0_init_12 rfl rfl ?_
  refine e_iconst (nI 0) dX0_init_13 (by decide) ?_
  refine n_putI0 dX0_init_14 fl_RX0_15 (sh.1) (by omega) rfl rfl ((z0 _ (by omega) _).2.1) ?_
  refine e_aload_n dX0_init_17 rfl rfl ?_
  refine e_iconst (nI 4) dX0_init_18 (by decide) ?_
  refine n_newarr (t := 0) (N := 4) (k + 3) (u + 34) dX0_init_19 rfl (by decide) ac_0 rfl (by decide) z_2 (sh.2.2) (by omega) (by omega) (by omega) (by omega) ?_
  have z_3 := z_2.to (m := k + 3) (by omega)
  refine n_putR dX0_init_21 fl_RX0_19 (sh.1) (by omega) rfl rfl rfl ff_RX0_19 rfl (by unfold fscr; omega) ?_
  have z_4 := z_3.up (k := k) (j := 2) (v := some (k + 2)) (by omega)
  exact e_return dX0_init_24 rfl h
set_option maxRecDepth 20000 in
theorem t_X6_init {g : fGP} {d : Nat} {Q : fRes → fAH → Prop} {R : Nat → Nat → Option Nat} {I : Nat → Nat → Int32} {J : Nat → Nat → Int64} {k u : Nat} (z0 : fZ k R I J) (sh : gsh g k = .inl 5 ∧ gsh g (k + 1) = .inr (0, 18) ∧ gsh g (k + 2) = .inr (0, 18) ∧ gsh g (k + 3) = .inr (0, 18)) (hc : k + 4 ≤ 601024) (hu : u + 54 ≤ 7293034) (h : Q (.inl none) ((k + 4, 0, u + 54), tRf R k, I, J)) : fEv g (d) mX6_init 0 (fent [.ref k] 1) [] ((k + 1, 0, u), R, I, J) Q := by
  show fEv g (d) mX6_init 0 [some (.ref k)] [] ((k + 1, 0, u), R, I, J) Q
  have z := z0.to (m := k + 1) (by omega)
  refine e_aload_n dX6_init_0 rfl rfl ?_
  refine e_objInit dX6_init_1 ml_RX6_3 w_obj (Nat.le_of_ble_eq_true rfl) ?_
  refine e_aload_n dX6_init_4 rfl rfl ?_
  refine e_bipush (nI 18) dX6_init_5 (by decide) ?_
  refine n_newarr (t := 0) (N := 18) (k + 2) (u + 18) dX6_init_7 rfl (by decide) ac_0 rfl (by decide) z (sh.2.1) (by omega) (by omega) (by omega) (by omega) ?_
  have z_1 := z.to (m := k + 2) (by omega)
  refine n_putR dX6_init_9 fl_RX6_9 (sh.1) (by omega) rfl rfl rfl ff_RX6_9 rfl (by unfold fscr; omega) ?_
  have z_2 := z_1.up (k := k) (j := 0) (v := some (k + 1)) (by omega)
  refine e_aload_n dX6_init_12 rfl rfl ?_
  refine e_bipush (nI 18) dX6_init_13 (by decide) ?_
  refine n_newarr (t := 0) (N := 18) (k + 3) (u + 36) dX6_init_15 rfl (by decide) ac_0 rfl (by decide) z_2 (sh.2.2.1) (by omega) (by omega) (by omega) (by omega) ?_
  have z_3 := z_2.to (m := k + 3) (by omega)
  refine n_putR dX6_init_17 fl_RX6_15 (sh.1) (by omega) rfl rfl rfl ff_RX6_15 rfl (by unfold fscr; omega) ?_
  have z_4 := z_3.up (k := k) (j := 1) (v := some (k + 2)) (by omega)
  refine e_aload_n dX6_init_20 rfl rfl ?_
  refine e_bipush (nI 18) dX6_init_21 (by decide) ?_
  refine n_newarr (t := 0) (N := 18) (k + 4) (u + 54) dX6_init_23 rfl (by decide) ac_0 rfl (by decide) z_4 (sh.2.2.2) (by omega) (by omega) (by omega) (by omega) ?_
  have z_5 := z_4.to (m := k + 4) (by omega)
  refine n_putR dX6_init_25 fl_RX6_18 (sh.1) (by omega) rfl rfl rfl ff_RX6_18 rfl (by unfold fscr; omega) ?_
  have z_6 := z_5.up (k := k) (j := 2) (v := some (k + 3)) (by omega)
  refine e_aload_n dX6_init_28 rfl rfl ?_
  refine e_iconst (nI 0) dX6_init_29 (by decide) ?_
  refine n_putI0 dX6_init_30 fl_RX6_21 (sh.1) (by omega) rfl rfl ((z0 _ (by omega) _).2.1) ?_
  exact e_return dX6_init_33 rfl h
set_option maxRecDepth 20000 in
theorem t_X7_init {g : fGP} {d : Nat} {Q : fRes → fAH → Prop} {R : Nat → Nat → Option Nat} {I : Nat → Nat → Int32} {J : Nat → Nat → Int64} {k u : Nat} (z0 : fZ k R I J) (sh : gsh g k = .inl 6 ∧ gsh g (k + 1) = .inr (0, 12)) (hc : k + 2 ≤ 601024) (hu : u + 12 ≤ 7293034) (h : Q (.inl none) ((k + 2, 0, u + 12), wRf R k, I, J)) : fEv g (d + 1) mX7_init 0 (fent [.ref k] 1) [] ((k + 1, 0, u), R, I, J) Q := by
  show fEv g (d + 1) mX7_init 0 [some (.ref k)] [] ((k + 1, 0, u), R, I, J) Q
  have z := z0.to (m := k + 1) (by omega)
  refine e_aload_n dX7_init_0 rfl rfl ?_
  refine e_callI (k := k) [] dX7_init_1 cc_X1_init rfl lk_RX7_3 im_X1_init rfl rfl (Nat.le_of_ble_eq_true rfl) (Nat.le_of_ble_eq_true rfl) ?_
  refine t_X1_init (fK_v ?_)
  show fEv g _ mX7_init 4 [some (.ref k)] [] ((k + 1, 0, u), R, I, J) Q
  refine e_aload_n dX7_init_4 rfl rfl ?_
  refine e_bipush (nI 12) dX7_init_5 (by decide) ?_
  refine n_newarr (t := 0) (N := 12) (k + 2) (u + 12) dX7_init_7 rfl (by decide) ac_0 rfl (by decide) z (sh.2) (by omega) (by omega) (by omega) (by omega) ?_
  have z_1 := z.to (m := k + 2) (by omega)
  refine n_putR dX7_init_9 fl_RX7_9 (sh.1) (by omega) rfl rfl rfl ff_RX7_9 rfl (by unfold fscr; omega) ?_
  have z_2 := z_1.up (k := k) (j := 0) (v := some (k + 1)) (by omega)
  refine e_aload_n dX7_init_12 rfl rfl ?_
  refine e_iconst (nI 0) dX7_init_13 (by decide) ?_
  refine n_putI0 dX7_init_14 fl_RX7_15 (sh.1) (by omega) rfl rfl ((z0 _ (by omega) _).2.1) ?_
  refine e_aload_n dX7_init_17 rfl rfl ?_
  refine e_iconst (nI 0) dX7_init_18 (by decide) ?_
  refine n_putI0 dX7_init_19 fl_RX7_19 (sh.1) (by omega) rfl rfl ((z0 _ (by omega) _).2.1) ?_
  exact e_return dX7_init_22 rfl h
set_option maxRecDepth 20000 in
theorem t_X8_init {g : fGP} {d : Nat} {Q : fRes → fAH → Prop} {R : Nat → Nat → Option Nat} {I : Nat → Nat → Int32} {J : Nat → Nat → Int64} {k u : Nat} {q : Nat} (z0 : fZ k R I J) (sh : gsh g k = .inl 7 ∧ gsh g (k + 1) = .inr (0, 108) ∧ gsh g (k + 2) = .inr (0, 12) ∧ gsh g (k + 3) = .inr (0, 6) ∧ gsh g (k + 4) = .inr (0, 30) ∧ gsh g (k + 5) = .inr (0, 48) ∧ gsh g (k + 6) = .inl 3) (hc : k + 7 ≤ 601024) (hu : u + 205 ≤ 7293034) (hq : q < fscr) (h : Q (.inl none) ((k + 7, 0, u + 205), yRf R k q, I, J)) : fEv g (d + 2) mX8_init 0 (fent [.ref k, .ref q] 2) [] ((k + 1, 0, u), R, I, J) Q := by
  show fEv g (d + 2) mX8_init 0 [some (.ref k), some (.ref q)] [] ((k + 1, 0, u), R, I, J) Q
  have z := z0.to (m := k + 1) (by omega)
  refine e_aload_n dX8_init_0 rfl rfl ?_
  refine e_objInit dX8_init_1 ml_RX8_3 w_obj (Nat.le_of_ble_eq_true rfl) ?_
  refine e_aload_n dX8_init_4 rfl rfl ?_
  refine e_bipush (nI 108) dX8_init_5 (by decide) ?_
  refine n_newarr (t := 0) (N := 108) (k + 2) (u + 108) dX8_init_7 rfl (by decide) ac_0 rfl (by decide) z (sh.2.1) (by omega) (by omega) (by omega) (by omega) ?_
  have z_1 := z.to (m := k + 2) (by omega)
  refine n_putR dX8_init_9 fl_RX8_9 (sh.1) (by omega) rfl rfl rfl ff_RX8_9 rfl (by unfold fscr; omega) ?_
  have z_2 := z_1.up (k := k) (j := 1) (v := some (k + 1)) (by omega)
  refine e_aload_n dX8_init_12 rfl rfl ?_
  refine e_iconst (nI 0) dX8_init_13 (by decide) ?_
  refine n_putI0 dX8_init_14 fl_RX8_15 (sh.1) (by omega) rfl rfl ((z0 _ (by omega) _).2.1) ?_
  refine e_aload_n dX8_init_17 rfl rfl ?_
  refine e_bipush (nI 12) dX8_init_18 (by decide) ?_
  refine n_newarr (t := 0) (N := 12) (k + 3) (u + 120) dX8_init_20 rfl (by decide) ac_0 rfl (by decide) z_2 (sh.2.2.1) (by omega) (by omega) (by omega) (by omega) ?_
  have z_3 := z_2.to (m := k + 3) (by omega)
  refine n_putR dX8_init_22 fl_RX8_19 (sh.1) (by omega) rfl rfl rfl ff_RX8_19 rfl (by unfold fscr; omega) ?_
  have z_4 := z_3.up (k := k) (j := 3) (v := some (k + 2)) (by omega)
  refine e_aload_n dX8_init_25 rfl rfl ?_
  refine e_iconst (nI 0) dX8_init_26 (by decide) ?_
  refine n_putI0 dX8_init_27 fl_RX8_22 (sh.1) (by omega) rfl rfl ((z0 _ (by omega) _).2.1) ?_
  refine e_aload_n dX8_init_30 rfl rfl ?_
  refine e_bipush (nI 6) dX8_init_31 (by decide) ?_
  refine n_newarr (t := 0) (N := 6) (k + 4) (u + 126) dX8_init_33 rfl (by decide) ac_0 rfl (by decide) z_4 (sh.2.2.2.1) (by omega) (by omega) (by omega) (by omega) ?_
  have z_5 := z_4.to (m := k + 4) (by omega)
  refine n_putR dX8_init_35 fl_RX8_25 (sh.1) (by omega) rfl rfl rfl ff_RX8_25 rfl (by unfold fscr; omega) ?_
  have z_6 := z_5.up (k := k) (j := 5) (v := some (k + 3)) (by omega)
  refine e_aload_n dX8_init_38 rfl rfl ?_
  refine e_bipush (nI 30) dX8_init_39 (by decide) ?_
  refine n_newarr (t := 0) (N := 30) (k + 5) (u + 156) dX8_init_41 rfl (by decide) ac_0 rfl (by decide) z_6 (sh.2.2.2.2.1) (by omega) (by omega) (by omega) (by omega) ?_
  have z_7 := z_6.to (m := k + 5) (by omega)
  refine n_putR dX8_init_43 fl_RX8_28 (sh.1) (by omega) rfl rfl rfl ff_RX8_28 rfl (by unfold fscr; omega) ?_
  have z_8 := z_7.up (k := k) (j := 6) (v := some (k + 4)) (by omega)
  refine e_aload_n dX8_init_46 rfl rfl ?_
  refine e_bipush (nI 48) dX8_init_47 (by decide) ?_
  refine n_newarr (t := 0) (N := 48) (k + 6) (u + 204) dX8_init_49 rfl (by decide) ac_0 rfl (by decide) z_8 (sh.2.2.2.2.2.1) (by omega) (by omega) (by omega) (by omega) ?_
  have z_9 := z_8.to (m := k + 6) (by omega)
  refine n_putR dX8_init_51 fl_RX8_31 (sh.1) (by omega) rfl rfl rfl ff_RX8_31 rfl (by unfold fscr; omega) ?_
  have z_10 := z_9.up (k := k) (j := 7) (v := some (k + 5)) (by omega)
  refine e_aload_n dX8_init_54 rfl rfl ?_
  refine n_new (c9 := 3) (k + 7) (u + 205) dX8_init_55 nw_RX8_34 (by decide) z_10 (sh.2.2.2.2.2.2) (by omega) (show u + 204 + 1 ≤ 7293034 by omega) (by omega) (show u + 205 = u + 204 + 1 by omega) ?_
  have z_11 := z_10.to (m := k + 7) (by omega)
  refine e_dup dX8_init_58 rfl ?_
  refine e_callI (k := k + 6) [] dX8_init_59 cc_X4_init rfl lk_RX8_36 im_X4_init rfl rfl (Nat.le_of_ble_eq_true rfl) (Nat.le_of_ble_eq_true rfl) ?_
  refine t_X4_init (sh.2.2.2.2.2.2) (by omega) ((z_10 _ (by omega) _).2.1) (fK_v ?_)
  show fEv g _ mX8_init 62 [some (.ref k), some (.ref q)] [.ref (k + 6), .ref k] ((k + 7, 0, u + 205), fup (fup (fup (fup (fup R k 1 (some (k + 1))) k 3 (some (k + 2))) k 5 (some (k + 3))) k 6 (some (k + 4))) k 7 (some (k + 5)), I, J) Q
  refine n_putR dX8_init_62 fl_RX8_37 (sh.1) (by omega) rfl rfl rfl ff_RX8_37 rfl (by unfold fscr; omega) ?_
  have z_12 := z_11.up (k := k) (j := 8) (v := some (k + 6)) (by omega)
  refine e_aload_n dX8_init_65 rfl rfl ?_
  refine e_iconst (nI 0) dX8_init_66 (by decide) ?_
  refine n_putI0 dX8_init_67 fl_RX8_41 (sh.1) (by omega) rfl rfl ((z0 _ (by omega) _).2.1) ?_
  refine e_aload_n dX8_init_70 rfl rfl ?_
  refine e_iconst (nI 0) dX8_init_71 (by decide) ?_
  refine n_putI0 dX8_init_72 fl_RX8_44 (sh.1) (by omega) rfl rfl ((z0 _ (by omega) _).2.1) ?_
  refine e_aload_n dX8_init_75 rfl rfl ?_
  refine e_iconst (nI 0) dX8_init_76 (by decide) ?_
  refine n_putI0 dX8_init_77 fl_RX8_47 (sh.1) (by omega) rfl rfl ((z0 _ (by omega) _).2.1) ?_
  refine e_aload_n dX8_init_80 rfl rfl ?_
  refine e_iconst (nI 0) dX8_init_81 (by decide) ?_
  refine n_putI0 dX8_init_82 fl_RX8_50 (sh.1) (by omega) rfl rfl ((z0 _ (by omega) _).2.1) ?_
  refine e_aload_n dX8_init_85 rfl rfl ?_
  refine e_iconst (nI 0) dX8_init_86 (by decide) ?_
  refine n_putI0 dX8_init_87 fl_RX8_53 (sh.1) (by omega) rfl rfl ((z0 _ (by omega) _).2.1) ?_
  refine e_aload_n dX8_init_90 rfl rfl ?_
  refine e_aload_n dX8_init_91 rfl rfl ?_
  refine n_putR dX8_init_92 fl_RX8_56 (sh.1) (by omega) rfl rfl rfl ff_RX8_56 rfl hq ?_
  have z_13 := z_12.up (k := k) (j := 0) (v := some (q)) (by omega)
  exact e_return dX8_init_95 rfl h
set_option maxRecDepth 20000 in
theorem t_X3_init {g : fGP} {d : Nat} {Q : fRes → fAH → Prop} {R : Nat → Nat → Option Nat} {I : Nat → Nat → Int32} {J : Nat → Nat → Int64} {k u : Nat} (z0 : fZ k R I J) (sh : gsh g k = .inl 2 ∧ gsh g (k + 1) = .inr (0, 18) ∧ gsh g (k + 2) = .inr (0, 60) ∧ gsh g (k + 3) = .inr (0, 30) ∧ gsh g (k + 4) = .inr (0, 72) ∧ gsh g (k + 5) = .inr (0, 300)) (hc : k + 6 ≤ 1000) (hu : u + 480 ≤ 7293034) (h : ∀ I' J', (∀ a, ¬ fGA k a → I' a = I a ∧ J' a = J a) → fGr ((k + 6, 0, u + 480), gRf R k, I', J') k D0 → Q (.inl none) ((k + 6, 0, u + 480), gRf R k, I', J')) : fEv g (d + 2) mX3_init 0 (fent [.ref k] 1) [] ((k + 1, 0, u), R, I, J) Q := by
  show fEv g (d + 2) mX3_init 0 [some (.ref k)] [] ((k + 1, 0, u), R, I, J) Q
  have z := z0.to (m := k + 1) (by omega)
  refine e_aload_n dX3_init_0 rfl rfl ?_
  refine e_objInit dX3_init_1 ml_RX3_3 w_obj (Nat.le_of_ble_eq_true rfl) ?_
  refine e_aload_n dX3_init_4 rfl rfl ?_
  refine e_bipush (nI 18) dX3_init_5 (by decide) ?_
  refine n_newarr (t := 0) (N := 18) (k + 2) (u + 18) dX3_init_7 rfl (by decide) ac_0 rfl (by decide) z (sh.2.1) (by omega) (by omega) (by omega) (by omega) ?_
  have z_1 := z.to (m := k + 2) (by omega)
  refine n_putR dX3_init_9 fl_RX3_9 (sh.1) (by omega) rfl rfl rfl ff_RX3_9 rfl (by unfold fscr; omega) ?_
  have z_2 := z_1.up (k := k) (j := 0) (v := some (k + 1)) (by omega)
  refine e_aload_n dX3_init_12 rfl rfl ?_
  refine e_bipush (nI 60) dX3_init_13 (by decide) ?_
  refine n_newarr (t := 0) (N := 60) (k + 3) (u + 78) dX3_init_15 rfl (by decide) ac_0 rfl (by decide) z_2 (sh.2.2.1) (by omega) (by omega) (by omega) (by omega) ?_
  have z_3 := z_2.to (m := k + 3) (by omega)
  refine n_putR dX3_init_17 fl_RX3_15 (sh.1) (by omega) rfl rfl rfl ff_RX3_15 rfl (by unfold fscr; omega) ?_
  have z_4 := z_3.up (k := k) (j := 1) (v := some (k + 2)) (by omega)
  refine e_aload_n dX3_init_20 rfl rfl ?_
  refine e_bipush (nI 30) dX3_init_21 (by decide) ?_
  refine n_newarr (t := 0) (N := 30) (k + 4) (u + 108) dX3_init_23 rfl (by decide) ac_0 rfl (by decide) z_4 (sh.2.2.2.1) (by omega) (by omega) (by omega) (by omega) ?_
  have z_5 := z_4.to (m := k + 4) (by omega)
  refine n_putR dX3_init_25 fl_RX3_18 (sh.1) (by omega) rfl rfl rfl ff_RX3_18 rfl (by unfold fscr; omega) ?_
  have z_6 := z_5.up (k := k) (j := 2) (v := some (k + 3)) (by omega)
  refine e_aload_n dX3_init_28 rfl rfl ?_
  refine e_bipush (nI 72) dX3_init_29 (by decide) ?_
  refine n_newarr (t := 0) (N := 72) (k + 5) (u + 180) dX3_init_31 rfl (by decide) ac_0 rfl (by decide) z_6 (sh.2.2.2.2.1) (by omega) (by omega) (by omega) (by omega) ?_
  have z_7 := z_6.to (m := k + 5) (by omega)
  refine n_putR dX3_init_33 fl_RX3_21 (sh.1) (by omega) rfl rfl rfl ff_RX3_21 rfl (by unfold fscr; omega) ?_
  have z_8 := z_7.up (k := k) (j := 3) (v := some (k + 4)) (by omega)
  refine e_aload_n dX3_init_36 rfl rfl ?_
  refine e_sipush (nI 300) dX3_init_37 (by decide) ?_
  refine n_newarr (t := 0) (N := 300) (k + 6) (u + 480) dX3_init_40 rfl (by decide) ac_0 rfl (by decide) z_8 (sh.2.2.2.2.2) (by omega) (by omega) (by omega) (by omega) ?_
  have z_9 := z_8.to (m := k + 6) (by omega)
  refine n_putR dX3_init_42 fl_RX3_24 (sh.1) (by omega) rfl rfl rfl ff_RX3_24 rfl (by unfold fscr; omega) ?_
  have z_10 := z_9.up (k := k) (j := 4) (v := some (k + 5)) (by omega)
  refine e_aload_n dX3_init_45 rfl rfl ?_
  have Gs : fGs g ((k + 6, 0, u + 480), fup (fup (fup (fup (fup R k 0 (some (k + 1))) k 1 (some (k + 2))) k 2 (some (k + 3))) k 3 (some (k + 4))) k 4 (some (k + 5)), I, J) k := ⟨⟨(sh.1), (sh.2.1), (sh.2.2.1), (sh.2.2.2.1), (sh.2.2.2.2.1), (sh.2.2.2.2.2)⟩, ⟨by show k + 5 < k + 6; omega, by show k + 6 ≤ 1000; omega⟩, ⟨(by show (fup (fup (fup (fup (fup R k 0 (some (k + 1))) k 1 (some (k + 2))) k 2 (some (k + 3))) k 3 (some (k + 4))) k 4 (some (k + 5))) k 0 = some (k + 1); rw [fup_o (by omega), fup_o (by omega), fup_o (by omega), fup_o (by omega), fup_s]), (by show (fup (fup (fup (fup (fup R k 0 (some (k + 1))) k 1 (some (k + 2))) k 2 (some (k + 3))) k 3 (some (k + 4))) k 4 (some (k + 5))) k 1 = some (k + 2); rw [fup_o (by omega), fup_o (by omega), fup_o (by omega), fup_s]), (by show (fup (fup (fup (fup (fup R k 0 (some (k + 1))) k 1 (some (k + 2))) k 2 (some (k + 3))) k 3 (some (k + 4))) k 4 (some (k + 5))) k 2 = some (k + 3); rw [fup_o (by omega), fup_o (by omega), fup_s]), (by show (fup (fup (fup (fup (fup R k 0 (some (k + 1))) k 1 (some (k + 2))) k 2 (some (k + 3))) k 3 (some (k + 4))) k 4 (some (k + 5))) k 3 = some (k + 4); rw [fup_o (by omega), fup_s]), (by show (fup (fup (fup (fup (fup R k 0 (some (k + 1))) k 1 (some (k + 2))) k 2 (some (k + 3))) k 3 (some (k + 4))) k 4 (some (k + 5))) k 4 = some (k + 5); rw [fup_s])⟩⟩
  refine e_callV (k := k) [] dX3_init_46 cc_X3_begin lk_RX3_27 im_X3_begin se_X3_begin (by decide) (sh.1) (show k < k + 6 by omega) rfl (Nat.le_of_ble_eq_true rfl) (Nat.le_of_ble_eq_true rfl) ?_
  refine t_X3_begin Gs (fun σ' sm Gr => fK_v ?_)
  obtain ⟨⟨n1, b1, u1⟩, R1, I1, J1⟩ := σ'
  obtain ⟨e1, e2, e3⟩ := sm
  have e1 : (n1, b1, u1) = (k + 6, 0, u + 480) := e1
  have e2 : R1 = gRf R k := e2
  cases e1
  subst e2
  show fEv g _ mX3_init 49 [some (.ref k)] [] ((k + 6, 0, u + 480), gRf R k, I1, J1) Q
  exact e_return dX3_init_49 rfl (h I1 J1 (fun a na => e3 a na) Gr)
set_option maxRecDepth 20000 in
theorem t_X5_init {g : fGP} {d : Nat} {Q : fRes → fAH → Prop} {R : Nat → Nat → Option Nat} {I : Nat → Nat → Int32} {J : Nat → Nat → Int64} {k u : Nat} {q : Nat} (z0 : fZ k R I J) (sh : gsh g k = .inl 4 ∧ gsh g (k + 1) = .inl 2 ∧ gsh g (k + 2) = .inr (0, 18) ∧ gsh g (k + 3) = .inr (0, 60) ∧ gsh g (k + 4) = .inr (0, 30) ∧ gsh g (k + 5) = .inr (0, 72) ∧ gsh g (k + 6) = .inr (0, 300)) (hc : k + 7 ≤ 1000) (hu : u + 492 ≤ 7293034) (hq : q < fscr) (h : ∀ I' J', (∀ a, ¬ (k ≤ a ∧ a < k + 7) → I' a = I a ∧ J' a = J a) → Q (.inl none) ((k + 7, 0, u + 492), rRf R k q, I', J')) : fEv g (d + 3) mX5_init 0 (fent [.ref k, .ref q] 2) [] ((k + 1, 0, u), R, I, J) Q := by
  show fEv g (d + 3) mX5_init 0 [some (.ref k), some (.ref q)] [] ((k + 1, 0, u), R, I, J) Q
  have z := z0.to (m := k + 1) (by omega)
  refine e_aload_n dX5_init_0 rfl rfl ?_
  refine e_objInit dX5_init_1 ml_RX5_3 w_obj (Nat.le_of_ble_eq_true rfl) ?_
  refine e_aload_n dX5_init_4 rfl rfl ?_
  refine n_new (c9 := 2) (k + 2) (u + 12) dX5_init_5 nw_RX5_9 (by decide) z (sh.2.1) (by omega) (show u + 12 ≤ 7293034 by omega) (by omega) (show u + 12 = u + 12 by omega) ?_
  have z_1 := z.to (m := k + 2) (by omega)
  refine e_dup dX5_init_8 rfl ?_
  refine e_callI (k := k + 1) [] dX5_init_9 cc_X3_init rfl lk_RX5_11 im_X3_init rfl rfl (Nat.le_of_ble_eq_true rfl) (Nat.le_of_ble_eq_true rfl) ?_
  refine t_X3_init (k := k + 1) z ⟨(sh.2.1), (sh.2.2.1), (sh.2.2.2.1), (sh.2.2.2.2.1), (sh.2.2.2.2.2.1), (sh.2.2.2.2.2.2)⟩ (by omega) (by omega) (fun I1 J1 e1 Gr1 => fK_v ?_)
  have z_2 := (z_1.to (m := k + 7) (by omega)).gR (q := k + 1) (by omega)
  have z_3 := z_2.ij (I' := I1) (J' := J1) (fun a ha => e1 a (by unfold fGA; omega))
  show fEv g _ mX5_init 12 [some (.ref k), some (.ref q)] [.ref (k + 1), .ref k] ((k + 7, 0, u + 492), gRf R (k + 1), I1, J1) Q
  refine n_putR dX5_init_12 fl_RX5_12 (sh.1) (by omega) rfl rfl rfl ff_RX5_12 rfl (by unfold fscr; omega) ?_
  have z_4 := z_3.up (k := k) (j := 1) (v := some (k + 1)) (by omega)
  refine e_aload_n dX5_init_15 rfl rfl ?_
  refine e_iconst (nI 0) dX5_init_16 (by decide) ?_
  refine n_putI0 dX5_init_17 fl_RX5_18 (sh.1) (by omega) rfl rfl ((congrFun (e1 k (by unfold fGA; omega)).1 _).trans (z0 _ (by omega) _).2.1) ?_
  refine e_aload_n dX5_init_20 rfl rfl ?_
  refine e_iconst (nI 0) dX5_init_21 (by decide) ?_
  refine n_putI0 dX5_init_22 fl_RX5_22 (sh.1) (by omega) rfl rfl ((congrFun (e1 k (by unfold fGA; omega)).1 _).trans (z0 _ (by omega) _).2.1) ?_
  refine e_aload_n dX5_init_25 rfl rfl ?_
  refine e_iconst (nI 0) dX5_init_26 (by decide) ?_
  refine n_putI0 dX5_init_27 fl_RX5_25 (sh.1) (by omega) rfl rfl ((congrFun (e1 k (by unfold fGA; omega)).1 _).trans (z0 _ (by omega) _).2.1) ?_
  refine e_aload_n dX5_init_30 rfl rfl ?_
  refine e_iconst (nI 0) dX5_init_31 (by decide) ?_
  refine n_putI0 dX5_init_32 fl_RX5_28 (sh.1) (by omega) rfl rfl ((congrFun (e1 k (by unfold fGA; omega)).1 _).trans (z0 _ (by omega) _).2.1) ?_
  refine e_aload_n dX5_init_35 rfl rfl ?_
  refine e_iconst (-1) dX5_init_36 (by decide) ?_
  refine n_putI dX5_init_37 fl_RX5_31 (sh.1) (by omega) rfl rfl ?_
  have z_5 := z_4.ij (I' := (fup I1 k 6 ((-1)))) (J' := J1) (fun a ha => ⟨funext (fun i => fup_o (by omega)), rfl⟩)
  refine e_aload_n dX5_init_40 rfl rfl ?_
  refine e_aload_n dX5_init_41 rfl rfl ?_
  refine n_putR dX5_init_42 fl_RX5_34 (sh.1) (by omega) rfl rfl rfl ff_RX5_34 rfl hq ?_
  have z_6 := z_5.up (k := k) (j := 0) (v := some (q)) (by omega)
  refine e_return dX5_init_45 rfl (h _ J1 (fun a na => ⟨?_, (e1 a (by unfold fGA; omega)).2⟩))
  funext i
  rw [fup_o (by omega)]
  exact congrFun (e1 a (by unfold fGA; omega)).1 i
set_option maxRecDepth 20000 in
theorem t_X2_init {g : fGP} {d : Nat} {Q : fRes → fAH → Prop} {R : Nat → Nat → Option Nat} {I : Nat → Nat → Int32} {J : Nat → Nat → Int64} {k u : Nat} {q : Nat} (z0 : fZ k R I J) (sh : gsh g k = .inl 1 ∧ gsh g (k + 1) = .inr (3, 2) ∧ gsh g (k + 2) = .inr (5, 2) ∧ gsh g (k + 3) = .inl 7 ∧ gsh g (k + 4) = .inr (0, 108) ∧ gsh g (k + 5) = .inr (0, 12) ∧ gsh g (k + 6) = .inr (0, 6) ∧ gsh g (k + 7) = .inr (0, 30) ∧ gsh g (k + 8) = .inr (0, 48) ∧ gsh g (k + 9) = .inl 3 ∧ gsh g (k + 10) = .inl 6 ∧ gsh g (k + 11) = .inr (0, 12) ∧ gsh g (k + 12) = .inl 7 ∧ gsh g (k + 13) = .inr (0, 108) ∧ gsh g (k + 14) = .inr (0, 12) ∧ gsh g (k + 15) = .inr (0, 6) ∧ gsh g (k + 16) = .inr (0, 30) ∧ gsh g (k + 17) = .inr (0, 48) ∧ gsh g (k + 18) = .inl 3 ∧ gsh g (k + 19) = .inl 6 ∧ gsh g (k + 20) = .inr (0, 12)) (hc : k + 21 ≤ 601024) (hu : u + 472 ≤ 7293034) (hq : q < fscr) (h : Q (.inl none) ((k + 21, 0, u + 472), oRf R k q, I, J)) : fEv g (d + 3) mX2_init 0 (fent [.ref k, .ref q] 3) [] ((k + 1, 0, u), R, I, J) Q := by
  show fEv g (d + 3) mX2_init 0 [some (.ref k), some (.ref q), none] [] ((k + 1, 0, u), R, I, J) Q
  have z := z0.to (m := k + 1) (by omega)
  refine e_aload_n dX2_init_0 rfl rfl ?_
  refine e_objInit dX2_init_1 ml_RX2_3 w_obj (Nat.le_of_ble_eq_true rfl) ?_
  refine e_aload_n dX2_init_4 rfl rfl ?_
  refine e_iconst (nI 2) dX2_init_5 (by decide) ?_
  refine n_anew (t := 3) (N := 2) (C9 := RX8) (k + 2) (u + 2) dX2_init_6 nw_RX2_11.1 List.mem_cons_self ⟨by decide, by decide⟩ rfl rfl (by decide) z (sh.2.1) (by omega) (by omega) (by omega) (by omega) ?_
  have z_1 := z.to (m := k + 2) (by omega)
  refine n_putR dX2_init_9 fl_RX2_13 (sh.1) (by omega) rfl rfl rfl ff_RX2_13 rfl (by unfold fscr; omega) ?_
  have z_2 := z_1.up (k := k) (j := 1) (v := some (k + 1)) (by omega)
  refine e_aload_n dX2_init_12 rfl rfl ?_
  refine e_iconst (nI 2) dX2_init_13 (by decide) ?_
  refine n_anew (t := 5) (N := 2) (C9 := RX7) (k + 3) (u + 4) dX2_init_14 nw_RX2_17.1 (List.mem_cons_of_mem _ (List.mem_cons_of_mem _ List.mem_cons_self)) ⟨by decide, by decide⟩ rfl rfl (by decide) z_2 (sh.2.2.1) (by omega) (by omega) (by omega) (by omega) ?_
  have z_3 := z_2.to (m := k + 3) (by omega)
  refine n_putR dX2_init_17 fl_RX2_19 (sh.1) (by omega) rfl rfl rfl ff_RX2_19 rfl (by unfold fscr; omega) ?_
  have z_4 := z_3.up (k := k) (j := 2) (v := some (k + 2)) (by omega)
  refine e_aload_n dX2_init_20 rfl rfl ?_
  refine e_iconst (nI 0) dX2_init_21 (by decide) ?_
  refine n_putI0 dX2_init_22 fl_RX2_23 (sh.1) (by omega) rfl rfl ((z0 _ (by omega) _).2.1) ?_
  refine e_aload_n dX2_init_25 rfl rfl ?_
  refine e_aload_n dX2_init_26 rfl rfl ?_
  refine n_putR dX2_init_27 fl_RX2_27 (sh.1) (by omega) rfl rfl rfl ff_RX2_27 rfl hq ?_
  have z_5 := z_4.up (k := k) (j := 0) (v := some (q)) (by omega)
  refine e_iconst (nI 0) dX2_init_30 (by decide) ?_
  refine e_istore_n (L1 := [some (.ref k), some (.ref q), some (.int (nI 0))]) dX2_init_31 rfl (by decide) rfl ?_
  refine e_iload_n dX2_init_32 rfl rfl ?_
  refine e_iconst (nI 2) dX2_init_33 (by decide) ?_
  refine e_icmp_ge 70 dX2_init_34 (by decide) (fun c => absurd c (by decide)) (fun _ => ?_)
  refine e_aload_n dX2_init_37 rfl rfl ?_
  refine e_getR (q := k + 1) dX2_init_38 fl_RX2_13 (sh.1) (show k < k + 3 by omega) rfl (by show (fup (fup (fup R k 1 (some (k + 1))) k 2 (some (k + 2))) k 0 (some q)) k 1 = some (k + 1); rw [fup_o (by omega), fup_o (by omega), fup_s]) (by unfold fscr; omega) ?_
  refine e_iload_n dX2_init_41 rfl rfl ?_
  refine n_new (c9 := 7) (k + 4) (u + 18) dX2_init_42 nw_RX2_11 (by decide) z_5 (sh.2.2.2.1) (by omega) (show u + 4 + 14 ≤ 7293034 by omega) (by omega) (show u + 18 = u + 4 + 14 by omega) ?_
  have z_6 := z_5.to (m := k + 4) (by omega)
  refine e_dup dX2_init_45 rfl ?_
  refine e_aload_n dX2_init_46 rfl rfl ?_
  refine e_callI (k := k + 3) [.ref q] dX2_init_47 cc_X8_init rfl lk_RX2_31 im_X8_init rfl rfl (Nat.le_of_ble_eq_true rfl) (Nat.le_of_ble_eq_true rfl) ?_
  refine t_X8_init (k := k + 3) z_5 ⟨(sh.2.2.2.1), (sh.2.2.2.2.1), (sh.2.2.2.2.2.1), (sh.2.2.2.2.2.2.1), (sh.2.2.2.2.2.2.2.1), (sh.2.2.2.2.2.2.2.2.1), (sh.2.2.2.2.2.2.2.2.2.1)⟩ (by omega) (by omega) hq (fK_v ?_)
  have z_7 := (z_6.to (m := k + 10) (by omega)).yR (k := k + 3) (q := q) (by omega)
  show fEv g _ mX2_init 50 [some (.ref k), some (.ref q), some (.int (nI 0))] [.ref (k + 3), .int (nI 0), .ref (k + 1)] ((k + 10, 0, u + 223), yRf (fup (fup (fup R k 1 (some (k + 1))) k 2 (some (k + 2))) k 0 (some q)) (k + 3) q, I, J) Q
  refine n_aast (t := 3) (N := 2) (cq := 7) 0 dX2_init_50 (sh.2.1) ⟨by decide, by decide⟩ (by omega) rfl (by decide) (by decide) (by omega) (sh.2.2.2.1) (by decide) rfl ?_
  have z_8 := z_7.up (k := (k + 1)) (j := 0) (v := some (k + 3)) (by omega)
  refine e_aload_n dX2_init_51 rfl rfl ?_
  refine e_getR (q := k + 2) dX2_init_52 fl_RX2_19 (sh.1) (show k < k + 10 by omega) rfl (by show (fup (yRf (fup (fup (fup R k 1 (some (k + 1))) k 2 (some (k + 2))) k 0 (some q)) (k + 3) q) (k + 1) 0 (some (k + 3))) k 2 = some (k + 2); rw [fup_o (by omega), yRf_o (by omega), fup_o (by omega), fup_s]) (by unfold fscr; omega) ?_
  refine e_iload_n dX2_init_55 rfl rfl ?_
  refine n_new (c9 := 6) (k + 11) (u + 226) dX2_init_56 nw_RX2_17 (by decide) z_8 (sh.2.2.2.2.2.2.2.2.2.2.1) (by omega) (show u + 223 + 3 ≤ 7293034 by omega) (by omega) (show u + 226 = u + 223 + 3 by omega) ?_
  have z_9 := z_8.to (m := k + 11) (by omega)
  refine e_dup dX2_init_59 rfl ?_
  refine e_callI (k := k + 10) [] dX2_init_60 cc_X7_init rfl lk_RX2_34 im_X7_init rfl rfl (Nat.le_of_ble_eq_true rfl) (Nat.le_of_ble_eq_true rfl) ?_
  refine t_X7_init (k := k + 10) z_8 ⟨(sh.2.2.2.2.2.2.2.2.2.2.1), (sh.2.2.2.2.2.2.2.2.2.2.2.1)⟩ (by omega) (by omega) (fK_v ?_)
  have z_10 := (z_9.to (m := k + 12) (by omega)).wR (k := k + 10) (by omega)
  show fEv g _ mX2_init 63 [some (.ref k), some (.ref q), some (.int (nI 0))] [.ref (k + 10), .int (nI 0), .ref (k + 2)] ((k + 12, 0, u + 238), wRf (fup (yRf (fup (fup (fup R k 1 (some (k + 1))) k 2 (some (k + 2))) k 0 (some q)) (k + 3) q) (k + 1) 0 (some (k + 3))) (k + 10), I, J) Q
  refine n_aast (t := 5) (N := 2) (cq := 6) 0 dX2_init_63 (sh.2.2.1) ⟨by decide, by decide⟩ (by omega) rfl (by decide) (by decide) (by omega) (sh.2.2.2.2.2.2.2.2.2.2.1) (by decide) rfl ?_
  have z_11 := z_10.up (k := (k + 2)) (j := 0) (v := some (k + 10)) (by omega)
  refine e_iinc (v := nI 1) (L1 := [some (.ref k), some (.ref q), some (.int (nI 1))]) dX2_init_64 rfl (by decide) (by decide) rfl ?_
  refine e_goto 32 dX2_init_67 (by decide) ?_
  refine e_iload_n dX2_init_32 rfl rfl ?_
  refine e_iconst (nI 2) dX2_init_33 (by decide) ?_
  refine e_icmp_ge 70 dX2_init_34 (by decide) (fun c => absurd c (by decide)) (fun _ => ?_)
  refine e_aload_n dX2_init_37 rfl rfl ?_
  refine e_getR (q := k + 1) dX2_init_38 fl_RX2_13 (sh.1) (show k < k + 12 by omega) rfl (by show (fup (wRf (fup (yRf (fup (fup (fup R k 1 (some (k + 1))) k 2 (some (k + 2))) k 0 (some q)) (k + 3) q) (k + 1) 0 (some (k + 3))) (k + 10)) (k + 2) 0 (some (k + 10))) k 1 = some (k + 1); rw [fup_o (by omega), wRf_o (by omega), fup_o (by omega), yRf_o (by omega), fup_o (by omega), fup_o (by omega), fup_s]) (by unfold fscr; omega) ?_
  refine e_iload_n dX2_init_41 rfl rfl ?_
  refine n_new (c9 := 7) (k + 13) (u + 252) dX2_init_42 nw_RX2_11 (by decide) z_11 (sh.2.2.2.2.2.2.2.2.2.2.2.2.1) (by omega) (show u + 238 + 14 ≤ 7293034 by omega) (by omega) (show u + 252 = u + 238 + 14 by omega) ?_
  have z_12 := z_11.to (m := k + 13) (by omega)
  refine e_dup dX2_init_45 rfl ?_
  refine e_aload_n dX2_init_46 rfl rfl ?_
  refine e_callI (k := k + 12) [.ref q] dX2_init_47 cc_X8_init rfl lk_RX2_31 im_X8_init rfl rfl (Nat.le_of_ble_eq_true rfl) (Nat.le_of_ble_eq_true rfl) ?_
  refine t_X8_init (k := k + 12) z_11 ⟨(sh.2.2.2.2.2.2.2.2.2.2.2.2.1), (sh.2.2.2.2.2.2.2.2.2.2.2.2.2.1), (sh.2.2.2.2.2.2.2.2.2.2.2.2.2.2.1), (sh.2.2.2.2.2.2.2.2.2.2.2.2.2.2.2.1), (sh.2.2.2.2.2.2.2.2.2.2.2.2.2.2.2.2.1), (sh.2.2.2.2.2.2.2.2.2.2.2.2.2.2.2.2.2.1), (sh.2.2.2.2.2.2.2.2.2.2.2.2.2.2.2.2.2.2.1)⟩ (by omega) (by omega) hq (fK_v ?_)
  have z_13 := (z_12.to (m := k + 19) (by omega)).yR (k := k + 12) (q := q) (by omega)
  show fEv g _ mX2_init 50 [some (.ref k), some (.ref q), some (.int (nI 1))] [.ref (k + 12), .int (nI 1), .ref (k + 1)] ((k + 19, 0, u + 457), yRf (fup (wRf (fup (yRf (fup (fup (fup R k 1 (some (k + 1))) k 2 (some (k + 2))) k 0 (some q)) (k + 3) q) (k + 1) 0 (some (k + 3))) (k + 10)) (k + 2) 0 (some (k + 10))) (k + 12) q, I, J) Q
  refine n_aast (t := 3) (N := 2) (cq := 7) 1 dX2_init_50 (sh.2.1) ⟨by decide, by decide⟩ (by omega) rfl (by decide) (by decide) (by omega) (sh.2.2.2.2.2.2.2.2.2.2.2.2.1) (by decide) rfl ?_
  have z_14 := z_13.up (k := (k + 1)) (j := 1) (v := some (k + 12)) (by omega)
  refine e_aload_n dX2_init_51 rfl rfl ?_
  refine e_getR (q := k + 2) dX2_init_52 fl_RX2_19 (sh.1) (show k < k + 19 by omega) rfl (by show (fup (yRf (fup (wRf (fup (yRf (fup (fup (fup R k 1 (some (k + 1))) k 2 (some (k + 2))) k 0 (some q)) (k + 3) q) (k + 1) 0 (some (k + 3))) (k + 10)) (k + 2) 0 (some (k + 10))) (k + 12) q) (k + 1) 1 (some (k + 12))) k 2 = some (k + 2); rw [fup_o (by omega), yRf_o (by omega), fup_o (by omega), wRf_o (by omega), fup_o (by omega), yRf_o (by omega), fup_o (by omega), fup_s]) (by unfold fscr; omega) ?_
  refine e_iload_n dX2_init_55 rfl rfl ?_
  refine n_new (c9 := 6) (k + 20) (u + 460) dX2_init_56 nw_RX2_17 (by decide) z_14 (sh.2.2.2.2.2.2.2.2.2.2.2.2.2.2.2.2.2.2.2.1) (by omega) (show u + 457 + 3 ≤ 7293034 by omega) (by omega) (show u + 460 = u + 457 + 3 by omega) ?_
  have z_15 := z_14.to (m := k + 20) (by omega)
  refine e_dup dX2_init_59 rfl ?_
  refine e_callI (k := k + 19) [] dX2_init_60 cc_X7_init rfl lk_RX2_34 im_X7_init rfl rfl (Nat.le_of_ble_eq_true rfl) (Nat.le_of_ble_eq_true rfl) ?_
  refine t_X7_init (k := k + 19) z_14 ⟨(sh.2.2.2.2.2.2.2.2.2.2.2.2.2.2.2.2.2.2.2.1), (sh.2.2.2.2.2.2.2.2.2.2.2.2.2.2.2.2.2.2.2.2)⟩ (by omega) (by omega) (fK_v ?_)
  have z_16 := (z_15.to (m := k + 21) (by omega)).wR (k := k + 19) (by omega)
  show fEv g _ mX2_init 63 [some (.ref k), some (.ref q), some (.int (nI 1))] [.ref (k + 19), .int (nI 1), .ref (k + 2)] ((k + 21, 0, u + 472), wRf (fup (yRf (fup (wRf (fup (yRf (fup (fup (fup R k 1 (some (k + 1))) k 2 (some (k + 2))) k 0 (some q)) (k + 3) q) (k + 1) 0 (some (k + 3))) (k + 10)) (k + 2) 0 (some (k + 10))) (k + 12) q) (k + 1) 1 (some (k + 12))) (k + 19), I, J) Q
  refine n_aast (t := 5) (N := 2) (cq := 6) 1 dX2_init_63 (sh.2.2.1) ⟨by decide, by decide⟩ (by omega) rfl (by decide) (by decide) (by omega) (sh.2.2.2.2.2.2.2.2.2.2.2.2.2.2.2.2.2.2.2.1) (by decide) rfl ?_
  have z_17 := z_16.up (k := (k + 2)) (j := 1) (v := some (k + 19)) (by omega)
  refine e_iinc (v := nI 2) (L1 := [some (.ref k), some (.ref q), some (.int (nI 2))]) dX2_init_64 rfl (by decide) (by decide) rfl ?_
  refine e_goto 32 dX2_init_67 (by decide) ?_
  refine e_iload_n dX2_init_32 rfl rfl ?_
  refine e_iconst (nI 2) dX2_init_33 (by decide) ?_
  refine e_icmp_ge 70 dX2_init_34 (by decide) (fun _ => ?_) (fun c => absurd c (by decide))
  exact e_return dX2_init_70 rfl h
