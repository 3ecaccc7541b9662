abbrev mL_law : fMT := (yL_law, cL_law, 8, some .boolean, [])
set_option maxRecDepth 20000 in
theorem c_told_v {g : fGP} {d : Nat} {σ : fAH} {Q : fRes → fAH → Prop} {x : fXS} {n i w : Nat} {o5 o6 : Option Value} (hg : gLL g < 2147483648) (hi : i + 6 ≤ gLL g) (hI : fLI g σ x (n + 1)) (hw : w < 8) (hw1 : gxs g (i + 1) = nI w) (h : ∀ σ' x' o5 o6, fLI g σ' x' n → fEv g (d + 45) mL_law 1782 [some (.ref fscr), some (.ref 0), some (.ref 89), some (.ref 300), some (.int (nI i)), o5, o6, none] [] σ' Q) : fEv g (d + 45) mL_law 326 [some (.ref fscr), some (.ref 0), some (.ref 89), some (.ref 300), some (.int (nI i)), o5, o6, none] [] σ Q := by
  refine e_aload_n dL_law_326 rfl rfl ?_
  refine e_aload_n dL_law_327 rfl rfl ?_
  refine e_iload dL_law_328 rfl ?_
  refine e_iconst (nI 1) dL_law_330 (by decide) ?_
  refine e_iadd dL_law_331 ?_
  refine e_int (nI (i + 1)) (nI_add i 1) ?_
  refine e_sld (i + 1) dL_law_332 rfl (by omega) hg ?_
  refine e_int (nI w) hw1 ?_
  refine e_aload_n dL_law_333 rfl rfl ?_
  refine e_callS [.ref 0, .int (nI w), .ref 300] dL_law_334 cc_L_told lk_RL_106 st_L_told in_RL rfl (Nat.le_of_ble_eq_true rfl) (Nat.le_of_ble_eq_true rfl) ?_
  refine t_L_told hI.1 hI.2.1 hI.2.2.1 hw (fun σ1 s1 c1 v1 => fK_i ?_)
  show fEv g _ mL_law 337 [some (.ref fscr), some (.ref 0), some (.ref 89), some (.ref 300), some (.int (nI i)), o5, o6, none] [.int (nI 0)] σ1 Q
  have r1 := hI.2.2.2.1.clB hI.2.1 s1
  have M1 := hI.1.sm s1
  refine e_istore (L1 := [some (.ref fscr), some (.ref 0), some (.ref 89), some (.ref 300), some (.int (nI i)), some (.int (nI 0)), o6, none]) dL_law_337 (by decide) rfl ?_
  refine e_aload_n dL_law_339 rfl rfl ?_
  refine e_aload_n dL_law_340 rfl rfl ?_
  refine e_iload dL_law_341 rfl ?_
  refine e_iconst (nI 1) dL_law_343 (by decide) ?_
  refine e_iadd dL_law_344 ?_
  refine e_int (nI (i + 1)) (nI_add i 1) ?_
  refine e_sld (i + 1) dL_law_345 rfl (by omega) hg ?_
  refine e_int (nI w) hw1 ?_
  refine e_callV (k := 89) [.int (nI w)] dL_law_346 cc_X10_told lk_RL_108 im_X10_told se_X10_told (by decide) (M1.s 89 rfl) (M1.n (by decide)) rfl (Nat.le_of_ble_eq_true rfl) (Nat.le_of_ble_eq_true rfl) ?_
  refine t_X10_told M1 hI.2.1 r1 hw (fun σ2 s2 r2 z2 => fK_i ?_)
  show fEv g _ mL_law 349 [some (.ref fscr), some (.ref 0), some (.ref 89), some (.ref 300), some (.int (nI i)), some (.int (nI 0)), o6, none] [.int (vTold (xD x) (iS (xI x)) w)] σ2 Q
  have M2 := M1.sm s2
  refine e_istore (L1 := [some (.ref fscr), some (.ref 0), some (.ref 89), some (.ref 300), some (.int (nI i)), some (.int (nI 0)), some (.int (vTold (xD x) (iS (xI x)) w)), none]) dL_law_349 (by decide) rfl ?_
  refine e_aload_n dL_law_351 rfl rfl ?_
  refine e_callV (k := 89) [] dL_law_352 cc_X10_thrown lk_RL_99 im_X10_thrown se_X10_thrown (by decide) (M2.s 89 rfl) (M2.n (by decide)) rfl (Nat.le_of_ble_eq_true rfl) (Nat.le_of_ble_eq_true rfl) ?_
  refine t_X10_thrown M2 z2 (fK_i ?_)
  show fEv g _ mL_law 355 [some (.ref fscr), some (.ref 0), some (.ref 89), some (.ref 300), some (.int (nI i)), some (.int (nI 0)), some (.int (vTold (xD x) (iS (xI x)) w)), none] [.int (nI 0)] σ2 Q
  refine e_iload dL_law_355 rfl ?_
  refine e_icmp_eq 362 dL_law_357 (by decide) (fun _ => ?_) (fun c => absurd c (by decide))
  refine e_iload dL_law_362 rfl ?_
  refine e_if_ne 379 dL_law_364 (by decide) (fun c => absurd c (by decide)) (fun _ => ?_)
  refine e_aload_n dL_law_367 rfl rfl ?_
  refine e_iconst (nI 0) dL_law_368 (by decide) ?_
  refine e_laload 0 dL_law_369 (M2.s 300 rfl) (M2.n (by decide)) rfl (by omega) (by decide) ?_
  refine e_long ((vTold (xD x) (iS (xI x)) w).toInt64) ((s2.j (fun q => by unfold fRfA at q; omega) 0).trans v1) ?_
  refine e_iload dL_law_370 rfl ?_
  refine e_i2l dL_law_372 ?_
  refine e_lcmp dL_law_373 ?_
  refine e_if_eq 379 dL_law_374 (by decide) (fun _ => ?_) (fun c => absurd (lc_eq.mpr rfl) c)
  refine e_goto 1782 dL_law_379 (by decide) ?_
  exact h σ2 x _ _ ((hI.both hI.2.1 s1 c1 s2 r2).le (Nat.le_succ n))
set_option maxRecDepth 20000 in
theorem c_told_e {g : fGP} {d : Nat} {σ : fAH} {Q : fRes → fAH → Prop} {x : fXS} {n i : Nat} {o5 o6 : Option Value} (hg : gLL g < 2147483648) (hi : i + 6 ≤ gLL g) (hI : fLI g σ x (n + 1)) (hv : ¬ (nI 0 ≤ gxs g (i + 1) ∧ gxs g (i + 1) ≤ nI 7)) (h : ∀ σ' x' o5 o6, fLI g σ' x' n → fEv g (d + 45) mL_law 1782 [some (.ref fscr), some (.ref 0), some (.ref 89), some (.ref 300), some (.int (nI i)), o5, o6, none] [] σ' Q) : fEv g (d + 45) mL_law 326 [some (.ref fscr), some (.ref 0), some (.ref 89), some (.ref 300), some (.int (nI i)), o5, o6, none] [] σ Q := by
  refine e_aload_n dL_law_326 rfl rfl ?_
  refine e_aload_n dL_law_327 rfl rfl ?_
  refine e_iload dL_law_328 rfl ?_
  refine e_iconst (nI 1) dL_law_330 (by decide) ?_
  refine e_iadd dL_law_331 ?_
  refine e_int (nI (i + 1)) (nI_add i 1) ?_
  refine e_sld (i + 1) dL_law_332 rfl (by omega) hg ?_
  refine e_aload_n dL_law_333 rfl rfl ?_
  refine e_callS [.ref 0, .int (gxs g (i + 1)), .ref 300] dL_law_334 cc_L_told lk_RL_106 st_L_told in_RL rfl (Nat.le_of_ble_eq_true rfl) (Nat.le_of_ble_eq_true rfl) ?_
  refine t_L_toldE hI.1 hI.2.1 hI.2.2.1 hv hI.rm (fK_i ?_)
  show fEv g _ mL_law 337 [some (.ref fscr), some (.ref 0), some (.ref 89), some (.ref 300), some (.int (nI i)), o5, o6, none] [.int (nI 1)] (fthr σ) Q
  have hJ := hI.thr
  refine e_istore (L1 := [some (.ref fscr), some (.ref 0), some (.ref 89), some (.ref 300), some (.int (nI i)), some (.int (nI 1)), o6, none]) dL_law_337 (by decide) rfl ?_
  refine e_aload_n dL_law_339 rfl rfl ?_
  refine e_aload_n dL_law_340 rfl rfl ?_
  refine e_iload dL_law_341 rfl ?_
  refine e_iconst (nI 1) dL_law_343 (by decide) ?_
  refine e_iadd dL_law_344 ?_
  refine e_int (nI (i + 1)) (nI_add i 1) ?_
  refine e_sld (i + 1) dL_law_345 rfl (by omega) hg ?_
  refine e_callV (k := 89) [.int (gxs g (i + 1))] dL_law_346 cc_X10_told lk_RL_108 im_X10_told se_X10_told (by decide) (hJ.1.s 89 rfl) (hJ.1.n (by decide)) rfl (Nat.le_of_ble_eq_true rfl) (Nat.le_of_ble_eq_true rfl) ?_
  refine t_X10_toldE hJ.1 hJ.2.1 hJ.2.2.2.1 hv (fun σ2 s2 r2 z2 => fK_i ?_)
  show fEv g _ mL_law 349 [some (.ref fscr), some (.ref 0), some (.ref 89), some (.ref 300), some (.int (nI i)), some (.int (nI 1)), o6, none] [.int (nI 0)] σ2 Q
  have M2 := hJ.1.sm s2
  refine e_istore (L1 := [some (.ref fscr), some (.ref 0), some (.ref 89), some (.ref 300), some (.int (nI i)), some (.int (nI 1)), some (.int (nI 0)), none]) dL_law_349 (by decide) rfl ?_
  refine e_aload_n dL_law_351 rfl rfl ?_
  refine e_callV (k := 89) [] dL_law_352 cc_X10_thrown lk_RL_99 im_X10_thrown se_X10_thrown (by decide) (M2.s 89 rfl) (M2.n (by decide)) rfl (Nat.le_of_ble_eq_true rfl) (Nat.le_of_ble_eq_true rfl) ?_
  refine t_X10_thrown M2 z2 (fK_i ?_)
  show fEv g _ mL_law 355 [some (.ref fscr), some (.ref 0), some (.ref 89), some (.ref 300), some (.int (nI i)), some (.int (nI 1)), some (.int (nI 0)), none] [.int (nI 1)] σ2 Q
  refine e_iload dL_law_355 rfl ?_
  refine e_icmp_eq 362 dL_law_357 (by decide) (fun _ => ?_) (fun c => absurd c (by decide))
  refine e_iload dL_law_362 rfl ?_
  refine e_if_ne 379 dL_law_364 (by decide) (fun _ => ?_) (fun c => absurd c (by decide))
  refine e_goto 1782 dL_law_379 (by decide) ?_
  exact h σ2 x _ _ (hJ.sm s2 hI.2.1 (hJ.2.2.1.rf hI.2.1 s2) r2)
