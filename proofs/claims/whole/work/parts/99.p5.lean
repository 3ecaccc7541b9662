set_option maxRecDepth 20000 in
theorem c_plan {g : fGP} {d : Nat} {σ : fAH} {Q : fRes → fAH → Prop} {x : fXS} {f : Nat} {nn ii : Nat} {o5 o6 : Option Value} (hg : gLL g < 2147483648) (hi6 : ii + 6 ≤ gLL g) (hI : fLI g σ x (nn + 1)) (hf : f < 2 ^ dT (xD x) 1) (hp9 : ipn (xI x) < 30) (ha1 : gxs g (ii + 1) = nI f) (h : ∀ σ' x' o5 o6, fLI g σ' x' nn → fEv g (d + 45) mL_law 1782 [some (.ref fscr), some (.ref 0), some (.ref 89), some (.ref 300), some (.int (nI ii)), o5, o6, none] [] σ' Q) : fEv g (d + 45) mL_law 1069 [some (.ref fscr), some (.ref 0), some (.ref 89), some (.ref 300), some (.int (nI ii)), o5, o6, none] [] σ Q := by
  have okx : fOK ((xD x, (iS (xI x), iT (xI x), iq (xI x), ipn (xI x) + 1, mup (iP (xI x)) (ipn (xI x)) f, irn (xI x), iR (xI x)), xB x, xt x, xp x, xm x, xM x)) := (fOK.plan hI.2.1 (Nat.lt_of_lt_of_le hf (pw12 hI.2.1)) hp9)
  refine e_aload_n dL_law_1069 rfl rfl ?_
  refine e_aload_n dL_law_1070 rfl rfl ?_
  refine e_iload dL_law_1071 rfl ?_
  refine e_iconst (nI 1) dL_law_1073 (by decide) ?_
  refine e_iadd dL_law_1074 ?_
  refine e_int (nI (ii + 1)) (nI_add ii 1) ?_
  refine e_sld (ii + 1) dL_law_1075 rfl (by omega) hg ?_
  refine e_int (nI f) ha1 ?_
  refine e_aload_n dL_law_1076 rfl rfl ?_
  refine e_callS [.ref 0, .int (nI f), .ref 300] dL_law_1077 cc_L_plan lk_RL_150 st_L_plan in_RL rfl (Nat.le_of_ble_eq_true rfl) (Nat.le_of_ble_eq_true rfl) ?_
  refine t_L_plan hI.1 hI.2.1 hI.2.2.1 hf hp9 okx (fun σ1 s1 c1 v1 => fK_i ?_)
  show fEv g _ mL_law 1080 [some (.ref fscr), some (.ref 0), some (.ref 89), some (.ref 300), some (.int (nI ii)), o5, o6, none] [.int (nI 0)] σ1 Q
  have r1 := hI.2.2.2.1.clB hI.2.1 s1
  have M1 := hI.1.sm s1
  refine e_istore (L1 := [some (.ref fscr), some (.ref 0), some (.ref 89), some (.ref 300), some (.int (nI ii)), some (.int (nI 0)), o6, none]) dL_law_1080 (by decide) rfl ?_
  refine e_aload_n dL_law_1082 rfl rfl ?_
  refine e_aload_n dL_law_1083 rfl rfl ?_
  refine e_iload dL_law_1084 rfl ?_
  refine e_iconst (nI 1) dL_law_1086 (by decide) ?_
  refine e_iadd dL_law_1087 ?_
  refine e_int (nI (ii + 1)) (nI_add ii 1) ?_
  refine e_sld (ii + 1) dL_law_1088 rfl (by omega) hg ?_
  refine e_int (nI f) ha1 ?_
  refine e_callV (k := 89) [.int (nI f)] dL_law_1089 cc_X10_plan lk_RL_152 im_X10_plan se_X10_plan (by decide) (M1.s 89 rfl) (M1.n (by decide)) rfl (Nat.le_of_ble_eq_true rfl) (Nat.le_of_ble_eq_true rfl) ?_
  refine t_X10_plan M1 hI.2.1 r1 hf hp9 (fun σ2 s2 r2 z2 => fK_i ?_)
  show fEv g _ mL_law 1092 [some (.ref fscr), some (.ref 0), some (.ref 89), some (.ref 300), some (.int (nI ii)), some (.int (nI 0)), o6, none] [.int (nI (ipn (xI x) + 1))] σ2 Q
  have M2 := M1.sm s2
  refine e_istore (L1 := [some (.ref fscr), some (.ref 0), some (.ref 89), some (.ref 300), some (.int (nI ii)), some (.int (nI 0)), some (.int (nI (ipn (xI x) + 1))), none]) dL_law_1092 (by decide) rfl ?_
  refine e_aload_n dL_law_1094 rfl rfl ?_
  refine e_callV (k := 89) [] dL_law_1095 cc_X10_thrown lk_RL_99 im_X10_thrown se_X10_thrown (by decide) (M2.s 89 rfl) (M2.n (by decide)) rfl (Nat.le_of_ble_eq_true rfl) (Nat.le_of_ble_eq_true rfl) ?_
  refine t_X10_thrown M2 z2 (fK_i ?_)
  show fEv g _ mL_law 1098 [some (.ref fscr), some (.ref 0), some (.ref 89), some (.ref 300), some (.int (nI ii)), some (.int (nI 0)), some (.int (nI (ipn (xI x) + 1))), none] [.int (nI 0)] σ2 Q
  refine e_iload dL_law_1098 rfl ?_
  refine e_icmp_eq 1105 dL_law_1100 (by decide) (fun _ => ?_) (fun c => absurd c (by decide))
  refine e_iload dL_law_1105 rfl ?_
  refine e_if_ne 1122 dL_law_1107 (by decide) (fun c => absurd c (by decide)) (fun _ => ?_)
  refine e_aload_n dL_law_1110 rfl rfl ?_
  refine e_iconst (nI 0) dL_law_1111 (by decide) ?_
  refine e_laload 0 dL_law_1112 (M2.s 300 rfl) (M2.n (by decide)) rfl (by omega) (by decide) ?_
  refine e_long (((nI (ipn (xI x) + 1) : Int32)).toInt64) ((s2.j (fun q => by unfold fRfA at q; omega) 0).trans v1) ?_
  refine e_iload dL_law_1113 rfl ?_
  refine e_i2l dL_law_1115 ?_
  refine e_lcmp dL_law_1116 ?_
  refine e_if_eq 1122 dL_law_1117 (by decide) (fun _ => ?_) (fun c => absurd (lc_eq.mpr rfl) c)
  refine e_goto 1782 dL_law_1122 (by decide) ?_
  exact h σ2 _ _ _ ((hI.both okx s1 c1 s2 r2).le (Nat.le_succ nn))
set_option maxRecDepth 20000 in
theorem c_planE {g : fGP} {d : Nat} {σ : fAH} {Q : fRes → fAH → Prop} {x : fXS} {a : Int32} {nn ii : Nat} {o5 o6 : Option Value} (hg : gLL g < 2147483648) (hi6 : ii + 6 ≤ gLL g) (hI : fLI g σ x (nn + 1)) (hv : ¬ (nI 0 ≤ a ∧ a < nI (2 ^ dT (xD x) 1))) (ha1 : gxs g (ii + 1) = a) (h : ∀ σ' x' o5 o6, fLI g σ' x' nn → fEv g (d + 45) mL_law 1782 [some (.ref fscr), some (.ref 0), some (.ref 89), some (.ref 300), some (.int (nI ii)), o5, o6, none] [] σ' Q) : fEv g (d + 45) mL_law 1069 [some (.ref fscr), some (.ref 0), some (.ref 89), some (.ref 300), some (.int (nI ii)), o5, o6, none] [] σ Q := by
  refine e_aload_n dL_law_1069 rfl rfl ?_
  refine e_aload_n dL_law_1070 rfl rfl ?_
  refine e_iload dL_law_1071 rfl ?_
  refine e_iconst (nI 1) dL_law_1073 (by decide) ?_
  refine e_iadd dL_law_1074 ?_
  refine e_int (nI (ii + 1)) (nI_add ii 1) ?_
  refine e_sld (ii + 1) dL_law_1075 rfl (by omega) hg ?_
  refine e_int (a) ha1 ?_
  refine e_aload_n dL_law_1076 rfl rfl ?_
  refine e_callS [.ref 0, .int a, .ref 300] dL_law_1077 cc_L_plan lk_RL_150 st_L_plan in_RL rfl (Nat.le_of_ble_eq_true rfl) (Nat.le_of_ble_eq_true rfl) ?_
  refine t_L_planE hI.1 hI.2.1 hI.2.2.1 hv hI.rm (fK_i ?_)
  show fEv g _ mL_law 1080 [some (.ref fscr), some (.ref 0), some (.ref 89), some (.ref 300), some (.int (nI ii)), o5, o6, none] [.int (nI 1)] (fthr σ) Q
  have hJ := hI.thr
  refine e_istore (L1 := [some (.ref fscr), some (.ref 0), some (.ref 89), some (.ref 300), some (.int (nI ii)), some (.int (nI 1)), o6, none]) dL_law_1080 (by decide) rfl ?_
  refine e_aload_n dL_law_1082 rfl rfl ?_
  refine e_aload_n dL_law_1083 rfl rfl ?_
  refine e_iload dL_law_1084 rfl ?_
  refine e_iconst (nI 1) dL_law_1086 (by decide) ?_
  refine e_iadd dL_law_1087 ?_
  refine e_int (nI (ii + 1)) (nI_add ii 1) ?_
  refine e_sld (ii + 1) dL_law_1088 rfl (by omega) hg ?_
  refine e_int (a) ha1 ?_
  refine e_callV (k := 89) [.int a] dL_law_1089 cc_X10_plan lk_RL_152 im_X10_plan se_X10_plan (by decide) (hJ.1.s 89 rfl) (hJ.1.n (by decide)) rfl (Nat.le_of_ble_eq_true rfl) (Nat.le_of_ble_eq_true rfl) ?_
  refine t_X10_planE hJ.1 hJ.2.1 hJ.2.2.2.1 hv (fun σ2 s2 r2 z2 => fK_i ?_)
  show fEv g _ mL_law 1092 [some (.ref fscr), some (.ref 0), some (.ref 89), some (.ref 300), some (.int (nI ii)), some (.int (nI 1)), o6, none] [.int (nI 0)] σ2 Q
  have M2 := hJ.1.sm s2
  refine e_istore (L1 := [some (.ref fscr), some (.ref 0), some (.ref 89), some (.ref 300), some (.int (nI ii)), some (.int (nI 1)), some (.int (nI 0)), none]) dL_law_1092 (by decide) rfl ?_
  refine e_aload_n dL_law_1094 rfl rfl ?_
  refine e_callV (k := 89) [] dL_law_1095 cc_X10_thrown lk_RL_99 im_X10_thrown se_X10_thrown (by decide) (M2.s 89 rfl) (M2.n (by decide)) rfl (Nat.le_of_ble_eq_true rfl) (Nat.le_of_ble_eq_true rfl) ?_
  refine t_X10_thrown M2 z2 (fK_i ?_)
  show fEv g _ mL_law 1098 [some (.ref fscr), some (.ref 0), some (.ref 89), some (.ref 300), some (.int (nI ii)), some (.int (nI 1)), some (.int (nI 0)), none] [.int (nI 1)] σ2 Q
  refine e_iload dL_law_1098 rfl ?_
  refine e_icmp_eq 1105 dL_law_1100 (by decide) (fun _ => ?_) (fun c => absurd c (by decide))
  refine e_iload dL_law_1105 rfl ?_
  refine e_if_ne 1122 dL_law_1107 (by decide) (fun _ => ?_) (fun c => absurd c (by decide))
  refine e_goto 1782 dL_law_1122 (by decide) ?_
  exact h σ2 x _ _ (hJ.sm s2 hI.2.1 (hJ.2.2.1.rf hI.2.1 s2) r2)
set_option maxRecDepth 20000 in
theorem c_planN {g : fGP} {d : Nat} {σ : fAH} {Q : fRes → fAH → Prop} {x : fXS} {f : Nat} {nn ii : Nat} {o5 o6 : Option Value} (hg : gLL g < 2147483648) (hi6 : ii + 6 ≤ gLL g) (hI : fLI g σ x (nn + 1)) (hf : f < 2 ^ dT (xD x) 1) (hp9 : ipn (xI x) = 30) (ha1 : gxs g (ii + 1) = nI f) (h : ∀ σ' x' o5 o6, fLI g σ' x' nn → fEv g (d + 45) mL_law 1782 [some (.ref fscr), some (.ref 0), some (.ref 89), some (.ref 300), some (.int (nI ii)), o5, o6, none] [] σ' Q) : fEv g (d + 45) mL_law 1069 [some (.ref fscr), some (.ref 0), some (.ref 89), some (.ref 300), some (.int (nI ii)), o5, o6, none] [] σ Q := by
  refine e_aload_n dL_law_1069 rfl rfl ?_
  refine e_aload_n dL_law_1070 rfl rfl ?_
  refine e_iload dL_law_1071 rfl ?_
  refine e_iconst (nI 1) dL_law_1073 (by decide) ?_
  refine e_iadd dL_law_1074 ?_
  refine e_int (nI (ii + 1)) (nI_add ii 1) ?_
  refine e_sld (ii + 1) dL_law_1075 rfl (by omega) hg ?_
  refine e_int (nI f) ha1 ?_
  refine e_aload_n dL_law_1076 rfl rfl ?_
  refine e_callS [.ref 0, .int (nI f), .ref 300] dL_law_1077 cc_L_plan lk_RL_150 st_L_plan in_RL rfl (Nat.le_of_ble_eq_true rfl) (Nat.le_of_ble_eq_true rfl) ?_
  refine t_L_planN hI.1 hI.2.1 hI.2.2.1 hf hp9 (fun σ1 s1 c1 v1 => fK_i ?_)
  show fEv g _ mL_law 1080 [some (.ref fscr), some (.ref 0), some (.ref 89), some (.ref 300), some (.int (nI ii)), o5, o6, none] [.int (nI 0)] σ1 Q
  have r1 := hI.2.2.2.1.clB hI.2.1 s1
  have M1 := hI.1.sm s1
  refine e_istore (L1 := [some (.ref fscr), some (.ref 0), some (.ref 89), some (.ref 300), some (.int (nI ii)), some (.int (nI 0)), o6, none]) dL_law_1080 (by decide) rfl ?_
  refine e_aload_n dL_law_1082 rfl rfl ?_
  refine e_aload_n dL_law_1083 rfl rfl ?_
  refine e_iload dL_law_1084 rfl ?_
  refine e_iconst (nI 1) dL_law_1086 (by decide) ?_
  refine e_iadd dL_law_1087 ?_
  refine e_int (nI (ii + 1)) (nI_add ii 1) ?_
  refine e_sld (ii + 1) dL_law_1088 rfl (by omega) hg ?_
  refine e_int (nI f) ha1 ?_
  refine e_callV (k := 89) [.int (nI f)] dL_law_1089 cc_X10_plan lk_RL_152 im_X10_plan se_X10_plan (by decide) (M1.s 89 rfl) (M1.n (by decide)) rfl (Nat.le_of_ble_eq_true rfl) (Nat.le_of_ble_eq_true rfl) ?_
  refine t_X10_planN M1 hI.2.1 r1 hf hp9 (fun σ2 s2 r2 z2 => fK_i ?_)
  show fEv g _ mL_law 1092 [some (.ref fscr), some (.ref 0), some (.ref 89), some (.ref 300), some (.int (nI ii)), some (.int (nI 0)), o6, none] [.int ((-1))] σ2 Q
  have M2 := M1.sm s2
  refine e_istore (L1 := [some (.ref fscr), some (.ref 0), some (.ref 89), some (.ref 300), some (.int (nI ii)), some (.int (nI 0)), some (.int ((-1))), none]) dL_law_1092 (by decide) rfl ?_
  refine e_aload_n dL_law_1094 rfl rfl ?_
  refine e_callV (k := 89) [] dL_law_1095 cc_X10_thrown lk_RL_99 im_X10_thrown se_X10_thrown (by decide) (M2.s 89 rfl) (M2.n (by decide)) rfl (Nat.le_of_ble_eq_true rfl) (Nat.le_of_ble_eq_true rfl) ?_
  refine t_X10_thrown M2 z2 (fK_i ?_)
  show fEv g _ mL_law 1098 [some (.ref fscr), some (.ref 0), some (.ref 89), some (.ref 300), some (.int (nI ii)), some (.int (nI 0)), some (.int ((-1))), none] [.int (nI 0)] σ2 Q
  refine e_iload dL_law_1098 rfl ?_
  refine e_icmp_eq 1105 dL_law_1100 (by decide) (fun _ => ?_) (fun c => absurd c (by decide))
  refine e_iload dL_law_1105 rfl ?_
  refine e_if_ne 1122 dL_law_1107 (by decide) (fun c => absurd c (by decide)) (fun _ => ?_)
  refine e_aload_n dL_law_1110 rfl rfl ?_
  refine e_iconst (nI 0) dL_law_1111 (by decide) ?_
  refine e_laload 0 dL_law_1112 (M2.s 300 rfl) (M2.n (by decide)) rfl (by omega) (by decide) ?_
  refine e_long ((((-1) : Int32)).toInt64) ((s2.j (fun q => by unfold fRfA at q; omega) 0).trans v1) ?_
  refine e_iload dL_law_1113 rfl ?_
  refine e_i2l dL_law_1115 ?_
  refine e_lcmp dL_law_1116 ?_
  refine e_if_eq 1122 dL_law_1117 (by decide) (fun _ => ?_) (fun c => absurd (lc_eq.mpr rfl) c)
  refine e_goto 1782 dL_law_1122 (by decide) ?_
  exact h σ2 _ _ _ ((hI.both hI.2.1 s1 c1 s2 r2).le (Nat.le_succ nn))
set_option maxRecDepth 20000 in
theorem c_clear {g : fGP} {d : Nat} {σ : fAH} {Q : fRes → fAH → Prop} {x : fXS}  {nn ii : Nat} {o5 o6 : Option Value} (hg : gLL g < 2147483648) (hi6 : ii + 6 ≤ gLL g) (hI : fLI g σ x (nn + 1))   (h : ∀ σ' x' o5 o6, fLI g σ' x' nn → fEv g (d + 45) mL_law 1782 [some (.ref fscr), some (.ref 0), some (.ref 89), some (.ref 300), some (.int (nI ii)), o5, o6, none] [] σ' Q) : fEv g (d + 45) mL_law 1125 [some (.ref fscr), some (.ref 0), some (.ref 89), some (.ref 300), some (.int (nI ii)), o5, o6, none] [] σ Q := by
  have okx : fOK ((xD x, (iS (xI x), iT (xI x), iq (xI x), 0, iP (xI x), irn (xI x), iR (xI x)), xB x, xt x, xp x, xm x, xM x)) := hI.2.1.clear
  refine e_aload_n dL_law_1125 rfl rfl ?_
  refine e_callV (k := 0) [] dL_law_1126 cc_X9_clear lk_RL_153 im_X9_clear se_X9_clear (by decide) (hI.1.s 0 rfl) (hI.1.n (by decide)) rfl (Nat.le_of_ble_eq_true rfl) (Nat.le_of_ble_eq_true rfl) ?_
  refine t_X9_clear hI.1 hI.2.1 hI.2.2.1  (fun σ1 s0 c1 => fK_i ?_)
  show fEv g _ mL_law 1129 [some (.ref fscr), some (.ref 0), some (.ref 89), some (.ref 300), some (.int (nI ii)), o5, o6, none] [.int (nI (ipn (xI x)))] σ1 Q
  have s1 : fSm fClB σ σ1 := s0.to (fun a (q : a < 89) => Or.inl q)
  have r1 := hI.2.2.2.1.clB hI.2.1 s1
  have M1 := hI.1.sm s1
  refine e_aload_n dL_law_1129 rfl rfl ?_
  refine e_callV (k := 89) [] dL_law_1130 cc_X10_clear lk_RL_156 im_X10_clear se_X10_clear (by decide) (M1.s 89 rfl) (M1.n (by decide)) rfl (Nat.le_of_ble_eq_true rfl) (Nat.le_of_ble_eq_true rfl) ?_
  refine t_X10_clear M1 hI.2.1 r1  (fun σ2 s2 r2 z2 => fK_i ?_)
  show fEv g _ mL_law 1133 [some (.ref fscr), some (.ref 0), some (.ref 89), some (.ref 300), some (.int (nI ii)), o5, o6, none] [.int (nI (ipn (xI x))), .int (nI (ipn (xI x)))] σ2 Q
  have M2 := M1.sm s2
  refine e_icmp_eq 1782 dL_law_1133 (by decide) (fun _ => ?_) (fun c => absurd rfl c)
  exact h σ2 _ _ _ ((hI.both okx s1 c1 s2 r2).le (Nat.le_succ nn))
set_option maxRecDepth 20000 in
theorem c_would {g : fGP} {d : Nat} {σ : fAH} {Q : fRes → fAH → Prop} {x : fXS} {a : Int32} {w : Nat} {nn ii : Nat} {o5 o6 : Option Value} (hg : gLL g < 2147483648) (hi6 : ii + 6 ≤ gLL g) (hI : fLI g σ x (nn + 1)) (hw : w < 6) (ha1 : gxs g (ii + 1) = a) (ha2 : gxs g (ii + 2) = nI w) (h : ∀ σ' x' o5 o6, fLI g σ' x' nn → fEv g (d + 45) mL_law 1782 [some (.ref fscr), some (.ref 0), some (.ref 89), some (.ref 300), some (.int (nI ii)), o5, o6, none] [] σ' Q) : fEv g (d + 45) mL_law 1138 [some (.ref fscr), some (.ref 0), some (.ref 89), some (.ref 300), some (.int (nI ii)), o5, o6, none] [] σ Q := by
  refine e_aload_n dL_law_1138 rfl rfl ?_
  refine e_aload_n dL_law_1139 rfl rfl ?_
  refine e_iload dL_law_1140 rfl ?_
  refine e_iconst (nI 1) dL_law_1142 (by decide) ?_
  refine e_iadd dL_law_1143 ?_
  refine e_int (nI (ii + 1)) (nI_add ii 1) ?_
  refine e_sld (ii + 1) dL_law_1144 rfl (by omega) hg ?_
  refine e_int (a) ha1 ?_
  refine e_aload_n dL_law_1145 rfl rfl ?_
  refine e_iload dL_law_1146 rfl ?_
  refine e_iconst (nI 2) dL_law_1148 (by decide) ?_
  refine e_iadd dL_law_1149 ?_
  refine e_int (nI (ii + 2)) (nI_add ii 2) ?_
  refine e_sld (ii + 2) dL_law_1150 rfl (by omega) hg ?_
  refine e_int (nI w) ha2 ?_
  refine e_aload_n dL_law_1151 rfl rfl ?_
  refine e_callS [.ref 0, .int a, .int (nI w), .ref 300] dL_law_1152 cc_L_would lk_RL_157 st_L_would in_RL rfl (Nat.le_of_ble_eq_true rfl) (Nat.le_of_ble_eq_true rfl) ?_
  refine t_L_would hI.1 hI.2.1 hI.2.2.1 hw (fun σ1 s1 c1 v1 => fK_i ?_)
  show fEv g _ mL_law 1155 [some (.ref fscr), some (.ref 0), some (.ref 89), some (.ref 300), some (.int (nI ii)), o5, o6, none] [.int (nI 0)] σ1 Q
  have r1 := hI.2.2.2.1.clB hI.2.1 s1
  have M1 := hI.1.sm s1
  refine e_istore (L1 := [some (.ref fscr), some (.ref 0), some (.ref 89), some (.ref 300), some (.int (nI ii)), some (.int (nI 0)), o6, none]) dL_law_1155 (by decide) rfl ?_
  refine e_aload_n dL_law_1157 rfl rfl ?_
  refine e_aload_n dL_law_1158 rfl rfl ?_
  refine e_iload dL_law_1159 rfl ?_
  refine e_iconst (nI 1) dL_law_1161 (by decide) ?_
  refine e_iadd dL_law_1162 ?_
  refine e_int (nI (ii + 1)) (nI_add ii 1) ?_
  refine e_sld (ii + 1) dL_law_1163 rfl (by omega) hg ?_
  refine e_int (a) ha1 ?_
  refine e_aload_n dL_law_1164 rfl rfl ?_
  refine e_iload dL_law_1165 rfl ?_
  refine e_iconst (nI 2) dL_law_1167 (by decide) ?_
  refine e_iadd dL_law_1168 ?_
  refine e_int (nI (ii + 2)) (nI_add ii 2) ?_
  refine e_sld (ii + 2) dL_law_1169 rfl (by omega) hg ?_
  refine e_int (nI w) ha2 ?_
  refine e_callV (k := 89) [.int a, .int (nI w)] dL_law_1170 cc_X10_would lk_RL_159 im_X10_would se_X10_would (by decide) (M1.s 89 rfl) (M1.n (by decide)) rfl (Nat.le_of_ble_eq_true rfl) (Nat.le_of_ble_eq_true rfl) ?_
  refine t_X10_would M1 hI.2.1 r1 hw (fun σ2 s2 r2 z2 => fK_i ?_)
  show fEv g _ mL_law 1173 [some (.ref fscr), some (.ref 0), some (.ref 89), some (.ref 300), some (.int (nI ii)), some (.int (nI 0)), o6, none] [.int (vWould (xD x) (iS (xI x)) (mplan (xD x) (iP (xI x)) (ipn (xI x)) 0 ((iS (xI x)), (iT (xI x)), a) 0) w)] σ2 Q
  have M2 := M1.sm s2
  refine e_istore (L1 := [some (.ref fscr), some (.ref 0), some (.ref 89), some (.ref 300), some (.int (nI ii)), some (.int (nI 0)), some (.int (vWould (xD x) (iS (xI x)) (mplan (xD x) (iP (xI x)) (ipn (xI x)) 0 ((iS (xI x)), (iT (xI x)), a) 0) w)), none]) dL_law_1173 (by decide) rfl ?_
  refine e_aload_n dL_law_1175 rfl rfl ?_
  refine e_callV (k := 89) [] dL_law_1176 cc_X10_thrown lk_RL_99 im_X10_thrown se_X10_thrown (by decide) (M2.s 89 rfl) (M2.n (by decide)) rfl (Nat.le_of_ble_eq_true rfl) (Nat.le_of_ble_eq_true rfl) ?_
  refine t_X10_thrown M2 z2 (fK_i ?_)
  show fEv g _ mL_law 1179 [some (.ref fscr), some (.ref 0), some (.ref 89), some (.ref 300), some (.int (nI ii)), some (.int (nI 0)), some (.int (vWould (xD x) (iS (xI x)) (mplan (xD x) (iP (xI x)) (ipn (xI x)) 0 ((iS (xI x)), (iT (xI x)), a) 0) w)), none] [.int (nI 0)] σ2 Q
  refine e_iload dL_law_1179 rfl ?_
  refine e_icmp_eq 1186 dL_law_1181 (by decide) (fun _ => ?_) (fun c => absurd c (by decide))
  refine e_iload dL_law_1186 rfl ?_
  refine e_if_ne 1203 dL_law_1188 (by decide) (fun c => absurd c (by decide)) (fun _ => ?_)
  refine e_aload_n dL_law_1191 rfl rfl ?_
  refine e_iconst (nI 0) dL_law_1192 (by decide) ?_
  refine e_laload 0 dL_law_1193 (M2.s 300 rfl) (M2.n (by decide)) rfl (by omega) (by decide) ?_
  refine e_long (((vWould (xD x) (iS (xI x)) (mplan (xD x) (iP (xI x)) (ipn (xI x)) 0 ((iS (xI x)), (iT (xI x)), a) 0) w : Int32)).toInt64) ((s2.j (fun q => by unfold fRfA at q; omega) 0).trans v1) ?_
  refine e_iload dL_law_1194 rfl ?_
  refine e_i2l dL_law_1196 ?_
  refine e_lcmp dL_law_1197 ?_
  refine e_if_eq 1203 dL_law_1198 (by decide) (fun _ => ?_) (fun c => absurd (lc_eq.mpr rfl) c)
  refine e_goto 1782 dL_law_1203 (by decide) ?_
  exact h σ2 _ _ _ ((hI.both hI.2.1 s1 c1 s2 r2).le (Nat.le_succ nn))
set_option maxRecDepth 20000 in
theorem c_wouldE {g : fGP} {d : Nat} {σ : fAH} {Q : fRes → fAH → Prop} {x : fXS} {a b : Int32} {nn ii : Nat} {o5 o6 : Option Value} (hg : gLL g < 2147483648) (hi6 : ii + 6 ≤ gLL g) (hI : fLI g σ x (nn + 1)) (hv : ¬ (nI 0 ≤ b ∧ b ≤ nI 5)) (ha1 : gxs g (ii + 1) = a) (ha2 : gxs g (ii + 2) = b) (h : ∀ σ' x' o5 o6, fLI g σ' x' nn → fEv g (d + 45) mL_law 1782 [some (.ref fscr), some (.ref 0), some (.ref 89), some (.ref 300), some (.int (nI ii)), o5, o6, none] [] σ' Q) : fEv g (d + 45) mL_law 1138 [some (.ref fscr), some (.ref 0), some (.ref 89), some (.ref 300), some (.int (nI ii)), o5, o6, none] [] σ Q := by
  refine e_aload_n dL_law_1138 rfl rfl ?_
  refine e_aload_n dL_law_1139 rfl rfl ?_
  refine e_iload dL_law_1140 rfl ?_
  refine e_iconst (nI 1) dL_law_1142 (by decide) ?_
  refine e_iadd dL_law_1143 ?_
  refine e_int (nI (ii + 1)) (nI_add ii 1) ?_
  refine e_sld (ii + 1) dL_law_1144 rfl (by omega) hg ?_
  refine e_int (a) ha1 ?_
  refine e_aload_n dL_law_1145 rfl rfl ?_
  refine e_iload dL_law_1146 rfl ?_
  refine e_iconst (nI 2) dL_law_1148 (by decide) ?_
  refine e_iadd dL_law_1149 ?_
  refine e_int (nI (ii + 2)) (nI_add ii 2) ?_
  refine e_sld (ii + 2) dL_law_1150 rfl (by omega) hg ?_
  refine e_int (b) ha2 ?_
  refine e_aload_n dL_law_1151 rfl rfl ?_
  refine e_callS [.ref 0, .int a, .int b, .ref 300] dL_law_1152 cc_L_would lk_RL_157 st_L_would in_RL rfl (Nat.le_of_ble_eq_true rfl) (Nat.le_of_ble_eq_true rfl) ?_
  refine t_L_wouldE hI.1 hI.2.1 hI.2.2.1 hv hI.rm (fK_i ?_)
  show fEv g _ mL_law 1155 [some (.ref fscr), some (.ref 0), some (.ref 89), some (.ref 300), some (.int (nI ii)), o5, o6, none] [.int (nI 1)] (fthr σ) Q
  have hJ := hI.thr
  refine e_istore (L1 := [some (.ref fscr), some (.ref 0), some (.ref 89), some (.ref 300), some (.int (nI ii)), some (.int (nI 1)), o6, none]) dL_law_1155 (by decide) rfl ?_
  refine e_aload_n dL_law_1157 rfl rfl ?_
  refine e_aload_n dL_law_1158 rfl rfl ?_
  refine e_iload dL_law_1159 rfl ?_
  refine e_iconst (nI 1) dL_law_1161 (by decide) ?_
  refine e_iadd dL_law_1162 ?_
  refine e_int (nI (ii + 1)) (nI_add ii 1) ?_
  refine e_sld (ii + 1) dL_law_1163 rfl (by omega) hg ?_
  refine e_int (a) ha1 ?_
  refine e_aload_n dL_law_1164 rfl rfl ?_
  refine e_iload dL_law_1165 rfl ?_
  refine e_iconst (nI 2) dL_law_1167 (by decide) ?_
  refine e_iadd dL_law_1168 ?_
  refine e_int (nI (ii + 2)) (nI_add ii 2) ?_
  refine e_sld (ii + 2) dL_law_1169 rfl (by omega) hg ?_
  refine e_int (b) ha2 ?_
  refine e_callV (k := 89) [.int a, .int b] dL_law_1170 cc_X10_would lk_RL_159 im_X10_would se_X10_would (by decide) (hJ.1.s 89 rfl) (hJ.1.n (by decide)) rfl (Nat.le_of_ble_eq_true rfl) (Nat.le_of_ble_eq_true rfl) ?_
  refine t_X10_wouldE hJ.1 hJ.2.1 hJ.2.2.2.1 hv (fun σ2 s2 r2 z2 => fK_i ?_)
  show fEv g _ mL_law 1173 [some (.ref fscr), some (.ref 0), some (.ref 89), some (.ref 300), some (.int (nI ii)), some (.int (nI 1)), o6, none] [.int (nI 0)] σ2 Q
  have M2 := hJ.1.sm s2
  refine e_istore (L1 := [some (.ref fscr), some (.ref 0), some (.ref 89), some (.ref 300), some (.int (nI ii)), some (.int (nI 1)), some (.int (nI 0)), none]) dL_law_1173 (by decide) rfl ?_
  refine e_aload_n dL_law_1175 rfl rfl ?_
  refine e_callV (k := 89) [] dL_law_1176 cc_X10_thrown lk_RL_99 im_X10_thrown se_X10_thrown (by decide) (M2.s 89 rfl) (M2.n (by decide)) rfl (Nat.le_of_ble_eq_true rfl) (Nat.le_of_ble_eq_true rfl) ?_
  refine t_X10_thrown M2 z2 (fK_i ?_)
  show fEv g _ mL_law 1179 [some (.ref fscr), some (.ref 0), some (.ref 89), some (.ref 300), some (.int (nI ii)), some (.int (nI 1)), some (.int (nI 0)), none] [.int (nI 1)] σ2 Q
  refine e_iload dL_law_1179 rfl ?_
  refine e_icmp_eq 1186 dL_law_1181 (by decide) (fun _ => ?_) (fun c => absurd c (by decide))
  refine e_iload dL_law_1186 rfl ?_
  refine e_if_ne 1203 dL_law_1188 (by decide) (fun _ => ?_) (fun c => absurd c (by decide))
  refine e_goto 1782 dL_law_1203 (by decide) ?_
  exact h σ2 x _ _ (hJ.sm s2 hI.2.1 (hJ.2.2.1.rf hI.2.1 s2) r2)
set_option maxRecDepth 20000 in
theorem c_promise {g : fGP} {d : Nat} {σ : fAH} {Q : fRes → fAH → Prop} {x : fXS} {a : Int32} {o many : Nat} {nn ii : Nat} {o5 o6 : Option Value} (hg : gLL g < 2147483648) (hi6 : ii + 6 ≤ gLL g) (hI : fLI g σ x (nn + 1)) (ho : o < dT (xD x) 2) (hm : 1 ≤ many ∧ many ≤ 99) (ha1 : gxs g (ii + 1) = nI o) (ha2 : gxs g (ii + 2) = a) (ha3 : gxs g (ii + 3) = nI many) (h : ∀ σ' x' o5 o6, fLI g σ' x' nn → fEv g (d + 45) mL_law 1782 [some (.ref fscr), some (.ref 0), some (.ref 89), some (.ref 300), some (.int (nI ii)), o5, o6, none] [] σ' Q) : fEv g (d + 45) mL_law 1206 [some (.ref fscr), some (.ref 0), some (.ref 89), some (.ref 300), some (.int (nI ii)), o5, o6, none] [] σ Q := by
  refine e_aload_n dL_law_1206 rfl rfl ?_
  refine e_aload_n dL_law_1207 rfl rfl ?_
  refine e_iload dL_law_1208 rfl ?_
  refine e_iconst (nI 1) dL_law_1210 (by decide) ?_
  refine e_iadd dL_law_1211 ?_
  refine e_int (nI (ii + 1)) (nI_add ii 1) ?_
  refine e_sld (ii + 1) dL_law_1212 rfl (by omega) hg ?_
  refine e_int (nI o) ha1 ?_
  refine e_aload_n dL_law_1213 rfl rfl ?_
  refine e_iload dL_law_1214 rfl ?_
  refine e_iconst (nI 2) dL_law_1216 (by decide) ?_
  refine e_iadd dL_law_1217 ?_
  refine e_int (nI (ii + 2)) (nI_add ii 2) ?_
  refine e_sld (ii + 2) dL_law_1218 rfl (by omega) hg ?_
  refine e_int (a) ha2 ?_
  refine e_aload_n dL_law_1219 rfl rfl ?_
  refine e_iload dL_law_1220 rfl ?_
  refine e_iconst (nI 3) dL_law_1222 (by decide) ?_
  refine e_iadd dL_law_1223 ?_
  refine e_int (nI (ii + 3)) (nI_add ii 3) ?_
  refine e_sld (ii + 3) dL_law_1224 rfl (by omega) hg ?_
  refine e_int (nI many) ha3 ?_
  refine e_aload_n dL_law_1225 rfl rfl ?_
  refine e_callS [.ref 0, .int (nI o), .int a, .int (nI many), .ref 300] dL_law_1226 cc_L_promise lk_RL_160 st_L_promise in_RL rfl (Nat.le_of_ble_eq_true rfl) (Nat.le_of_ble_eq_true rfl) ?_
  refine t_L_promise hI.1 hI.2.1 hI.2.2.1 ho hm (fun σ1 s1 c1 v1 => fK_i ?_)
  show fEv g _ mL_law 1229 [some (.ref fscr), some (.ref 0), some (.ref 89), some (.ref 300), some (.int (nI ii)), o5, o6, none] [.int (nI 0)] σ1 Q
  have r1 := hI.2.2.2.1.clB hI.2.1 s1
  have M1 := hI.1.sm s1
  refine e_istore (L1 := [some (.ref fscr), some (.ref 0), some (.ref 89), some (.ref 300), some (.int (nI ii)), some (.int (nI 0)), o6, none]) dL_law_1229 (by decide) rfl ?_
  refine e_aload_n dL_law_1231 rfl rfl ?_
  refine e_aload_n dL_law_1232 rfl rfl ?_
  refine e_iload dL_law_1233 rfl ?_
  refine e_iconst (nI 1) dL_law_1235 (by decide) ?_
  refine e_iadd dL_law_1236 ?_
  refine e_int (nI (ii + 1)) (nI_add ii 1) ?_
  refine e_sld (ii + 1) dL_law_1237 rfl (by omega) hg ?_
  refine e_int (nI o) ha1 ?_
  refine e_aload_n dL_law_1238 rfl rfl ?_
  refine e_iload dL_law_1239 rfl ?_
  refine e_iconst (nI 2) dL_law_1241 (by decide) ?_
  refine e_iadd dL_law_1242 ?_
  refine e_int (nI (ii + 2)) (nI_add ii 2) ?_
  refine e_sld (ii + 2) dL_law_1243 rfl (by omega) hg ?_
  refine e_int (a) ha2 ?_
  refine e_aload_n dL_law_1244 rfl rfl ?_
  refine e_iload dL_law_1245 rfl ?_
  refine e_iconst (nI 3) dL_law_1247 (by decide) ?_
  refine e_iadd dL_law_1248 ?_
  refine e_int (nI (ii + 3)) (nI_add ii 3) ?_
  refine e_sld (ii + 3) dL_law_1249 rfl (by omega) hg ?_
  refine e_int (nI many) ha3 ?_
  refine e_callV (k := 89) [.int (nI o), .int a, .int (nI many)] dL_law_1250 cc_X10_promise lk_RL_162 im_X10_promise se_X10_promise (by decide) (M1.s 89 rfl) (M1.n (by decide)) rfl (Nat.le_of_ble_eq_true rfl) (Nat.le_of_ble_eq_true rfl) ?_
  refine t_X10_promise M1 hI.2.1 r1 ho hm (fun σ2 s2 r2 z2 => fK_i ?_)
  show fEv g _ mL_law 1253 [some (.ref fscr), some (.ref 0), some (.ref 89), some (.ref 300), some (.int (nI ii)), some (.int (nI 0)), o6, none] [.int (nI (mprm (xD x) (iP (xI x)) (ipn (xI x)) o (iS (xI x)) (iT (xI x)) a many 0 0))] σ2 Q
  have M2 := M1.sm s2
  refine e_istore (L1 := [some (.ref fscr), some (.ref 0), some (.ref 89), some (.ref 300), some (.int (nI ii)), some (.int (nI 0)), some (.int (nI (mprm (xD x) (iP (xI x)) (ipn (xI x)) o (iS (xI x)) (iT (xI x)) a many 0 0))), none]) dL_law_1253 (by decide) rfl ?_
  refine e_aload_n dL_law_1255 rfl rfl ?_
  refine e_callV (k := 89) [] dL_law_1256 cc_X10_thrown lk_RL_99 im_X10_thrown se_X10_thrown (by decide) (M2.s 89 rfl) (M2.n (by decide)) rfl (Nat.le_of_ble_eq_true rfl) (Nat.le_of_ble_eq_true rfl) ?_
  refine t_X10_thrown M2 z2 (fK_i ?_)
  show fEv g _ mL_law 1259 [some (.ref fscr), some (.ref 0), some (.ref 89), some (.ref 300), some (.int (nI ii)), some (.int (nI 0)), some (.int (nI (mprm (xD x) (iP (xI x)) (ipn (xI x)) o (iS (xI x)) (iT (xI x)) a many 0 0))), none] [.int (nI 0)] σ2 Q
  refine e_iload dL_law_1259 rfl ?_
  refine e_icmp_eq 1266 dL_law_1261 (by decide) (fun _ => ?_) (fun c => absurd c (by decide))
  refine e_iload dL_law_1266 rfl ?_
  refine e_if_ne 1283 dL_law_1268 (by decide) (fun c => absurd c (by decide)) (fun _ => ?_)
  refine e_aload_n dL_law_1271 rfl rfl ?_
  refine e_iconst (nI 0) dL_law_1272 (by decide) ?_
  refine e_laload 0 dL_law_1273 (M2.s 300 rfl) (M2.n (by decide)) rfl (by omega) (by decide) ?_
  refine e_long (((nI (mprm (xD x) (iP (xI x)) (ipn (xI x)) o (iS (xI x)) (iT (xI x)) a many 0 0) : Int32)).toInt64) ((s2.j (fun q => by unfold fRfA at q; omega) 0).trans v1) ?_
  refine e_iload dL_law_1274 rfl ?_
  refine e_i2l dL_law_1276 ?_
  refine e_lcmp dL_law_1277 ?_
  refine e_if_eq 1283 dL_law_1278 (by decide) (fun _ => ?_) (fun c => absurd (lc_eq.mpr rfl) c)
  refine e_goto 1782 dL_law_1283 (by decide) ?_
  exact h σ2 _ _ _ ((hI.both hI.2.1 s1 c1 s2 r2).le (Nat.le_succ nn))
set_option maxRecDepth 20000 in
theorem c_promiseE1 {g : fGP} {d : Nat} {σ : fAH} {Q : fRes → fAH → Prop} {x : fXS} {a b c : Int32} {nn ii : Nat} {o5 o6 : Option Value} (hg : gLL g < 2147483648) (hi6 : ii + 6 ≤ gLL g) (hI : fLI g σ x (nn + 1)) (hv : ¬ (nI 0 ≤ a ∧ a < nI (dT (xD x) 2))) (ha1 : gxs g (ii + 1) = a) (ha2 : gxs g (ii + 2) = b) (ha3 : gxs g (ii + 3) = c) (h : ∀ σ' x' o5 o6, fLI g σ' x' nn → fEv g (d + 45) mL_law 1782 [some (.ref fscr), some (.ref 0), some (.ref 89), some (.ref 300), some (.int (nI ii)), o5, o6, none] [] σ' Q) : fEv g (d + 45) mL_law 1206 [some (.ref fscr), some (.ref 0), some (.ref 89), some (.ref 300), some (.int (nI ii)), o5, o6, none] [] σ Q := by
  refine e_aload_n dL_law_1206 rfl rfl ?_
  refine e_aload_n dL_law_1207 rfl rfl ?_
  refine e_iload dL_law_1208 rfl ?_
  refine e_iconst (nI 1) dL_law_1210 (by decide) ?_
  refine e_iadd dL_law_1211 ?_
  refine e_int (nI (ii + 1)) (nI_add ii 1) ?_
  refine e_sld (ii + 1) dL_law_1212 rfl (by omega) hg ?_
  refine e_int (a) ha1 ?_
  refine e_aload_n dL_law_1213 rfl rfl ?_
  refine e_iload dL_law_1214 rfl ?_
  refine e_iconst (nI 2) dL_law_1216 (by decide) ?_
  refine e_iadd dL_law_1217 ?_
  refine e_int (nI (ii + 2)) (nI_add ii 2) ?_
  refine e_sld (ii + 2) dL_law_1218 rfl (by omega) hg ?_
  refine e_int (b) ha2 ?_
  refine e_aload_n dL_law_1219 rfl rfl ?_
  refine e_iload dL_law_1220 rfl ?_
  refine e_iconst (nI 3) dL_law_1222 (by decide) ?_
  refine e_iadd dL_law_1223 ?_
  refine e_int (nI (ii + 3)) (nI_add ii 3) ?_
  refine e_sld (ii + 3) dL_law_1224 rfl (by omega) hg ?_
  refine e_int (c) ha3 ?_
  refine e_aload_n dL_law_1225 rfl rfl ?_
  refine e_callS [.ref 0, .int a, .int b, .int c, .ref 300] dL_law_1226 cc_L_promise lk_RL_160 st_L_promise in_RL rfl (Nat.le_of_ble_eq_true rfl) (Nat.le_of_ble_eq_true rfl) ?_
  refine t_L_promiseE1 hI.1 hI.2.1 hI.2.2.1 hv hI.rm (fK_i ?_)
  show fEv g _ mL_law 1229 [some (.ref fscr), some (.ref 0), some (.ref 89), some (.ref 300), some (.int (nI ii)), o5, o6, none] [.int (nI 1)] (fthr σ) Q
  have hJ := hI.thr
  refine e_istore (L1 := [some (.ref fscr), some (.ref 0), some (.ref 89), some (.ref 300), some (.int (nI ii)), some (.int (nI 1)), o6, none]) dL_law_1229 (by decide) rfl ?_
  refine e_aload_n dL_law_1231 rfl rfl ?_
  refine e_aload_n dL_law_1232 rfl rfl ?_
  refine e_iload dL_law_1233 rfl ?_
  refine e_iconst (nI 1) dL_law_1235 (by decide) ?_
  refine e_iadd dL_law_1236 ?_
  refine e_int (nI (ii + 1)) (nI_add ii 1) ?_
  refine e_sld (ii + 1) dL_law_1237 rfl (by omega) hg ?_
  refine e_int (a) ha1 ?_
  refine e_aload_n dL_law_1238 rfl rfl ?_
  refine e_iload dL_law_1239 rfl ?_
  refine e_iconst (nI 2) dL_law_1241 (by decide) ?_
  refine e_iadd dL_law_1242 ?_
  refine e_int (nI (ii + 2)) (nI_add ii 2) ?_
  refine e_sld (ii + 2) dL_law_1243 rfl (by omega) hg ?_
  refine e_int (b) ha2 ?_
  refine e_aload_n dL_law_1244 rfl rfl ?_
  refine e_iload dL_law_1245 rfl ?_
  refine e_iconst (nI 3) dL_law_1247 (by decide) ?_
  refine e_iadd dL_law_1248 ?_
  refine e_int (nI (ii + 3)) (nI_add ii 3) ?_
  refine e_sld (ii + 3) dL_law_1249 rfl (by omega) hg ?_
  refine e_int (c) ha3 ?_
  refine e_callV (k := 89) [.int a, .int b, .int c] dL_law_1250 cc_X10_promise lk_RL_162 im_X10_promise se_X10_promise (by decide) (hJ.1.s 89 rfl) (hJ.1.n (by decide)) rfl (Nat.le_of_ble_eq_true rfl) (Nat.le_of_ble_eq_true rfl) ?_
  refine t_X10_promiseE1 hJ.1 hJ.2.1 hJ.2.2.2.1 hv (fun σ2 s2 r2 z2 => fK_i ?_)
  show fEv g _ mL_law 1253 [some (.ref fscr), some (.ref 0), some (.ref 89), some (.ref 300), some (.int (nI ii)), some (.int (nI 1)), o6, none] [.int (nI 0)] σ2 Q
  have M2 := hJ.1.sm s2
  refine e_istore (L1 := [some (.ref fscr), some (.ref 0), some (.ref 89), some (.ref 300), some (.int (nI ii)), some (.int (nI 1)), some (.int (nI 0)), none]) dL_law_1253 (by decide) rfl ?_
  refine e_aload_n dL_law_1255 rfl rfl ?_
  refine e_callV (k := 89) [] dL_law_1256 cc_X10_thrown lk_RL_99 im_X10_thrown se_X10_thrown (by decide) (M2.s 89 rfl) (M2.n (by decide)) rfl (Nat.le_of_ble_eq_true rfl) (Nat.le_of_ble_eq_true rfl) ?_
  refine t_X10_thrown M2 z2 (fK_i ?_)
  show fEv g _ mL_law 1259 [some (.ref fscr), some (.ref 0), some (.ref 89), some (.ref 300), some (.int (nI ii)), some (.int (nI 1)), some (.int (nI 0)), none] [.int (nI 1)] σ2 Q
  refine e_iload dL_law_1259 rfl ?_
  refine e_icmp_eq 1266 dL_law_1261 (by decide) (fun _ => ?_) (fun c => absurd c (by decide))
  refine e_iload dL_law_1266 rfl ?_
  refine e_if_ne 1283 dL_law_1268 (by decide) (fun _ => ?_) (fun c => absurd c (by decide))
  refine e_goto 1782 dL_law_1283 (by decide) ?_
  exact h σ2 x _ _ (hJ.sm s2 hI.2.1 (hJ.2.2.1.rf hI.2.1 s2) r2)
set_option maxRecDepth 20000 in
theorem c_promiseE2 {g : fGP} {d : Nat} {σ : fAH} {Q : fRes → fAH → Prop} {x : fXS} {o : Nat} {b c : Int32} {nn ii : Nat} {o5 o6 : Option Value} (hg : gLL g < 2147483648) (hi6 : ii + 6 ≤ gLL g) (hI : fLI g σ x (nn + 1)) (ho : o < dT (xD x) 2) (hv : ¬ (nI 1 ≤ c ∧ c ≤ nI 99)) (ha1 : gxs g (ii + 1) = nI o) (ha2 : gxs g (ii + 2) = b) (ha3 : gxs g (ii + 3) = c) (h : ∀ σ' x' o5 o6, fLI g σ' x' nn → fEv g (d + 45) mL_law 1782 [some (.ref fscr), some (.ref 0), some (.ref 89), some (.ref 300), some (.int (nI ii)), o5, o6, none] [] σ' Q) : fEv g (d + 45) mL_law 1206 [some (.ref fscr), some (.ref 0), some (.ref 89), some (.ref 300), some (.int (nI ii)), o5, o6, none] [] σ Q := by
  refine e_aload_n dL_law_1206 rfl rfl ?_
  refine e_aload_n dL_law_1207 rfl rfl ?_
  refine e_iload dL_law_1208 rfl ?_
  refine e_iconst (nI 1) dL_law_1210 (by decide) ?_
  refine e_iadd dL_law_1211 ?_
  refine e_int (nI (ii + 1)) (nI_add ii 1) ?_
  refine e_sld (ii + 1) dL_law_1212 rfl (by omega) hg ?_
  refine e_int (nI o) ha1 ?_
  refine e_aload_n dL_law_1213 rfl rfl ?_
  refine e_iload dL_law_1214 rfl ?_
  refine e_iconst (nI 2) dL_law_1216 (by decide) ?_
  refine e_iadd dL_law_1217 ?_
  refine e_int (nI (ii + 2)) (nI_add ii 2) ?_
  refine e_sld (ii + 2) dL_law_1218 rfl (by omega) hg ?_
  refine e_int (b) ha2 ?_
  refine e_aload_n dL_law_1219 rfl rfl ?_
  refine e_iload dL_law_1220 rfl ?_
  refine e_iconst (nI 3) dL_law_1222 (by decide) ?_
  refine e_iadd dL_law_1223 ?_
  refine e_int (nI (ii + 3)) (nI_add ii 3) ?_
  refine e_sld (ii + 3) dL_law_1224 rfl (by omega) hg ?_
  refine e_int (c) ha3 ?_
  refine e_aload_n dL_law_1225 rfl rfl ?_
  refine e_callS [.ref 0, .int (nI o), .int b, .int c, .ref 300] dL_law_1226 cc_L_promise lk_RL_160 st_L_promise in_RL rfl (Nat.le_of_ble_eq_true rfl) (Nat.le_of_ble_eq_true rfl) ?_
  refine t_L_promiseE2 hI.1 hI.2.1 hI.2.2.1 ho hv hI.rm (fK_i ?_)
  show fEv g _ mL_law 1229 [some (.ref fscr), some (.ref 0), some (.ref 89), some (.ref 300), some (.int (nI ii)), o5, o6, none] [.int (nI 2)] (fthr σ) Q
  have hJ := hI.thr
  refine e_istore (L1 := [some (.ref fscr), some (.ref 0), some (.ref 89), some (.ref 300), some (.int (nI ii)), some (.int (nI 2)), o6, none]) dL_law_1229 (by decide) rfl ?_
  refine e_aload_n dL_law_1231 rfl rfl ?_
  refine e_aload_n dL_law_1232 rfl rfl ?_
  refine e_iload dL_law_1233 rfl ?_
  refine e_iconst (nI 1) dL_law_1235 (by decide) ?_
  refine e_iadd dL_law_1236 ?_
  refine e_int (nI (ii + 1)) (nI_add ii 1) ?_
  refine e_sld (ii + 1) dL_law_1237 rfl (by omega) hg ?_
  refine e_int (nI o) ha1 ?_
  refine e_aload_n dL_law_1238 rfl rfl ?_
  refine e_iload dL_law_1239 rfl ?_
  refine e_iconst (nI 2) dL_law_1241 (by decide) ?_
  refine e_iadd dL_law_1242 ?_
  refine e_int (nI (ii + 2)) (nI_add ii 2) ?_
  refine e_sld (ii + 2) dL_law_1243 rfl (by omega) hg ?_
  refine e_int (b) ha2 ?_
  refine e_aload_n dL_law_1244 rfl rfl ?_
  refine e_iload dL_law_1245 rfl ?_
  refine e_iconst (nI 3) dL_law_1247 (by decide) ?_
  refine e_iadd dL_law_1248 ?_
  refine e_int (nI (ii + 3)) (nI_add ii 3) ?_
  refine e_sld (ii + 3) dL_law_1249 rfl (by omega) hg ?_
  refine e_int (c) ha3 ?_
  refine e_callV (k := 89) [.int (nI o), .int b, .int c] dL_law_1250 cc_X10_promise lk_RL_162 im_X10_promise se_X10_promise (by decide) (hJ.1.s 89 rfl) (hJ.1.n (by decide)) rfl (Nat.le_of_ble_eq_true rfl) (Nat.le_of_ble_eq_true rfl) ?_
  refine t_X10_promiseE2 hJ.1 hJ.2.1 hJ.2.2.2.1 ho hv (fun σ2 s2 r2 z2 => fK_i ?_)
  show fEv g _ mL_law 1253 [some (.ref fscr), some (.ref 0), some (.ref 89), some (.ref 300), some (.int (nI ii)), some (.int (nI 2)), o6, none] [.int (nI 0)] σ2 Q
  have M2 := hJ.1.sm s2
  refine e_istore (L1 := [some (.ref fscr), some (.ref 0), some (.ref 89), some (.ref 300), some (.int (nI ii)), some (.int (nI 2)), some (.int (nI 0)), none]) dL_law_1253 (by decide) rfl ?_
  refine e_aload_n dL_law_1255 rfl rfl ?_
  refine e_callV (k := 89) [] dL_law_1256 cc_X10_thrown lk_RL_99 im_X10_thrown se_X10_thrown (by decide) (M2.s 89 rfl) (M2.n (by decide)) rfl (Nat.le_of_ble_eq_true rfl) (Nat.le_of_ble_eq_true rfl) ?_
  refine t_X10_thrown M2 z2 (fK_i ?_)
  show fEv g _ mL_law 1259 [some (.ref fscr), some (.ref 0), some (.ref 89), some (.ref 300), some (.int (nI ii)), some (.int (nI 2)), some (.int (nI 0)), none] [.int (nI 2)] σ2 Q
  refine e_iload dL_law_1259 rfl ?_
  refine e_icmp_eq 1266 dL_law_1261 (by decide) (fun _ => ?_) (fun c => absurd c (by decide))
  refine e_iload dL_law_1266 rfl ?_
  refine e_if_ne 1283 dL_law_1268 (by decide) (fun _ => ?_) (fun c => absurd c (by decide))
  refine e_goto 1782 dL_law_1283 (by decide) ?_
  exact h σ2 x _ _ (hJ.sm s2 hI.2.1 (hJ.2.2.1.rf hI.2.1 s2) r2)
set_option maxRecDepth 20000 in
theorem c_tonight {g : fGP} {d : Nat} {σ : fAH} {Q : fRes → fAH → Prop} {x : fXS}  {nn ii : Nat} {o5 o6 : Option Value} (hg : gLL g < 2147483648) (hi6 : ii + 6 ≤ gLL g) (hI : fLI g σ x (nn + 1)) (hn : (iS (xI x)) 155 < 30)  (h : ∀ σ' x' o5 o6, fLI g σ' x' nn → fEv g (d + 45) mL_law 1782 [some (.ref fscr), some (.ref 0), some (.ref 89), some (.ref 300), some (.int (nI ii)), o5, o6, none] [] σ' Q) : fEv g (d + 45) mL_law 1286 [some (.ref fscr), some (.ref 0), some (.ref 89), some (.ref 300), some (.int (nI ii)), o5, o6, none] [] σ Q := by
  refine e_aload_n dL_law_1286 rfl rfl ?_
  refine e_aload_n dL_law_1287 rfl rfl ?_
  refine e_callS [.ref 0, .ref 300] dL_law_1288 cc_L_tonight lk_RL_163 st_L_tonight in_RL rfl (Nat.le_of_ble_eq_true rfl) (Nat.le_of_ble_eq_true rfl) ?_
  refine t_L_tonight hI.1 hI.2.1 hI.2.2.1 hn (fun σ1 s1 c1 v1 => fK_i ?_)
  show fEv g _ mL_law 1291 [some (.ref fscr), some (.ref 0), some (.ref 89), some (.ref 300), some (.int (nI ii)), o5, o6, none] [.int (nI 0)] σ1 Q
  have r1 := hI.2.2.2.1.clB hI.2.1 s1
  have M1 := hI.1.sm s1
  refine e_istore (L1 := [some (.ref fscr), some (.ref 0), some (.ref 89), some (.ref 300), some (.int (nI ii)), some (.int (nI 0)), o6, none]) dL_law_1291 (by decide) rfl ?_
  refine e_aload_n dL_law_1293 rfl rfl ?_
  refine e_callV (k := 89) [] dL_law_1294 cc_X10_tonight lk_RL_166 im_X10_tonight se_X10_tonight (by decide) (M1.s 89 rfl) (M1.n (by decide)) rfl (Nat.le_of_ble_eq_true rfl) (Nat.le_of_ble_eq_true rfl) ?_
  refine t_X10_tonight M1 hI.2.1 r1 hn (fun σ2 s2 r2 z2 => fK_i ?_)
  show fEv g _ mL_law 1297 [some (.ref fscr), some (.ref 0), some (.ref 89), some (.ref 300), some (.int (nI ii)), some (.int (nI 0)), o6, none] [.int (nI (mft (xD x) (iS (xI x))).2)] σ2 Q
  have M2 := M1.sm s2
  refine e_istore (L1 := [some (.ref fscr), some (.ref 0), some (.ref 89), some (.ref 300), some (.int (nI ii)), some (.int (nI 0)), some (.int (nI (mft (xD x) (iS (xI x))).2)), none]) dL_law_1297 (by decide) rfl ?_
  refine e_aload_n dL_law_1299 rfl rfl ?_
  refine e_callV (k := 89) [] dL_law_1300 cc_X10_thrown lk_RL_99 im_X10_thrown se_X10_thrown (by decide) (M2.s 89 rfl) (M2.n (by decide)) rfl (Nat.le_of_ble_eq_true rfl) (Nat.le_of_ble_eq_true rfl) ?_
  refine t_X10_thrown M2 z2 (fK_i ?_)
  show fEv g _ mL_law 1303 [some (.ref fscr), some (.ref 0), some (.ref 89), some (.ref 300), some (.int (nI ii)), some (.int (nI 0)), some (.int (nI (mft (xD x) (iS (xI x))).2)), none] [.int (nI 0)] σ2 Q
  refine e_iload dL_law_1303 rfl ?_
  refine e_icmp_eq 1310 dL_law_1305 (by decide) (fun _ => ?_) (fun c => absurd c (by decide))
  refine e_iload dL_law_1310 rfl ?_
  refine e_if_ne 1327 dL_law_1312 (by decide) (fun c => absurd c (by decide)) (fun _ => ?_)
  refine e_aload_n dL_law_1315 rfl rfl ?_
  refine e_iconst (nI 0) dL_law_1316 (by decide) ?_
  refine e_laload 0 dL_law_1317 (M2.s 300 rfl) (M2.n (by decide)) rfl (by omega) (by decide) ?_
  refine e_long (((nI (mft (xD x) (iS (xI x))).2 : Int32)).toInt64) ((s2.j (fun q => by unfold fRfA at q; omega) 0).trans v1) ?_
  refine e_iload dL_law_1318 rfl ?_
  refine e_i2l dL_law_1320 ?_
  refine e_lcmp dL_law_1321 ?_
  refine e_if_eq 1327 dL_law_1322 (by decide) (fun _ => ?_) (fun c => absurd (lc_eq.mpr rfl) c)
  refine e_goto 1782 dL_law_1327 (by decide) ?_
  exact h σ2 _ _ _ ((hI.both hI.2.1 s1 c1 s2 r2).le (Nat.le_succ nn))
set_option maxRecDepth 20000 in
theorem c_tonightE {g : fGP} {d : Nat} {σ : fAH} {Q : fRes → fAH → Prop} {x : fXS}  {nn ii : Nat} {o5 o6 : Option Value} (hg : gLL g < 2147483648) (hi6 : ii + 6 ≤ gLL g) (hI : fLI g σ x (nn + 1)) (hn : ¬ (iS (xI x)) 155 < 30)  (h : ∀ σ' x' o5 o6, fLI g σ' x' nn → fEv g (d + 45) mL_law 1782 [some (.ref fscr), some (.ref 0), some (.ref 89), some (.ref 300), some (.int (nI ii)), o5, o6, none] [] σ' Q) : fEv g (d + 45) mL_law 1286 [some (.ref fscr), some (.ref 0), some (.ref 89), some (.ref 300), some (.int (nI ii)), o5, o6, none] [] σ Q := by
  refine e_aload_n dL_law_1286 rfl rfl ?_
  refine e_aload_n dL_law_1287 rfl rfl ?_
  refine e_callS [.ref 0, .ref 300] dL_law_1288 cc_L_tonight lk_RL_163 st_L_tonight in_RL rfl (Nat.le_of_ble_eq_true rfl) (Nat.le_of_ble_eq_true rfl) ?_
  refine t_L_tonightE hI.1 hI.2.1 hI.2.2.1 hn hI.rm (fK_i ?_)
  show fEv g _ mL_law 1291 [some (.ref fscr), some (.ref 0), some (.ref 89), some (.ref 300), some (.int (nI ii)), o5, o6, none] [.int (nI 1)] (fthr σ) Q
  have hJ := hI.thr
  refine e_istore (L1 := [some (.ref fscr), some (.ref 0), some (.ref 89), some (.ref 300), some (.int (nI ii)), some (.int (nI 1)), o6, none]) dL_law_1291 (by decide) rfl ?_
  refine e_aload_n dL_law_1293 rfl rfl ?_
  refine e_callV (k := 89) [] dL_law_1294 cc_X10_tonight lk_RL_166 im_X10_tonight se_X10_tonight (by decide) (hJ.1.s 89 rfl) (hJ.1.n (by decide)) rfl (Nat.le_of_ble_eq_true rfl) (Nat.le_of_ble_eq_true rfl) ?_
  refine t_X10_tonightE hJ.1 hJ.2.1 hJ.2.2.2.1 hn (fun σ2 s2 r2 z2 => fK_i ?_)
  show fEv g _ mL_law 1297 [some (.ref fscr), some (.ref 0), some (.ref 89), some (.ref 300), some (.int (nI ii)), some (.int (nI 1)), o6, none] [.int (nI 0)] σ2 Q
  have M2 := hJ.1.sm s2
  refine e_istore (L1 := [some (.ref fscr), some (.ref 0), some (.ref 89), some (.ref 300), some (.int (nI ii)), some (.int (nI 1)), some (.int (nI 0)), none]) dL_law_1297 (by decide) rfl ?_
  refine e_aload_n dL_law_1299 rfl rfl ?_
  refine e_callV (k := 89) [] dL_law_1300 cc_X10_thrown lk_RL_99 im_X10_thrown se_X10_thrown (by decide) (M2.s 89 rfl) (M2.n (by decide)) rfl (Nat.le_of_ble_eq_true rfl) (Nat.le_of_ble_eq_true rfl) ?_
  refine t_X10_thrown M2 z2 (fK_i ?_)
  show fEv g _ mL_law 1303 [some (.ref fscr), some (.ref 0), some (.ref 89), some (.ref 300), some (.int (nI ii)), some (.int (nI 1)), some (.int (nI 0)), none] [.int (nI 1)] σ2 Q
  refine e_iload dL_law_1303 rfl ?_
  refine e_icmp_eq 1310 dL_law_1305 (by decide) (fun _ => ?_) (fun c => absurd c (by decide))
  refine e_iload dL_law_1310 rfl ?_
  refine e_if_ne 1327 dL_law_1312 (by decide) (fun _ => ?_) (fun c => absurd c (by decide))
  refine e_goto 1782 dL_law_1327 (by decide) ?_
  exact h σ2 x _ _ (hJ.sm s2 hI.2.1 (hJ.2.2.1.rf hI.2.1 s2) r2)
set_option maxRecDepth 20000 in
theorem c_worth {g : fGP} {d : Nat} {σ : fAH} {Q : fRes → fAH → Prop} {x : fXS} {w : Nat} {nn ii : Nat} {o5 o6 : Option Value} (hg : gLL g < 2147483648) (hi6 : ii + 6 ≤ gLL g) (hI : fLI g σ x (nn + 1)) (hw : w ≤ 1) (hn : (iS (xI x)) 155 < 30) (ha1 : gxs g (ii + 1) = nI w) (h : ∀ σ' x' o5 o6, fLI g σ' x' nn → fEv g (d + 45) mL_law 1782 [some (.ref fscr), some (.ref 0), some (.ref 89), some (.ref 300), some (.int (nI ii)), o5, o6, none] [] σ' Q) : fEv g (d + 45) mL_law 1330 [some (.ref fscr), some (.ref 0), some (.ref 89), some (.ref 300), some (.int (nI ii)), o5, o6, none] [] σ Q := by
  refine e_aload_n dL_law_1330 rfl rfl ?_
  refine e_aload_n dL_law_1331 rfl rfl ?_
  refine e_iload dL_law_1332 rfl ?_
  refine e_iconst (nI 1) dL_law_1334 (by decide) ?_
  refine e_iadd dL_law_1335 ?_
  refine e_int (nI (ii + 1)) (nI_add ii 1) ?_
  refine e_sld (ii + 1) dL_law_1336 rfl (by omega) hg ?_
  refine e_int (nI w) ha1 ?_
  refine e_aload_n dL_law_1337 rfl rfl ?_
  refine e_callS [.ref 0, .int (nI w), .ref 300] dL_law_1338 cc_L_worth lk_RL_167 st_L_worth in_RL rfl (Nat.le_of_ble_eq_true rfl) (Nat.le_of_ble_eq_true rfl) ?_
  refine t_L_worth hI.1 hI.2.1 hI.2.2.1 hw hn (fun σ1 s1 c1 v1 => fK_i ?_)
  show fEv g _ mL_law 1341 [some (.ref fscr), some (.ref 0), some (.ref 89), some (.ref 300), some (.int (nI ii)), o5, o6, none] [.int (nI 0)] σ1 Q
  have r1 := hI.2.2.2.1.clB hI.2.1 s1
  have M1 := hI.1.sm s1
  refine e_istore (L1 := [some (.ref fscr), some (.ref 0), some (.ref 89), some (.ref 300), some (.int (nI ii)), some (.int (nI 0)), o6, none]) dL_law_1341 (by decide) rfl ?_
  refine e_aload_n dL_law_1343 rfl rfl ?_
  refine e_aload_n dL_law_1344 rfl rfl ?_
  refine e_iload dL_law_1345 rfl ?_
  refine e_iconst (nI 1) dL_law_1347 (by decide) ?_
  refine e_iadd dL_law_1348 ?_
  refine e_int (nI (ii + 1)) (nI_add ii 1) ?_
  refine e_sld (ii + 1) dL_law_1349 rfl (by omega) hg ?_
  refine e_int (nI w) ha1 ?_
  refine e_callV (k := 89) [.int (nI w)] dL_law_1350 cc_X10_worth lk_RL_169 im_X10_worth se_X10_worth (by decide) (M1.s 89 rfl) (M1.n (by decide)) rfl (Nat.le_of_ble_eq_true rfl) (Nat.le_of_ble_eq_true rfl) ?_
  refine t_X10_worth M1 hI.2.1 r1 hw hn (fun σ2 s2 r2 z2 => fK_i ?_)
  show fEv g _ mL_law 1353 [some (.ref fscr), some (.ref 0), some (.ref 89), some (.ref 300), some (.int (nI ii)), some (.int (nI 0)), o6, none] [.long (vWor (xD x) (iS (xI x)) w)] σ2 Q
  have M2 := M1.sm s2
  refine e_lstore (L1 := [some (.ref fscr), some (.ref 0), some (.ref 89), some (.ref 300), some (.int (nI ii)), some (.int (nI 0)), some (.long (vWor (xD x) (iS (xI x)) w)), none]) dL_law_1353 (by decide) rfl ?_
  refine e_aload_n dL_law_1355 rfl rfl ?_
  refine e_callV (k := 89) [] dL_law_1356 cc_X10_thrown lk_RL_99 im_X10_thrown se_X10_thrown (by decide) (M2.s 89 rfl) (M2.n (by decide)) rfl (Nat.le_of_ble_eq_true rfl) (Nat.le_of_ble_eq_true rfl) ?_
  refine t_X10_thrown M2 z2 (fK_i ?_)
  show fEv g _ mL_law 1359 [some (.ref fscr), some (.ref 0), some (.ref 89), some (.ref 300), some (.int (nI ii)), some (.int (nI 0)), some (.long (vWor (xD x) (iS (xI x)) w)), none] [.int (nI 0)] σ2 Q
  refine e_iload dL_law_1359 rfl ?_
  refine e_icmp_eq 1366 dL_law_1361 (by decide) (fun _ => ?_) (fun c => absurd c (by decide))
  refine e_iload dL_law_1366 rfl ?_
  refine e_if_ne 1382 dL_law_1368 (by decide) (fun c => absurd c (by decide)) (fun _ => ?_)
  refine e_aload_n dL_law_1371 rfl rfl ?_
  refine e_iconst (nI 0) dL_law_1372 (by decide) ?_
  refine e_laload 0 dL_law_1373 (M2.s 300 rfl) (M2.n (by decide)) rfl (by omega) (by decide) ?_
  refine e_long (vWor (xD x) (iS (xI x)) w) ((s2.j (fun q => by unfold fRfA at q; omega) 0).trans v1) ?_
  refine e_lload dL_law_1374 rfl ?_
  refine e_lcmp dL_law_1376 ?_
  refine e_if_eq 1382 dL_law_1377 (by decide) (fun _ => ?_) (fun c => absurd (lc_eq.mpr rfl) c)
  refine e_goto 1782 dL_law_1382 (by decide) ?_
  exact h σ2 _ _ _ ((hI.both hI.2.1 s1 c1 s2 r2).le (Nat.le_succ nn))
set_option maxRecDepth 20000 in
theorem c_worthE1 {g : fGP} {d : Nat} {σ : fAH} {Q : fRes → fAH → Prop} {x : fXS} {b : Int32} {nn ii : Nat} {o5 o6 : Option Value} (hg : gLL g < 2147483648) (hi6 : ii + 6 ≤ gLL g) (hI : fLI g σ x (nn + 1)) (hv : ¬ (nI 0 ≤ b ∧ b ≤ nI 1)) (ha1 : gxs g (ii + 1) = b) (h : ∀ σ' x' o5 o6, fLI g σ' x' nn → fEv g (d + 45) mL_law 1782 [some (.ref fscr), some (.ref 0), some (.ref 89), some (.ref 300), some (.int (nI ii)), o5, o6, none] [] σ' Q) : fEv g (d + 45) mL_law 1330 [some (.ref fscr), some (.ref 0), some (.ref 89), some (.ref 300), some (.int (nI ii)), o5, o6, none] [] σ Q := by
  refine e_aload_n dL_law_1330 rfl rfl ?_
  refine e_aload_n dL_law_1331 rfl rfl ?_
  refine e_iload dL_law_1332 rfl ?_
  refine e_iconst (nI 1) dL_law_1334 (by decide) ?_
  refine e_iadd dL_law_1335 ?_
  refine e_int (nI (ii + 1)) (nI_add ii 1) ?_
  refine e_sld (ii + 1) dL_law_1336 rfl (by omega) hg ?_
  refine e_int (b) ha1 ?_
  refine e_aload_n dL_law_1337 rfl rfl ?_
  refine e_callS [.ref 0, .int b, .ref 300] dL_law_1338 cc_L_worth lk_RL_167 st_L_worth in_RL rfl (Nat.le_of_ble_eq_true rfl) (Nat.le_of_ble_eq_true rfl) ?_
  refine t_L_worthE1 hI.1 hI.2.1 hI.2.2.1 hv hI.rm (fK_i ?_)
  show fEv g _ mL_law 1341 [some (.ref fscr), some (.ref 0), some (.ref 89), some (.ref 300), some (.int (nI ii)), o5, o6, none] [.int (nI 1)] (fthr σ) Q
  have hJ := hI.thr
  refine e_istore (L1 := [some (.ref fscr), some (.ref 0), some (.ref 89), some (.ref 300), some (.int (nI ii)), some (.int (nI 1)), o6, none]) dL_law_1341 (by decide) rfl ?_
  refine e_aload_n dL_law_1343 rfl rfl ?_
  refine e_aload_n dL_law_1344 rfl rfl ?_
  refine e_iload dL_law_1345 rfl ?_
  refine e_iconst (nI 1) dL_law_1347 (by decide) ?_
  refine e_iadd dL_law_1348 ?_
  refine e_int (nI (ii + 1)) (nI_add ii 1) ?_
  refine e_sld (ii + 1) dL_law_1349 rfl (by omega) hg ?_
  refine e_int (b) ha1 ?_
  refine e_callV (k := 89) [.int b] dL_law_1350 cc_X10_worth lk_RL_169 im_X10_worth se_X10_worth (by decide) (hJ.1.s 89 rfl) (hJ.1.n (by decide)) rfl (Nat.le_of_ble_eq_true rfl) (Nat.le_of_ble_eq_true rfl) ?_
  refine t_X10_worthE1 hJ.1 hJ.2.1 hJ.2.2.2.1 hv (fun σ2 s2 r2 z2 => fK_i ?_)
  show fEv g _ mL_law 1353 [some (.ref fscr), some (.ref 0), some (.ref 89), some (.ref 300), some (.int (nI ii)), some (.int (nI 1)), o6, none] [.long 0] σ2 Q
  have M2 := hJ.1.sm s2
  refine e_lstore (L1 := [some (.ref fscr), some (.ref 0), some (.ref 89), some (.ref 300), some (.int (nI ii)), some (.int (nI 1)), some (.long 0), none]) dL_law_1353 (by decide) rfl ?_
  refine e_aload_n dL_law_1355 rfl rfl ?_
  refine e_callV (k := 89) [] dL_law_1356 cc_X10_thrown lk_RL_99 im_X10_thrown se_X10_thrown (by decide) (M2.s 89 rfl) (M2.n (by decide)) rfl (Nat.le_of_ble_eq_true rfl) (Nat.le_of_ble_eq_true rfl) ?_
  refine t_X10_thrown M2 z2 (fK_i ?_)
  show fEv g _ mL_law 1359 [some (.ref fscr), some (.ref 0), some (.ref 89), some (.ref 300), some (.int (nI ii)), some (.int (nI 1)), some (.long 0), none] [.int (nI 1)] σ2 Q
  refine e_iload dL_law_1359 rfl ?_
  refine e_icmp_eq 1366 dL_law_1361 (by decide) (fun _ => ?_) (fun c => absurd c (by decide))
  refine e_iload dL_law_1366 rfl ?_
  refine e_if_ne 1382 dL_law_1368 (by decide) (fun _ => ?_) (fun c => absurd c (by decide))
  refine e_goto 1782 dL_law_1382 (by decide) ?_
  exact h σ2 x _ _ (hJ.sm s2 hI.2.1 (hJ.2.2.1.rf hI.2.1 s2) r2)
set_option maxRecDepth 20000 in
theorem c_worthE2 {g : fGP} {d : Nat} {σ : fAH} {Q : fRes → fAH → Prop} {x : fXS} {w : Nat} {nn ii : Nat} {o5 o6 : Option Value} (hg : gLL g < 2147483648) (hi6 : ii + 6 ≤ gLL g) (hI : fLI g σ x (nn + 1)) (hw : w ≤ 1) (hn : ¬ (iS (xI x)) 155 < 30) (ha1 : gxs g (ii + 1) = nI w) (h : ∀ σ' x' o5 o6, fLI g σ' x' nn → fEv g (d + 45) mL_law 1782 [some (.ref fscr), some (.ref 0), some (.ref 89), some (.ref 300), some (.int (nI ii)), o5, o6, none] [] σ' Q) : fEv g (d + 45) mL_law 1330 [some (.ref fscr), some (.ref 0), some (.ref 89), some (.ref 300), some (.int (nI ii)), o5, o6, none] [] σ Q := by
  refine e_aload_n dL_law_1330 rfl rfl ?_
  refine e_aload_n dL_law_1331 rfl rfl ?_
  refine e_iload dL_law_1332 rfl ?_
  refine e_iconst (nI 1) dL_law_1334 (by decide) ?_
  refine e_iadd dL_law_1335 ?_
  refine e_int (nI (ii + 1)) (nI_add ii 1) ?_
  refine e_sld (ii + 1) dL_law_1336 rfl (by omega) hg ?_
  refine e_int (nI w) ha1 ?_
  refine e_aload_n dL_law_1337 rfl rfl ?_
  refine e_callS [.ref 0, .int (nI w), .ref 300] dL_law_1338 cc_L_worth lk_RL_167 st_L_worth in_RL rfl (Nat.le_of_ble_eq_true rfl) (Nat.le_of_ble_eq_true rfl) ?_
  refine t_L_worthE2 hI.1 hI.2.1 hI.2.2.1 hw hn hI.rm (fK_i ?_)
  show fEv g _ mL_law 1341 [some (.ref fscr), some (.ref 0), some (.ref 89), some (.ref 300), some (.int (nI ii)), o5, o6, none] [.int (nI 2)] (fthr σ) Q
  have hJ := hI.thr
  refine e_istore (L1 := [some (.ref fscr), some (.ref 0), some (.ref 89), some (.ref 300), some (.int (nI ii)), some (.int (nI 2)), o6, none]) dL_law_1341 (by decide) rfl ?_
  refine e_aload_n dL_law_1343 rfl rfl ?_
  refine e_aload_n dL_law_1344 rfl rfl ?_
  refine e_iload dL_law_1345 rfl ?_
  refine e_iconst (nI 1) dL_law_1347 (by decide) ?_
  refine e_iadd dL_law_1348 ?_
  refine e_int (nI (ii + 1)) (nI_add ii 1) ?_
  refine e_sld (ii + 1) dL_law_1349 rfl (by omega) hg ?_
  refine e_int (nI w) ha1 ?_
  refine e_callV (k := 89) [.int (nI w)] dL_law_1350 cc_X10_worth lk_RL_169 im_X10_worth se_X10_worth (by decide) (hJ.1.s 89 rfl) (hJ.1.n (by decide)) rfl (Nat.le_of_ble_eq_true rfl) (Nat.le_of_ble_eq_true rfl) ?_
  refine t_X10_worthE2 hJ.1 hJ.2.1 hJ.2.2.2.1 hw hn (fun σ2 s2 r2 z2 => fK_i ?_)
  show fEv g _ mL_law 1353 [some (.ref fscr), some (.ref 0), some (.ref 89), some (.ref 300), some (.int (nI ii)), some (.int (nI 2)), o6, none] [.long 0] σ2 Q
  have M2 := hJ.1.sm s2
  refine e_lstore (L1 := [some (.ref fscr), some (.ref 0), some (.ref 89), some (.ref 300), some (.int (nI ii)), some (.int (nI 2)), some (.long 0), none]) dL_law_1353 (by decide) rfl ?_
  refine e_aload_n dL_law_1355 rfl rfl ?_
  refine e_callV (k := 89) [] dL_law_1356 cc_X10_thrown lk_RL_99 im_X10_thrown se_X10_thrown (by decide) (M2.s 89 rfl) (M2.n (by decide)) rfl (Nat.le_of_ble_eq_true rfl) (Nat.le_of_ble_eq_true rfl) ?_
  refine t_X10_thrown M2 z2 (fK_i ?_)
  show fEv g _ mL_law 1359 [some (.ref fscr), some (.ref 0), some (.ref 89), some (.ref 300), some (.int (nI ii)), some (.int (nI 2)), some (.long 0), none] [.int (nI 2)] σ2 Q
  refine e_iload dL_law_1359 rfl ?_
  refine e_icmp_eq 1366 dL_law_1361 (by decide) (fun _ => ?_) (fun c => absurd c (by decide))
  refine e_iload dL_law_1366 rfl ?_
  refine e_if_ne 1382 dL_law_1368 (by decide) (fun _ => ?_) (fun c => absurd c (by decide))
  refine e_goto 1782 dL_law_1382 (by decide) ?_
  exact h σ2 x _ _ (hJ.sm s2 hI.2.1 (hJ.2.2.1.rf hI.2.1 s2) r2)
set_option maxRecDepth 20000 in
theorem c_now {g : fGP} {d : Nat} {σ : fAH} {Q : fRes → fAH → Prop} {x : fXS} {f w : Nat} {nn ii : Nat} {o5 o6 : Option Value} (hg : gLL g < 2147483648) (hi6 : ii + 6 ≤ gLL g) (hI : fLI g σ x (nn + 1)) (hf : f < 4096) (hv1 : nI f &&& (nI (mfa (mal (xD x) (iS (xI x))) 12 (dT (xD x) 1) 0 0) ^^^ (-1)) = 0) (hv2 : mon f 12 0 ≤ dT (xD x) 3) (hfz : ∀ j, dT (xD x) 1 ≤ j → f / 2 ^ j % 2 = 0) (h6 : mon f 12 0 ≤ 6) (hw : w ≤ 1) (hn : (iS (xI x)) 155 < 30) (ha1 : gxs g (ii + 1) = nI f) (ha2 : gxs g (ii + 2) = nI w) (h : ∀ σ' x' o5 o6, fLI g σ' x' nn → fEv g (d + 45) mL_law 1782 [some (.ref fscr), some (.ref 0), some (.ref 89), some (.ref 300), some (.int (nI ii)), o5, o6, none] [] σ' Q) : fEv g (d + 45) mL_law 1385 [some (.ref fscr), some (.ref 0), some (.ref 89), some (.ref 300), some (.int (nI ii)), o5, o6, none] [] σ Q := by
  refine e_aload_n dL_law_1385 rfl rfl ?_
  refine e_aload_n dL_law_1386 rfl rfl ?_
  refine e_iload dL_law_1387 rfl ?_
  refine e_iconst (nI 1) dL_law_1389 (by decide) ?_
  refine e_iadd dL_law_1390 ?_
  refine e_int (nI (ii + 1)) (nI_add ii 1) ?_
  refine e_sld (ii + 1) dL_law_1391 rfl (by omega) hg ?_
  refine e_int (nI f) ha1 ?_
  refine e_aload_n dL_law_1392 rfl rfl ?_
  refine e_iload dL_law_1393 rfl ?_
  refine e_iconst (nI 2) dL_law_1395 (by decide) ?_
  refine e_iadd dL_law_1396 ?_
  refine e_int (nI (ii + 2)) (nI_add ii 2) ?_
  refine e_sld (ii + 2) dL_law_1397 rfl (by omega) hg ?_
  refine e_int (nI w) ha2 ?_
  refine e_aload_n dL_law_1398 rfl rfl ?_
  refine e_callS [.ref 0, .int (nI f), .int (nI w), .ref 300] dL_law_1399 cc_L_now lk_RL_170 st_L_now in_RL rfl (Nat.le_of_ble_eq_true rfl) (Nat.le_of_ble_eq_true rfl) ?_
  refine t_L_now hI.1 hI.2.1 hI.2.2.1 hf hv1 hv2 hfz h6 hw hn (fun σ1 s1 c1 v1 => fK_i ?_)
  show fEv g _ mL_law 1402 [some (.ref fscr), some (.ref 0), some (.ref 89), some (.ref 300), some (.int (nI ii)), o5, o6, none] [.int (nI 0)] σ1 Q
  have r1 := hI.2.2.2.1.clB hI.2.1 s1
  have M1 := hI.1.sm s1
  refine e_istore (L1 := [some (.ref fscr), some (.ref 0), some (.ref 89), some (.ref 300), some (.int (nI ii)), some (.int (nI 0)), o6, none]) dL_law_1402 (by decide) rfl ?_
  refine e_aload_n dL_law_1404 rfl rfl ?_
  refine e_aload_n dL_law_1405 rfl rfl ?_
  refine e_iload dL_law_1406 rfl ?_
  refine e_iconst (nI 1) dL_law_1408 (by decide) ?_
  refine e_iadd dL_law_1409 ?_
  refine e_int (nI (ii + 1)) (nI_add ii 1) ?_
  refine e_sld (ii + 1) dL_law_1410 rfl (by omega) hg ?_
  refine e_int (nI f) ha1 ?_
  refine e_aload_n dL_law_1411 rfl rfl ?_
  refine e_iload dL_law_1412 rfl ?_
  refine e_iconst (nI 2) dL_law_1414 (by decide) ?_
  refine e_iadd dL_law_1415 ?_
  refine e_int (nI (ii + 2)) (nI_add ii 2) ?_
  refine e_sld (ii + 2) dL_law_1416 rfl (by omega) hg ?_
  refine e_int (nI w) ha2 ?_
  refine e_callV (k := 89) [.int (nI f), .int (nI w)] dL_law_1417 cc_X10_now lk_RL_172 im_X10_now se_X10_now (by decide) (M1.s 89 rfl) (M1.n (by decide)) rfl (Nat.le_of_ble_eq_true rfl) (Nat.le_of_ble_eq_true rfl) ?_
  refine t_X10_now M1 hI.2.1 r1 hf hv1 hv2 hfz h6 hw hn (fun σ2 s2 r2 z2 => fK_i ?_)
  show fEv g _ mL_law 1420 [some (.ref fscr), some (.ref 0), some (.ref 89), some (.ref 300), some (.int (nI ii)), some (.int (nI 0)), o6, none] [.long (vNow (xD x) (iS (xI x)) f w)] σ2 Q
  have M2 := M1.sm s2
  refine e_lstore (L1 := [some (.ref fscr), some (.ref 0), some (.ref 89), some (.ref 300), some (.int (nI ii)), some (.int (nI 0)), some (.long (vNow (xD x) (iS (xI x)) f w)), none]) dL_law_1420 (by decide) rfl ?_
  refine e_aload_n dL_law_1422 rfl rfl ?_
  refine e_callV (k := 89) [] dL_law_1423 cc_X10_thrown lk_RL_99 im_X10_thrown se_X10_thrown (by decide) (M2.s 89 rfl) (M2.n (by decide)) rfl (Nat.le_of_ble_eq_true rfl) (Nat.le_of_ble_eq_true rfl) ?_
  refine t_X10_thrown M2 z2 (fK_i ?_)
  show fEv g _ mL_law 1426 [some (.ref fscr), some (.ref 0), some (.ref 89), some (.ref 300), some (.int (nI ii)), some (.int (nI 0)), some (.long (vNow (xD x) (iS (xI x)) f w)), none] [.int (nI 0)] σ2 Q
  refine e_iload dL_law_1426 rfl ?_
  refine e_icmp_eq 1433 dL_law_1428 (by decide) (fun _ => ?_) (fun c => absurd c (by decide))
  refine e_iload dL_law_1433 rfl ?_
  refine e_if_ne 1449 dL_law_1435 (by decide) (fun c => absurd c (by decide)) (fun _ => ?_)
  refine e_aload_n dL_law_1438 rfl rfl ?_
  refine e_iconst (nI 0) dL_law_1439 (by decide) ?_
  refine e_laload 0 dL_law_1440 (M2.s 300 rfl) (M2.n (by decide)) rfl (by omega) (by decide) ?_
  refine e_long (vNow (xD x) (iS (xI x)) f w) ((s2.j (fun q => by unfold fRfA at q; omega) 0).trans v1) ?_
  refine e_lload dL_law_1441 rfl ?_
  refine e_lcmp dL_law_1443 ?_
  refine e_if_eq 1449 dL_law_1444 (by decide) (fun _ => ?_) (fun c => absurd (lc_eq.mpr rfl) c)
  refine e_goto 1782 dL_law_1449 (by decide) ?_
  exact h σ2 _ _ _ ((hI.both hI.2.1 s1 c1 s2 r2).le (Nat.le_succ nn))
set_option maxRecDepth 20000 in
theorem c_nowE1 {g : fGP} {d : Nat} {σ : fAH} {Q : fRes → fAH → Prop} {x : fXS} {a b : Int32} {nn ii : Nat} {o5 o6 : Option Value} (hg : gLL g < 2147483648) (hi6 : ii + 6 ≤ gLL g) (hI : fLI g σ x (nn + 1)) (hv1 : ¬ a &&& (nI (mfa (mal (xD x) (iS (xI x))) 12 (dT (xD x) 1) 0 0) ^^^ (-1)) = 0) (ha1 : gxs g (ii + 1) = a) (ha2 : gxs g (ii + 2) = b) (h : ∀ σ' x' o5 o6, fLI g σ' x' nn → fEv g (d + 45) mL_law 1782 [some (.ref fscr), some (.ref 0), some (.ref 89), some (.ref 300), some (.int (nI ii)), o5, o6, none] [] σ' Q) : fEv g (d + 45) mL_law 1385 [some (.ref fscr), some (.ref 0), some (.ref 89), some (.ref 300), some (.int (nI ii)), o5, o6, none] [] σ Q := by
  refine e_aload_n dL_law_1385 rfl rfl ?_
  refine e_aload_n dL_law_1386 rfl rfl ?_
  refine e_iload dL_law_1387 rfl ?_
  refine e_iconst (nI 1) dL_law_1389 (by decide) ?_
  refine e_iadd dL_law_1390 ?_
  refine e_int (nI (ii + 1)) (nI_add ii 1) ?_
  refine e_sld (ii + 1) dL_law_1391 rfl (by omega) hg ?_
  refine e_int (a) ha1 ?_
  refine e_aload_n dL_law_1392 rfl rfl ?_
  refine e_iload dL_law_1393 rfl ?_
  refine e_iconst (nI 2) dL_law_1395 (by decide) ?_
  refine e_iadd dL_law_1396 ?_
  refine e_int (nI (ii + 2)) (nI_add ii 2) ?_
  refine e_sld (ii + 2) dL_law_1397 rfl (by omega) hg ?_
  refine e_int (b) ha2 ?_
  refine e_aload_n dL_law_1398 rfl rfl ?_
  refine e_callS [.ref 0, .int a, .int b, .ref 300] dL_law_1399 cc_L_now lk_RL_170 st_L_now in_RL rfl (Nat.le_of_ble_eq_true rfl) (Nat.le_of_ble_eq_true rfl) ?_
  refine t_L_nowE1 hI.1 hI.2.1 hI.2.2.1 hv1 hI.rm (fK_i ?_)
  show fEv g _ mL_law 1402 [some (.ref fscr), some (.ref 0), some (.ref 89), some (.ref 300), some (.int (nI ii)), o5, o6, none] [.int (nI 1)] (fthr σ) Q
  have hJ := hI.thr
  refine e_istore (L1 := [some (.ref fscr), some (.ref 0), some (.ref 89), some (.ref 300), some (.int (nI ii)), some (.int (nI 1)), o6, none]) dL_law_1402 (by decide) rfl ?_
  refine e_aload_n dL_law_1404 rfl rfl ?_
  refine e_aload_n dL_law_1405 rfl rfl ?_
  refine e_iload dL_law_1406 rfl ?_
  refine e_iconst (nI 1) dL_law_1408 (by decide) ?_
  refine e_iadd dL_law_1409 ?_
  refine e_int (nI (ii + 1)) (nI_add ii 1) ?_
  refine e_sld (ii + 1) dL_law_1410 rfl (by omega) hg ?_
  refine e_int (a) ha1 ?_
  refine e_aload_n dL_law_1411 rfl rfl ?_
  refine e_iload dL_law_1412 rfl ?_
  refine e_iconst (nI 2) dL_law_1414 (by decide) ?_
  refine e_iadd dL_law_1415 ?_
  refine e_int (nI (ii + 2)) (nI_add ii 2) ?_
  refine e_sld (ii + 2) dL_law_1416 rfl (by omega) hg ?_
  refine e_int (b) ha2 ?_
  refine e_callV (k := 89) [.int a, .int b] dL_law_1417 cc_X10_now lk_RL_172 im_X10_now se_X10_now (by decide) (hJ.1.s 89 rfl) (hJ.1.n (by decide)) rfl (Nat.le_of_ble_eq_true rfl) (Nat.le_of_ble_eq_true rfl) ?_
  refine t_X10_nowE1 hJ.1 hJ.2.1 hJ.2.2.2.1 hv1 (fun σ2 s2 r2 z2 => fK_i ?_)
  show fEv g _ mL_law 1420 [some (.ref fscr), some (.ref 0), some (.ref 89), some (.ref 300), some (.int (nI ii)), some (.int (nI 1)), o6, none] [.long 0] σ2 Q
  have M2 := hJ.1.sm s2
  refine e_lstore (L1 := [some (.ref fscr), some (.ref 0), some (.ref 89), some (.ref 300), some (.int (nI ii)), some (.int (nI 1)), some (.long 0), none]) dL_law_1420 (by decide) rfl ?_
  refine e_aload_n dL_law_1422 rfl rfl ?_
  refine e_callV (k := 89) [] dL_law_1423 cc_X10_thrown lk_RL_99 im_X10_thrown se_X10_thrown (by decide) (M2.s 89 rfl) (M2.n (by decide)) rfl (Nat.le_of_ble_eq_true rfl) (Nat.le_of_ble_eq_true rfl) ?_
  refine t_X10_thrown M2 z2 (fK_i ?_)
  show fEv g _ mL_law 1426 [some (.ref fscr), some (.ref 0), some (.ref 89), some (.ref 300), some (.int (nI ii)), some (.int (nI 1)), some (.long 0), none] [.int (nI 1)] σ2 Q
  refine e_iload dL_law_1426 rfl ?_
  refine e_icmp_eq 1433 dL_law_1428 (by decide) (fun _ => ?_) (fun c => absurd c (by decide))
  refine e_iload dL_law_1433 rfl ?_
  refine e_if_ne 1449 dL_law_1435 (by decide) (fun _ => ?_) (fun c => absurd c (by decide))
  refine e_goto 1782 dL_law_1449 (by decide) ?_
  exact h σ2 x _ _ (hJ.sm s2 hI.2.1 (hJ.2.2.1.rf hI.2.1 s2) r2)
set_option maxRecDepth 20000 in
theorem c_nowE2 {g : fGP} {d : Nat} {σ : fAH} {Q : fRes → fAH → Prop} {x : fXS} {f : Nat} {b : Int32} {nn ii : Nat} {o5 o6 : Option Value} (hg : gLL g < 2147483648) (hi6 : ii + 6 ≤ gLL g) (hI : fLI g σ x (nn + 1)) (hf : f < 4096) (hv1 : nI f &&& (nI (mfa (mal (xD x) (iS (xI x))) 12 (dT (xD x) 1) 0 0) ^^^ (-1)) = 0) (hv2 : ¬ mon f 12 0 ≤ dT (xD x) 3) (ha1 : gxs g (ii + 1) = nI f) (ha2 : gxs g (ii + 2) = b) (h : ∀ σ' x' o5 o6, fLI g σ' x' nn → fEv g (d + 45) mL_law 1782 [some (.ref fscr), some (.ref 0), some (.ref 89), some (.ref 300), some (.int (nI ii)), o5, o6, none] [] σ' Q) : fEv g (d + 45) mL_law 1385 [some (.ref fscr), some (.ref 0), some (.ref 89), some (.ref 300), some (.int (nI ii)), o5, o6, none] [] σ Q := by
  refine e_aload_n dL_law_1385 rfl rfl ?_
  refine e_aload_n dL_law_1386 rfl rfl ?_
  refine e_iload dL_law_1387 rfl ?_
  refine e_iconst (nI 1) dL_law_1389 (by decide) ?_
  refine e_iadd dL_law_1390 ?_
  refine e_int (nI (ii + 1)) (nI_add ii 1) ?_
  refine e_sld (ii + 1) dL_law_1391 rfl (by omega) hg ?_
  refine e_int (nI f) ha1 ?_
  refine e_aload_n dL_law_1392 rfl rfl ?_
  refine e_iload dL_law_1393 rfl ?_
  refine e_iconst (nI 2) dL_law_1395 (by decide) ?_
  refine e_iadd dL_law_1396 ?_
  refine e_int (nI (ii + 2)) (nI_add ii 2) ?_
  refine e_sld (ii + 2) dL_law_1397 rfl (by omega) hg ?_
  refine e_int (b) ha2 ?_
  refine e_aload_n dL_law_1398 rfl rfl ?_
  refine e_callS [.ref 0, .int (nI f), .int b, .ref 300] dL_law_1399 cc_L_now lk_RL_170 st_L_now in_RL rfl (Nat.le_of_ble_eq_true rfl) (Nat.le_of_ble_eq_true rfl) ?_
  refine t_L_nowE2 hI.1 hI.2.1 hI.2.2.1 hf hv1 hv2 hI.rm (fK_i ?_)
  show fEv g _ mL_law 1402 [some (.ref fscr), some (.ref 0), some (.ref 89), some (.ref 300), some (.int (nI ii)), o5, o6, none] [.int (nI 1)] (fthr σ) Q
  have hJ := hI.thr
  refine e_istore (L1 := [some (.ref fscr), some (.ref 0), some (.ref 89), some (.ref 300), some (.int (nI ii)), some (.int (nI 1)), o6, none]) dL_law_1402 (by decide) rfl ?_
  refine e_aload_n dL_law_1404 rfl rfl ?_
  refine e_aload_n dL_law_1405 rfl rfl ?_
  refine e_iload dL_law_1406 rfl ?_
  refine e_iconst (nI 1) dL_law_1408 (by decide) ?_
  refine e_iadd dL_law_1409 ?_
  refine e_int (nI (ii + 1)) (nI_add ii 1) ?_
  refine e_sld (ii + 1) dL_law_1410 rfl (by omega) hg ?_
  refine e_int (nI f) ha1 ?_
  refine e_aload_n dL_law_1411 rfl rfl ?_
  refine e_iload dL_law_1412 rfl ?_
  refine e_iconst (nI 2) dL_law_1414 (by decide) ?_
  refine e_iadd dL_law_1415 ?_
  refine e_int (nI (ii + 2)) (nI_add ii 2) ?_
  refine e_sld (ii + 2) dL_law_1416 rfl (by omega) hg ?_
  refine e_int (b) ha2 ?_
  refine e_callV (k := 89) [.int (nI f), .int b] dL_law_1417 cc_X10_now lk_RL_172 im_X10_now se_X10_now (by decide) (hJ.1.s 89 rfl) (hJ.1.n (by decide)) rfl (Nat.le_of_ble_eq_true rfl) (Nat.le_of_ble_eq_true rfl) ?_
  refine t_X10_nowE2 hJ.1 hJ.2.1 hJ.2.2.2.1 hf hv1 hv2 (fun σ2 s2 r2 z2 => fK_i ?_)
  show fEv g _ mL_law 1420 [some (.ref fscr), some (.ref 0), some (.ref 89), some (.ref 300), some (.int (nI ii)), some (.int (nI 1)), o6, none] [.long 0] σ2 Q
  have M2 := hJ.1.sm s2
  refine e_lstore (L1 := [some (.ref fscr), some (.ref 0), some (.ref 89), some (.ref 300), some (.int (nI ii)), some (.int (nI 1)), some (.long 0), none]) dL_law_1420 (by decide) rfl ?_
  refine e_aload_n dL_law_1422 rfl rfl ?_
  refine e_callV (k := 89) [] dL_law_1423 cc_X10_thrown lk_RL_99 im_X10_thrown se_X10_thrown (by decide) (M2.s 89 rfl) (M2.n (by decide)) rfl (Nat.le_of_ble_eq_true rfl) (Nat.le_of_ble_eq_true rfl) ?_
  refine t_X10_thrown M2 z2 (fK_i ?_)
  show fEv g _ mL_law 1426 [some (.ref fscr), some (.ref 0), some (.ref 89), some (.ref 300), some (.int (nI ii)), some (.int (nI 1)), some (.long 0), none] [.int (nI 1)] σ2 Q
  refine e_iload dL_law_1426 rfl ?_
  refine e_icmp_eq 1433 dL_law_1428 (by decide) (fun _ => ?_) (fun c => absurd c (by decide))
  refine e_iload dL_law_1433 rfl ?_
  refine e_if_ne 1449 dL_law_1435 (by decide) (fun _ => ?_) (fun c => absurd c (by decide))
  refine e_goto 1782 dL_law_1449 (by decide) ?_
  exact h σ2 x _ _ (hJ.sm s2 hI.2.1 (hJ.2.2.1.rf hI.2.1 s2) r2)
set_option maxRecDepth 20000 in
theorem c_nowE3 {g : fGP} {d : Nat} {σ : fAH} {Q : fRes → fAH → Prop} {x : fXS} {f : Nat} {b : Int32} {nn ii : Nat} {o5 o6 : Option Value} (hg : gLL g < 2147483648) (hi6 : ii + 6 ≤ gLL g) (hI : fLI g σ x (nn + 1)) (hf : f < 4096) (hv1 : nI f &&& (nI (mfa (mal (xD x) (iS (xI x))) 12 (dT (xD x) 1) 0 0) ^^^ (-1)) = 0) (hv2 : mon f 12 0 ≤ dT (xD x) 3) (hv : ¬ mon f 12 0 ≤ 6) (ha1 : gxs g (ii + 1) = nI f) (ha2 : gxs g (ii + 2) = b) (h : ∀ σ' x' o5 o6, fLI g σ' x' nn → fEv g (d + 45) mL_law 1782 [some (.ref fscr), some (.ref 0), some (.ref 89), some (.ref 300), some (.int (nI ii)), o5, o6, none] [] σ' Q) : fEv g (d + 45) mL_law 1385 [some (.ref fscr), some (.ref 0), some (.ref 89), some (.ref 300), some (.int (nI ii)), o5, o6, none] [] σ Q := by
  refine e_aload_n dL_law_1385 rfl rfl ?_
  refine e_aload_n dL_law_1386 rfl rfl ?_
  refine e_iload dL_law_1387 rfl ?_
  refine e_iconst (nI 1) dL_law_1389 (by decide) ?_
  refine e_iadd dL_law_1390 ?_
  refine e_int (nI (ii + 1)) (nI_add ii 1) ?_
  refine e_sld (ii + 1) dL_law_1391 rfl (by omega) hg ?_
  refine e_int (nI f) ha1 ?_
  refine e_aload_n dL_law_1392 rfl rfl ?_
  refine e_iload dL_law_1393 rfl ?_
  refine e_iconst (nI 2) dL_law_1395 (by decide) ?_
  refine e_iadd dL_law_1396 ?_
  refine e_int (nI (ii + 2)) (nI_add ii 2) ?_
  refine e_sld (ii + 2) dL_law_1397 rfl (by omega) hg ?_
  refine e_int (b) ha2 ?_
  refine e_aload_n dL_law_1398 rfl rfl ?_
  refine e_callS [.ref 0, .int (nI f), .int b, .ref 300] dL_law_1399 cc_L_now lk_RL_170 st_L_now in_RL rfl (Nat.le_of_ble_eq_true rfl) (Nat.le_of_ble_eq_true rfl) ?_
  refine t_L_nowE3 hI.1 hI.2.1 hI.2.2.1 hf hv1 hv2 hv hI.rm (fK_i ?_)
  show fEv g _ mL_law 1402 [some (.ref fscr), some (.ref 0), some (.ref 89), some (.ref 300), some (.int (nI ii)), o5, o6, none] [.int (nI 1)] (fthr σ) Q
  have hJ := hI.thr
  refine e_istore (L1 := [some (.ref fscr), some (.ref 0), some (.ref 89), some (.ref 300), some (.int (nI ii)), some (.int (nI 1)), o6, none]) dL_law_1402 (by decide) rfl ?_
  refine e_aload_n dL_law_1404 rfl rfl ?_
  refine e_aload_n dL_law_1405 rfl rfl ?_
  refine e_iload dL_law_1406 rfl ?_
  refine e_iconst (nI 1) dL_law_1408 (by decide) ?_
  refine e_iadd dL_law_1409 ?_
  refine e_int (nI (ii + 1)) (nI_add ii 1) ?_
  refine e_sld (ii + 1) dL_law_1410 rfl (by omega) hg ?_
  refine e_int (nI f) ha1 ?_
  refine e_aload_n dL_law_1411 rfl rfl ?_
  refine e_iload dL_law_1412 rfl ?_
  refine e_iconst (nI 2) dL_law_1414 (by decide) ?_
  refine e_iadd dL_law_1415 ?_
  refine e_int (nI (ii + 2)) (nI_add ii 2) ?_
  refine e_sld (ii + 2) dL_law_1416 rfl (by omega) hg ?_
  refine e_int (b) ha2 ?_
  refine e_callV (k := 89) [.int (nI f), .int b] dL_law_1417 cc_X10_now lk_RL_172 im_X10_now se_X10_now (by decide) (hJ.1.s 89 rfl) (hJ.1.n (by decide)) rfl (Nat.le_of_ble_eq_true rfl) (Nat.le_of_ble_eq_true rfl) ?_
  refine t_X10_nowE3 hJ.1 hJ.2.1 hJ.2.2.2.1 hf hv1 hv2 hv (fun σ2 s2 r2 z2 => fK_i ?_)
  show fEv g _ mL_law 1420 [some (.ref fscr), some (.ref 0), some (.ref 89), some (.ref 300), some (.int (nI ii)), some (.int (nI 1)), o6, none] [.long 0] σ2 Q
  have M2 := hJ.1.sm s2
  refine e_lstore (L1 := [some (.ref fscr), some (.ref 0), some (.ref 89), some (.ref 300), some (.int (nI ii)), some (.int (nI 1)), some (.long 0), none]) dL_law_1420 (by decide) rfl ?_
  refine e_aload_n dL_law_1422 rfl rfl ?_
  refine e_callV (k := 89) [] dL_law_1423 cc_X10_thrown lk_RL_99 im_X10_thrown se_X10_thrown (by decide) (M2.s 89 rfl) (M2.n (by decide)) rfl (Nat.le_of_ble_eq_true rfl) (Nat.le_of_ble_eq_true rfl) ?_
  refine t_X10_thrown M2 z2 (fK_i ?_)
  show fEv g _ mL_law 1426 [some (.ref fscr), some (.ref 0), some (.ref 89), some (.ref 300), some (.int (nI ii)), some (.int (nI 1)), some (.long 0), none] [.int (nI 1)] σ2 Q
  refine e_iload dL_law_1426 rfl ?_
  refine e_icmp_eq 1433 dL_law_1428 (by decide) (fun _ => ?_) (fun c => absurd c (by decide))
  refine e_iload dL_law_1433 rfl ?_
  refine e_if_ne 1449 dL_law_1435 (by decide) (fun _ => ?_) (fun c => absurd c (by decide))
  refine e_goto 1782 dL_law_1449 (by decide) ?_
  exact h σ2 x _ _ (hJ.sm s2 hI.2.1 (hJ.2.2.1.rf hI.2.1 s2) r2)
set_option maxRecDepth 20000 in
theorem c_nowE4 {g : fGP} {d : Nat} {σ : fAH} {Q : fRes → fAH → Prop} {x : fXS} {f : Nat} {b : Int32} {nn ii : Nat} {o5 o6 : Option Value} (hg : gLL g < 2147483648) (hi6 : ii + 6 ≤ gLL g) (hI : fLI g σ x (nn + 1)) (hf : f < 4096) (hv1 : nI f &&& (nI (mfa (mal (xD x) (iS (xI x))) 12 (dT (xD x) 1) 0 0) ^^^ (-1)) = 0) (hv2 : mon f 12 0 ≤ dT (xD x) 3) (h6 : mon f 12 0 ≤ 6) (hv : ¬ (nI 0 ≤ b ∧ b ≤ nI 1)) (ha1 : gxs g (ii + 1) = nI f) (ha2 : gxs g (ii + 2) = b) (h : ∀ σ' x' o5 o6, fLI g σ' x' nn → fEv g (d + 45) mL_law 1782 [some (.ref fscr), some (.ref 0), some (.ref 89), some (.ref 300), some (.int (nI ii)), o5, o6, none] [] σ' Q) : fEv g (d + 45) mL_law 1385 [some (.ref fscr), some (.ref 0), some (.ref 89), some (.ref 300), some (.int (nI ii)), o5, o6, none] [] σ Q := by
  refine e_aload_n dL_law_1385 rfl rfl ?_
  refine e_aload_n dL_law_1386 rfl rfl ?_
  refine e_iload dL_law_1387 rfl ?_
  refine e_iconst (nI 1) dL_law_1389 (by decide) ?_
  refine e_iadd dL_law_1390 ?_
  refine e_int (nI (ii + 1)) (nI_add ii 1) ?_
  refine e_sld (ii + 1) dL_law_1391 rfl (by omega) hg ?_
  refine e_int (nI f) ha1 ?_
  refine e_aload_n dL_law_1392 rfl rfl ?_
  refine e_iload dL_law_1393 rfl ?_
  refine e_iconst (nI 2) dL_law_1395 (by decide) ?_
  refine e_iadd dL_law_1396 ?_
  refine e_int (nI (ii + 2)) (nI_add ii 2) ?_
  refine e_sld (ii + 2) dL_law_1397 rfl (by omega) hg ?_
  refine e_int (b) ha2 ?_
  refine e_aload_n dL_law_1398 rfl rfl ?_
  refine e_callS [.ref 0, .int (nI f), .int b, .ref 300] dL_law_1399 cc_L_now lk_RL_170 st_L_now in_RL rfl (Nat.le_of_ble_eq_true rfl) (Nat.le_of_ble_eq_true rfl) ?_
  refine t_L_nowE4 hI.1 hI.2.1 hI.2.2.1 hf hv1 hv2 h6 hv hI.rm (fK_i ?_)
  show fEv g _ mL_law 1402 [some (.ref fscr), some (.ref 0), some (.ref 89), some (.ref 300), some (.int (nI ii)), o5, o6, none] [.int (nI 1)] (fthr σ) Q
  have hJ := hI.thr
  refine e_istore (L1 := [some (.ref fscr), some (.ref 0), some (.ref 89), some (.ref 300), some (.int (nI ii)), some (.int (nI 1)), o6, none]) dL_law_1402 (by decide) rfl ?_
  refine e_aload_n dL_law_1404 rfl rfl ?_
  refine e_aload_n dL_law_1405 rfl rfl ?_
  refine e_iload dL_law_1406 rfl ?_
  refine e_iconst (nI 1) dL_law_1408 (by decide) ?_
  refine e_iadd dL_law_1409 ?_
  refine e_int (nI (ii + 1)) (nI_add ii 1) ?_
  refine e_sld (ii + 1) dL_law_1410 rfl (by omega) hg ?_
  refine e_int (nI f) ha1 ?_
  refine e_aload_n dL_law_1411 rfl rfl ?_
  refine e_iload dL_law_1412 rfl ?_
  refine e_iconst (nI 2) dL_law_1414 (by decide) ?_
  refine e_iadd dL_law_1415 ?_
  refine e_int (nI (ii + 2)) (nI_add ii 2) ?_
  refine e_sld (ii + 2) dL_law_1416 rfl (by omega) hg ?_
  refine e_int (b) ha2 ?_
  refine e_callV (k := 89) [.int (nI f), .int b] dL_law_1417 cc_X10_now lk_RL_172 im_X10_now se_X10_now (by decide) (hJ.1.s 89 rfl) (hJ.1.n (by decide)) rfl (Nat.le_of_ble_eq_true rfl) (Nat.le_of_ble_eq_true rfl) ?_
  refine t_X10_nowE4 hJ.1 hJ.2.1 hJ.2.2.2.1 hf hv1 hv2 h6 hv (fun σ2 s2 r2 z2 => fK_i ?_)
  show fEv g _ mL_law 1420 [some (.ref fscr), some (.ref 0), some (.ref 89), some (.ref 300), some (.int (nI ii)), some (.int (nI 1)), o6, none] [.long 0] σ2 Q
  have M2 := hJ.1.sm s2
  refine e_lstore (L1 := [some (.ref fscr), some (.ref 0), some (.ref 89), some (.ref 300), some (.int (nI ii)), some (.int (nI 1)), some (.long 0), none]) dL_law_1420 (by decide) rfl ?_
  refine e_aload_n dL_law_1422 rfl rfl ?_
  refine e_callV (k := 89) [] dL_law_1423 cc_X10_thrown lk_RL_99 im_X10_thrown se_X10_thrown (by decide) (M2.s 89 rfl) (M2.n (by decide)) rfl (Nat.le_of_ble_eq_true rfl) (Nat.le_of_ble_eq_true rfl) ?_
  refine t_X10_thrown M2 z2 (fK_i ?_)
  show fEv g _ mL_law 1426 [some (.ref fscr), some (.ref 0), some (.ref 89), some (.ref 300), some (.int (nI ii)), some (.int (nI 1)), some (.long 0), none] [.int (nI 1)] σ2 Q
  refine e_iload dL_law_1426 rfl ?_
  refine e_icmp_eq 1433 dL_law_1428 (by decide) (fun _ => ?_) (fun c => absurd c (by decide))
  refine e_iload dL_law_1433 rfl ?_
  refine e_if_ne 1449 dL_law_1435 (by decide) (fun _ => ?_) (fun c => absurd c (by decide))
  refine e_goto 1782 dL_law_1449 (by decide) ?_
  exact h σ2 x _ _ (hJ.sm s2 hI.2.1 (hJ.2.2.1.rf hI.2.1 s2) r2)
set_option maxRecDepth 20000 in
theorem c_nowE5 {g : fGP} {d : Nat} {σ : fAH} {Q : fRes → fAH → Prop} {x : fXS} {f w : Nat} {nn ii : Nat} {o5 o6 : Option Value} (hg : gLL g < 2147483648) (hi6 : ii + 6 ≤ gLL g) (hI : fLI g σ x (nn + 1)) (hf : f < 4096) (hv1 : nI f &&& (nI (mfa (mal (xD x) (iS (xI x))) 12 (dT (xD x) 1) 0 0) ^^^ (-1)) = 0) (hv2 : mon f 12 0 ≤ dT (xD x) 3) (h6 : mon f 12 0 ≤ 6) (hw : w ≤ 1) (hn : ¬ (iS (xI x)) 155 < 30) (ha1 : gxs g (ii + 1) = nI f) (ha2 : gxs g (ii + 2) = nI w) (h : ∀ σ' x' o5 o6, fLI g σ' x' nn → fEv g (d + 45) mL_law 1782 [some (.ref fscr), some (.ref 0), some (.ref 89), some (.ref 300), some (.int (nI ii)), o5, o6, none] [] σ' Q) : fEv g (d + 45) mL_law 1385 [some (.ref fscr), some (.ref 0), some (.ref 89), some (.ref 300), some (.int (nI ii)), o5, o6, none] [] σ Q := by
  refine e_aload_n dL_law_1385 rfl rfl ?_
  refine e_aload_n dL_law_1386 rfl rfl ?_
  refine e_iload dL_law_1387 rfl ?_
  refine e_iconst (nI 1) dL_law_1389 (by decide) ?_
  refine e_iadd dL_law_1390 ?_
  refine e_int (nI (ii + 1)) (nI_add ii 1) ?_
  refine e_sld (ii + 1) dL_law_1391 rfl (by omega) hg ?_
  refine e_int (nI f) ha1 ?_
  refine e_aload_n dL_law_1392 rfl rfl ?_
  refine e_iload dL_law_1393 rfl ?_
  refine e_iconst (nI 2) dL_law_1395 (by decide) ?_
  refine e_iadd dL_law_1396 ?_
  refine e_int (nI (ii + 2)) (nI_add ii 2) ?_
  refine e_sld (ii + 2) dL_law_1397 rfl (by omega) hg ?_
  refine e_int (nI w) ha2 ?_
  refine e_aload_n dL_law_1398 rfl rfl ?_
  refine e_callS [.ref 0, .int (nI f), .int (nI w), .ref 300] dL_law_1399 cc_L_now lk_RL_170 st_L_now in_RL rfl (Nat.le_of_ble_eq_true rfl) (Nat.le_of_ble_eq_true rfl) ?_
  refine t_L_nowE5 hI.1 hI.2.1 hI.2.2.1 hf hv1 hv2 h6 hw hn hI.rm (fK_i ?_)
  show fEv g _ mL_law 1402 [some (.ref fscr), some (.ref 0), some (.ref 89), some (.ref 300), some (.int (nI ii)), o5, o6, none] [.int (nI 2)] (fthr σ) Q
  have hJ := hI.thr
  refine e_istore (L1 := [some (.ref fscr), some (.ref 0), some (.ref 89), some (.ref 300), some (.int (nI ii)), some (.int (nI 2)), o6, none]) dL_law_1402 (by decide) rfl ?_
  refine e_aload_n dL_law_1404 rfl rfl ?_
  refine e_aload_n dL_law_1405 rfl rfl ?_
  refine e_iload dL_law_1406 rfl ?_
  refine e_iconst (nI 1) dL_law_1408 (by decide) ?_
  refine e_iadd dL_law_1409 ?_
  refine e_int (nI (ii + 1)) (nI_add ii 1) ?_
  refine e_sld (ii + 1) dL_law_1410 rfl (by omega) hg ?_
  refine e_int (nI f) ha1 ?_
  refine e_aload_n dL_law_1411 rfl rfl ?_
  refine e_iload dL_law_1412 rfl ?_
  refine e_iconst (nI 2) dL_law_1414 (by decide) ?_
  refine e_iadd dL_law_1415 ?_
  refine e_int (nI (ii + 2)) (nI_add ii 2) ?_
  refine e_sld (ii + 2) dL_law_1416 rfl (by omega) hg ?_
  refine e_int (nI w) ha2 ?_
  refine e_callV (k := 89) [.int (nI f), .int (nI w)] dL_law_1417 cc_X10_now lk_RL_172 im_X10_now se_X10_now (by decide) (hJ.1.s 89 rfl) (hJ.1.n (by decide)) rfl (Nat.le_of_ble_eq_true rfl) (Nat.le_of_ble_eq_true rfl) ?_
  refine t_X10_nowE5 hJ.1 hJ.2.1 hJ.2.2.2.1 hf hv1 hv2 h6 hw hn (fun σ2 s2 r2 z2 => fK_i ?_)
  show fEv g _ mL_law 1420 [some (.ref fscr), some (.ref 0), some (.ref 89), some (.ref 300), some (.int (nI ii)), some (.int (nI 2)), o6, none] [.long 0] σ2 Q
  have M2 := hJ.1.sm s2
  refine e_lstore (L1 := [some (.ref fscr), some (.ref 0), some (.ref 89), some (.ref 300), some (.int (nI ii)), some (.int (nI 2)), some (.long 0), none]) dL_law_1420 (by decide) rfl ?_
  refine e_aload_n dL_law_1422 rfl rfl ?_
  refine e_callV (k := 89) [] dL_law_1423 cc_X10_thrown lk_RL_99 im_X10_thrown se_X10_thrown (by decide) (M2.s 89 rfl) (M2.n (by decide)) rfl (Nat.le_of_ble_eq_true rfl) (Nat.le_of_ble_eq_true rfl) ?_
  refine t_X10_thrown M2 z2 (fK_i ?_)
  show fEv g _ mL_law 1426 [some (.ref fscr), some (.ref 0), some (.ref 89), some (.ref 300), some (.int (nI ii)), some (.int (nI 2)), some (.long 0), none] [.int (nI 2)] σ2 Q
  refine e_iload dL_law_1426 rfl ?_
  refine e_icmp_eq 1433 dL_law_1428 (by decide) (fun _ => ?_) (fun c => absurd c (by decide))
  refine e_iload dL_law_1433 rfl ?_
  refine e_if_ne 1449 dL_law_1435 (by decide) (fun _ => ?_) (fun c => absurd c (by decide))
  refine e_goto 1782 dL_law_1449 (by decide) ?_
  exact h σ2 x _ _ (hJ.sm s2 hI.2.1 (hJ.2.2.1.rf hI.2.1 s2) r2)
set_option maxRecDepth 20000 in
theorem c_deeper {g : fGP} {d : Nat} {σ : fAH} {Q : fRes → fAH → Prop} {x : fXS}  {nn ii : Nat} {o5 o6 : Option Value} (hg : gLL g < 2147483648) (hi6 : ii + 6 ≤ gLL g) (hI : fLI g σ x (nn + 1)) (hn : (iS (xI x)) 155 < 30)  (h : ∀ σ' x' o5 o6, fLI g σ' x' nn → fEv g (d + 45) mL_law 1782 [some (.ref fscr), some (.ref 0), some (.ref 89), some (.ref 300), some (.int (nI ii)), o5, o6, none] [] σ' Q) : fEv g (d + 45) mL_law 1452 [some (.ref fscr), some (.ref 0), some (.ref 89), some (.ref 300), some (.int (nI ii)), o5, o6, none] [] σ Q := by
  refine e_aload_n dL_law_1452 rfl rfl ?_
  refine e_aload_n dL_law_1453 rfl rfl ?_
  refine e_callS [.ref 0, .ref 300] dL_law_1454 cc_L_deeper lk_RL_173 st_L_deeper in_RL rfl (Nat.le_of_ble_eq_true rfl) (Nat.le_of_ble_eq_true rfl) ?_
  refine t_L_deeper hI.1 hI.2.1 hI.2.2.1 hn (fun σ1 s1 c1 v1 => fK_i ?_)
  show fEv g _ mL_law 1457 [some (.ref fscr), some (.ref 0), some (.ref 89), some (.ref 300), some (.int (nI ii)), o5, o6, none] [.int (nI 0)] σ1 Q
  have r1 := hI.2.2.2.1.clB hI.2.1 s1
  have M1 := hI.1.sm s1
  refine e_istore (L1 := [some (.ref fscr), some (.ref 0), some (.ref 89), some (.ref 300), some (.int (nI ii)), some (.int (nI 0)), o6, none]) dL_law_1457 (by decide) rfl ?_
  refine e_aload_n dL_law_1459 rfl rfl ?_
  refine e_callV (k := 89) [] dL_law_1460 cc_X10_deeper lk_RL_175 im_X10_deeper se_X10_deeper (by decide) (M1.s 89 rfl) (M1.n (by decide)) rfl (Nat.le_of_ble_eq_true rfl) (Nat.le_of_ble_eq_true rfl) ?_
  refine t_X10_deeper M1 hI.2.1 r1 hn (fun σ2 s2 r2 z2 => fK_i ?_)
  show fEv g _ mL_law 1463 [some (.ref fscr), some (.ref 0), some (.ref 89), some (.ref 300), some (.int (nI ii)), some (.int (nI 0)), o6, none] [.int (mo (mdpr (xD x) (iS (xI x)) (dT (xD x) 1) 0 none none))] σ2 Q
  have M2 := M1.sm s2
  refine e_istore (L1 := [some (.ref fscr), some (.ref 0), some (.ref 89), some (.ref 300), some (.int (nI ii)), some (.int (nI 0)), some (.int (mo (mdpr (xD x) (iS (xI x)) (dT (xD x) 1) 0 none none))), none]) dL_law_1463 (by decide) rfl ?_
  refine e_aload_n dL_law_1465 rfl rfl ?_
  refine e_callV (k := 89) [] dL_law_1466 cc_X10_thrown lk_RL_99 im_X10_thrown se_X10_thrown (by decide) (M2.s 89 rfl) (M2.n (by decide)) rfl (Nat.le_of_ble_eq_true rfl) (Nat.le_of_ble_eq_true rfl) ?_
  refine t_X10_thrown M2 z2 (fK_i ?_)
  show fEv g _ mL_law 1469 [some (.ref fscr), some (.ref 0), some (.ref 89), some (.ref 300), some (.int (nI ii)), some (.int (nI 0)), some (.int (mo (mdpr (xD x) (iS (xI x)) (dT (xD x) 1) 0 none none))), none] [.int (nI 0)] σ2 Q
  refine e_iload dL_law_1469 rfl ?_
  refine e_icmp_eq 1476 dL_law_1471 (by decide) (fun _ => ?_) (fun c => absurd c (by decide))
  refine e_iload dL_law_1476 rfl ?_
  refine e_if_ne 1493 dL_law_1478 (by decide) (fun c => absurd c (by decide)) (fun _ => ?_)
  refine e_aload_n dL_law_1481 rfl rfl ?_
  refine e_iconst (nI 0) dL_law_1482 (by decide) ?_
  refine e_laload 0 dL_law_1483 (M2.s 300 rfl) (M2.n (by decide)) rfl (by omega) (by decide) ?_
  refine e_long (((mo (mdpr (xD x) (iS (xI x)) (dT (xD x) 1) 0 none none) : Int32)).toInt64) ((s2.j (fun q => by unfold fRfA at q; omega) 0).trans v1) ?_
  refine e_iload dL_law_1484 rfl ?_
  refine e_i2l dL_law_1486 ?_
  refine e_lcmp dL_law_1487 ?_
  refine e_if_eq 1493 dL_law_1488 (by decide) (fun _ => ?_) (fun c => absurd (lc_eq.mpr rfl) c)
  refine e_goto 1782 dL_law_1493 (by decide) ?_
  exact h σ2 _ _ _ ((hI.both hI.2.1 s1 c1 s2 r2).le (Nat.le_succ nn))
set_option maxRecDepth 20000 in
theorem c_deeperE {g : fGP} {d : Nat} {σ : fAH} {Q : fRes → fAH → Prop} {x : fXS}  {nn ii : Nat} {o5 o6 : Option Value} (hg : gLL g < 2147483648) (hi6 : ii + 6 ≤ gLL g) (hI : fLI g σ x (nn + 1)) (hn : ¬ (iS (xI x)) 155 < 30)  (h : ∀ σ' x' o5 o6, fLI g σ' x' nn → fEv g (d + 45) mL_law 1782 [some (.ref fscr), some (.ref 0), some (.ref 89), some (.ref 300), some (.int (nI ii)), o5, o6, none] [] σ' Q) : fEv g (d + 45) mL_law 1452 [some (.ref fscr), some (.ref 0), some (.ref 89), some (.ref 300), some (.int (nI ii)), o5, o6, none] [] σ Q := by
  refine e_aload_n dL_law_1452 rfl rfl ?_
  refine e_aload_n dL_law_1453 rfl rfl ?_
  refine e_callS [.ref 0, .ref 300] dL_law_1454 cc_L_deeper lk_RL_173 st_L_deeper in_RL rfl (Nat.le_of_ble_eq_true rfl) (Nat.le_of_ble_eq_true rfl) ?_
  refine t_L_deeperE hI.1 hI.2.1 hI.2.2.1 hn hI.rm (fK_i ?_)
  show fEv g _ mL_law 1457 [some (.ref fscr), some (.ref 0), some (.ref 89), some (.ref 300), some (.int (nI ii)), o5, o6, none] [.int (nI 1)] (fthr σ) Q
  have hJ := hI.thr
  refine e_istore (L1 := [some (.ref fscr), some (.ref 0), some (.ref 89), some (.ref 300), some (.int (nI ii)), some (.int (nI 1)), o6, none]) dL_law_1457 (by decide) rfl ?_
  refine e_aload_n dL_law_1459 rfl rfl ?_
  refine e_callV (k := 89) [] dL_law_1460 cc_X10_deeper lk_RL_175 im_X10_deeper se_X10_deeper (by decide) (hJ.1.s 89 rfl) (hJ.1.n (by decide)) rfl (Nat.le_of_ble_eq_true rfl) (Nat.le_of_ble_eq_true rfl) ?_
  refine t_X10_deeperE hJ.1 hJ.2.1 hJ.2.2.2.1 hn (fun σ2 s2 r2 z2 => fK_i ?_)
  show fEv g _ mL_law 1463 [some (.ref fscr), some (.ref 0), some (.ref 89), some (.ref 300), some (.int (nI ii)), some (.int (nI 1)), o6, none] [.int (nI 0)] σ2 Q
  have M2 := hJ.1.sm s2
  refine e_istore (L1 := [some (.ref fscr), some (.ref 0), some (.ref 89), some (.ref 300), some (.int (nI ii)), some (.int (nI 1)), some (.int (nI 0)), none]) dL_law_1463 (by decide) rfl ?_
  refine e_aload_n dL_law_1465 rfl rfl ?_
  refine e_callV (k := 89) [] dL_law_1466 cc_X10_thrown lk_RL_99 im_X10_thrown se_X10_thrown (by decide) (M2.s 89 rfl) (M2.n (by decide)) rfl (Nat.le_of_ble_eq_true rfl) (Nat.le_of_ble_eq_true rfl) ?_
  refine t_X10_thrown M2 z2 (fK_i ?_)
  show fEv g _ mL_law 1469 [some (.ref fscr), some (.ref 0), some (.ref 89), some (.ref 300), some (.int (nI ii)), some (.int (nI 1)), some (.int (nI 0)), none] [.int (nI 1)] σ2 Q
  refine e_iload dL_law_1469 rfl ?_
  refine e_icmp_eq 1476 dL_law_1471 (by decide) (fun _ => ?_) (fun c => absurd c (by decide))
  refine e_iload dL_law_1476 rfl ?_
  refine e_if_ne 1493 dL_law_1478 (by decide) (fun _ => ?_) (fun c => absurd c (by decide))
  refine e_goto 1782 dL_law_1493 (by decide) ?_
  exact h σ2 x _ _ (hJ.sm s2 hI.2.1 (hJ.2.2.1.rf hI.2.1 s2) r2)
set_option maxRecDepth 20000 in
theorem c_thumb00 {g : fGP} {d : Nat} {σ : fAH} {Q : fRes → fAH → Prop} {x : fXS}  {nn ii : Nat} {o5 o6 : Option Value} (hg : gLL g < 2147483648) (hi6 : ii + 6 ≤ gLL g) (hI : fLI g σ x (nn + 1)) (hs : 0 ≤ 1) (hc : 0 ≤ 1) (hr9 : irn (xI x) < 60) (ha1 : gxs g (ii + 1) = 0) (ha2 : gxs g (ii + 2) = 0) (h : ∀ σ' x' o5 o6, fLI g σ' x' nn → fEv g (d + 45) mL_law 1782 [some (.ref fscr), some (.ref 0), some (.ref 89), some (.ref 300), some (.int (nI ii)), o5, o6, none] [] σ' Q) : fEv g (d + 45) mL_law 1496 [some (.ref fscr), some (.ref 0), some (.ref 89), some (.ref 300), some (.int (nI ii)), o5, o6, none] [] σ Q := by
  have okx : fOK ((xD x, (iS (xI x), iT (xI x), iq (xI x), ipn (xI x), iP (xI x), irn (xI x) + 1, mup (iR (xI x)) (irn (xI x)) (2 * 0 + 0)), xB x, xt x, xp x, xm x, xM x)) := (hI.2.1.thumb (by omega) hr9)
  refine e_aload_n dL_law_1496 rfl rfl ?_
  refine e_aload_n dL_law_1497 rfl rfl ?_
  refine e_iload dL_law_1498 rfl ?_
  refine e_iconst (nI 1) dL_law_1500 (by decide) ?_
  refine e_iadd dL_law_1501 ?_
  refine e_int (nI (ii + 1)) (nI_add ii 1) ?_
  refine e_sld (ii + 1) dL_law_1502 rfl (by omega) hg ?_
  refine e_if_eq 1510 dL_law_1503 (by decide) (fun _ => ?_) (fun c => absurd ha1 c)
  refine e_iconst (nI 0) dL_law_1510 (by decide) ?_
  refine e_aload_n dL_law_1511 rfl rfl ?_
  refine e_iload dL_law_1512 rfl ?_
  refine e_iconst (nI 2) dL_law_1514 (by decide) ?_
  refine e_iadd dL_law_1515 ?_
  refine e_int (nI (ii + 2)) (nI_add ii 2) ?_
  refine e_sld (ii + 2) dL_law_1516 rfl (by omega) hg ?_
  refine e_if_eq 1524 dL_law_1517 (by decide) (fun _ => ?_) (fun c => absurd ha2 c)
  refine e_iconst (nI 0) dL_law_1524 (by decide) ?_
  refine e_callV (k := 0) [.int (nI 0), .int (nI 0)] dL_law_1525 cc_X9_thumb lk_RL_176 im_X9_thumb se_X9_thumb (by decide) (hI.1.s 0 rfl) (hI.1.n (by decide)) rfl (Nat.le_of_ble_eq_true rfl) (Nat.le_of_ble_eq_true rfl) ?_
  refine t_X9_thumb hI.1 hI.2.1 hI.2.2.1 hs hc hr9 (fun σ1 s0 c1 => fK_i ?_)
  show fEv g _ mL_law 1528 [some (.ref fscr), some (.ref 0), some (.ref 89), some (.ref 300), some (.int (nI ii)), o5, o6, none] [.int (nI (irn (xI x) + 1))] σ1 Q
  have s1 : fSm fClB σ σ1 := s0.to (fun a (q : a < 89) => Or.inl q)
  have r1 := hI.2.2.2.1.clB hI.2.1 s1
  have M1 := hI.1.sm s1
  refine e_aload_n dL_law_1528 rfl rfl ?_
  refine e_aload_n dL_law_1529 rfl rfl ?_
  refine e_iload dL_law_1530 rfl ?_
  refine e_iconst (nI 1) dL_law_1532 (by decide) ?_
  refine e_iadd dL_law_1533 ?_
  refine e_int (nI (ii + 1)) (nI_add ii 1) ?_
  refine e_sld (ii + 1) dL_law_1534 rfl (by omega) hg ?_
  refine e_if_eq 1542 dL_law_1535 (by decide) (fun _ => ?_) (fun c => absurd ha1 c)
  refine e_iconst (nI 0) dL_law_1542 (by decide) ?_
  refine e_aload_n dL_law_1543 rfl rfl ?_
  refine e_iload dL_law_1544 rfl ?_
  refine e_iconst (nI 2) dL_law_1546 (by decide) ?_
  refine e_iadd dL_law_1547 ?_
  refine e_int (nI (ii + 2)) (nI_add ii 2) ?_
  refine e_sld (ii + 2) dL_law_1548 rfl (by omega) hg ?_
  refine e_if_eq 1556 dL_law_1549 (by decide) (fun _ => ?_) (fun c => absurd ha2 c)
  refine e_iconst (nI 0) dL_law_1556 (by decide) ?_
  refine e_callV (k := 89) [.int (nI 0), .int (nI 0)] dL_law_1557 cc_X10_thumb lk_RL_180 im_X10_thumb se_X10_thumb (by decide) (M1.s 89 rfl) (M1.n (by decide)) rfl (Nat.le_of_ble_eq_true rfl) (Nat.le_of_ble_eq_true rfl) ?_
  refine t_X10_thumb M1 hI.2.1 r1 hs hc hr9 (fun σ2 s2 r2 z2 => fK_i ?_)
  show fEv g _ mL_law 1560 [some (.ref fscr), some (.ref 0), some (.ref 89), some (.ref 300), some (.int (nI ii)), o5, o6, none] [.int (nI (irn (xI x) + 1)), .int (nI (irn (xI x) + 1))] σ2 Q
  have M2 := M1.sm s2
  refine e_icmp_eq 1782 dL_law_1560 (by decide) (fun _ => ?_) (fun c => absurd rfl c)
  exact h σ2 _ _ _ ((hI.both okx s1 c1 s2 r2).le (Nat.le_succ nn))
set_option maxRecDepth 20000 in
theorem c_thumb01 {g : fGP} {d : Nat} {σ : fAH} {Q : fRes → fAH → Prop} {x : fXS}  {nn ii : Nat} {o5 o6 : Option Value} (hg : gLL g < 2147483648) (hi6 : ii + 6 ≤ gLL g) (hI : fLI g σ x (nn + 1)) (hs : 0 ≤ 1) (hc : 1 ≤ 1) (hr9 : irn (xI x) < 60) (ha1 : gxs g (ii + 1) = 0) (ha2 : ¬ gxs g (ii + 2) = 0) (h : ∀ σ' x' o5 o6, fLI g σ' x' nn → fEv g (d + 45) mL_law 1782 [some (.ref fscr), some (.ref 0), some (.ref 89), some (.ref 300), some (.int (nI ii)), o5, o6, none] [] σ' Q) : fEv g (d + 45) mL_law 1496 [some (.ref fscr), some (.ref 0), some (.ref 89), some (.ref 300), some (.int (nI ii)), o5, o6, none] [] σ Q := by
  have okx : fOK ((xD x, (iS (xI x), iT (xI x), iq (xI x), ipn (xI x), iP (xI x), irn (xI x) + 1, mup (iR (xI x)) (irn (xI x)) (2 * 0 + 1)), xB x, xt x, xp x, xm x, xM x)) := (hI.2.1.thumb (by omega) hr9)
  refine e_aload_n dL_law_1496 rfl rfl ?_
  refine e_aload_n dL_law_1497 rfl rfl ?_
  refine e_iload dL_law_1498 rfl ?_
  refine e_iconst (nI 1) dL_law_1500 (by decide) ?_
  refine e_iadd dL_law_1501 ?_
  refine e_int (nI (ii + 1)) (nI_add ii 1) ?_
  refine e_sld (ii + 1) dL_law_1502 rfl (by omega) hg ?_
  refine e_if_eq 1510 dL_law_1503 (by decide) (fun _ => ?_) (fun c => absurd ha1 c)
  refine e_iconst (nI 0) dL_law_1510 (by decide) ?_
  refine e_aload_n dL_law_1511 rfl rfl ?_
  refine e_iload dL_law_1512 rfl ?_
  refine e_iconst (nI 2) dL_law_1514 (by decide) ?_
  refine e_iadd dL_law_1515 ?_
  refine e_int (nI (ii + 2)) (nI_add ii 2) ?_
  refine e_sld (ii + 2) dL_law_1516 rfl (by omega) hg ?_
  refine e_if_eq 1524 dL_law_1517 (by decide) (fun c => absurd c ha2) (fun _ => ?_)
  refine e_iconst (nI 1) dL_law_1520 (by decide) ?_
  refine e_goto 1525 dL_law_1521 (by decide) ?_
  refine e_callV (k := 0) [.int (nI 0), .int (nI 1)] dL_law_1525 cc_X9_thumb lk_RL_176 im_X9_thumb se_X9_thumb (by decide) (hI.1.s 0 rfl) (hI.1.n (by decide)) rfl (Nat.le_of_ble_eq_true rfl) (Nat.le_of_ble_eq_true rfl) ?_
  refine t_X9_thumb hI.1 hI.2.1 hI.2.2.1 hs hc hr9 (fun σ1 s0 c1 => fK_i ?_)
  show fEv g _ mL_law 1528 [some (.ref fscr), some (.ref 0), some (.ref 89), some (.ref 300), some (.int (nI ii)), o5, o6, none] [.int (nI (irn (xI x) + 1))] σ1 Q
  have s1 : fSm fClB σ σ1 := s0.to (fun a (q : a < 89) => Or.inl q)
  have r1 := hI.2.2.2.1.clB hI.2.1 s1
  have M1 := hI.1.sm s1
  refine e_aload_n dL_law_1528 rfl rfl ?_
  refine e_aload_n dL_law_1529 rfl rfl ?_
  refine e_iload dL_law_1530 rfl ?_
  refine e_iconst (nI 1) dL_law_1532 (by decide) ?_
  refine e_iadd dL_law_1533 ?_
  refine e_int (nI (ii + 1)) (nI_add ii 1) ?_
  refine e_sld (ii + 1) dL_law_1534 rfl (by omega) hg ?_
  refine e_if_eq 1542 dL_law_1535 (by decide) (fun _ => ?_) (fun c => absurd ha1 c)
  refine e_iconst (nI 0) dL_law_1542 (by decide) ?_
  refine e_aload_n dL_law_1543 rfl rfl ?_
  refine e_iload dL_law_1544 rfl ?_
  refine e_iconst (nI 2) dL_law_1546 (by decide) ?_
  refine e_iadd dL_law_1547 ?_
  refine e_int (nI (ii + 2)) (nI_add ii 2) ?_
  refine e_sld (ii + 2) dL_law_1548 rfl (by omega) hg ?_
  refine e_if_eq 1556 dL_law_1549 (by decide) (fun c => absurd c ha2) (fun _ => ?_)
  refine e_iconst (nI 1) dL_law_1552 (by decide) ?_
  refine e_goto 1557 dL_law_1553 (by decide) ?_
  refine e_callV (k := 89) [.int (nI 0), .int (nI 1)] dL_law_1557 cc_X10_thumb lk_RL_180 im_X10_thumb se_X10_thumb (by decide) (M1.s 89 rfl) (M1.n (by decide)) rfl (Nat.le_of_ble_eq_true rfl) (Nat.le_of_ble_eq_true rfl) ?_
  refine t_X10_thumb M1 hI.2.1 r1 hs hc hr9 (fun σ2 s2 r2 z2 => fK_i ?_)
  show fEv g _ mL_law 1560 [some (.ref fscr), some (.ref 0), some (.ref 89), some (.ref 300), some (.int (nI ii)), o5, o6, none] [.int (nI (irn (xI x) + 1)), .int (nI (irn (xI x) + 1))] σ2 Q
  have M2 := M1.sm s2
  refine e_icmp_eq 1782 dL_law_1560 (by decide) (fun _ => ?_) (fun c => absurd rfl c)
  exact h σ2 _ _ _ ((hI.both okx s1 c1 s2 r2).le (Nat.le_succ nn))
set_option maxRecDepth 20000 in
theorem c_thumb10 {g : fGP} {d : Nat} {σ : fAH} {Q : fRes → fAH → Prop} {x : fXS}  {nn ii : Nat} {o5 o6 : Option Value} (hg : gLL g < 2147483648) (hi6 : ii + 6 ≤ gLL g) (hI : fLI g σ x (nn + 1)) (hs : 1 ≤ 1) (hc : 0 ≤ 1) (hr9 : irn (xI x) < 60) (ha1 : ¬ gxs g (ii + 1) = 0) (ha2 : gxs g (ii + 2) = 0) (h : ∀ σ' x' o5 o6, fLI g σ' x' nn → fEv g (d + 45) mL_law 1782 [some (.ref fscr), some (.ref 0), some (.ref 89), some (.ref 300), some (.int (nI ii)), o5, o6, none] [] σ' Q) : fEv g (d + 45) mL_law 1496 [some (.ref fscr), some (.ref 0), some (.ref 89), some (.ref 300), some (.int (nI ii)), o5, o6, none] [] σ Q := by
  have okx : fOK ((xD x, (iS (xI x), iT (xI x), iq (xI x), ipn (xI x), iP (xI x), irn (xI x) + 1, mup (iR (xI x)) (irn (xI x)) (2 * 1 + 0)), xB x, xt x, xp x, xm x, xM x)) := (hI.2.1.thumb (by omega) hr9)
  refine e_aload_n dL_law_1496 rfl rfl ?_
  refine e_aload_n dL_law_1497 rfl rfl ?_
  refine e_iload dL_law_1498 rfl ?_
  refine e_iconst (nI 1) dL_law_1500 (by decide) ?_
  refine e_iadd dL_law_1501 ?_
  refine e_int (nI (ii + 1)) (nI_add ii 1) ?_
  refine e_sld (ii + 1) dL_law_1502 rfl (by omega) hg ?_
  refine e_if_eq 1510 dL_law_1503 (by decide) (fun c => absurd c ha1) (fun _ => ?_)
  refine e_iconst (nI 1) dL_law_1506 (by decide) ?_
  refine e_goto 1511 dL_law_1507 (by decide) ?_
  refine e_aload_n dL_law_1511 rfl rfl ?_
  refine e_iload dL_law_1512 rfl ?_
  refine e_iconst (nI 2) dL_law_1514 (by decide) ?_
  refine e_iadd dL_law_1515 ?_
  refine e_int (nI (ii + 2)) (nI_add ii 2) ?_
  refine e_sld (ii + 2) dL_law_1516 rfl (by omega) hg ?_
  refine e_if_eq 1524 dL_law_1517 (by decide) (fun _ => ?_) (fun c => absurd ha2 c)
  refine e_iconst (nI 0) dL_law_1524 (by decide) ?_
  refine e_callV (k := 0) [.int (nI 1), .int (nI 0)] dL_law_1525 cc_X9_thumb lk_RL_176 im_X9_thumb se_X9_thumb (by decide) (hI.1.s 0 rfl) (hI.1.n (by decide)) rfl (Nat.le_of_ble_eq_true rfl) (Nat.le_of_ble_eq_true rfl) ?_
  refine t_X9_thumb hI.1 hI.2.1 hI.2.2.1 hs hc hr9 (fun σ1 s0 c1 => fK_i ?_)
  show fEv g _ mL_law 1528 [some (.ref fscr), some (.ref 0), some (.ref 89), some (.ref 300), some (.int (nI ii)), o5, o6, none] [.int (nI (irn (xI x) + 1))] σ1 Q
  have s1 : fSm fClB σ σ1 := s0.to (fun a (q : a < 89) => Or.inl q)
  have r1 := hI.2.2.2.1.clB hI.2.1 s1
  have M1 := hI.1.sm s1
  refine e_aload_n dL_law_1528 rfl rfl ?_
  refine e_aload_n dL_law_1529 rfl rfl ?_
  refine e_iload dL_law_1530 rfl ?_
  refine e_iconst (nI 1) dL_law_1532 (by decide) ?_
  refine e_iadd dL_law_1533 ?_
  refine e_int (nI (ii + 1)) (nI_add ii 1) ?_
  refine e_sld (ii + 1) dL_law_1534 rfl (by omega) hg ?_
  refine e_if_eq 1542 dL_law_1535 (by decide) (fun c => absurd c ha1) (fun _ => ?_)
  refine e_iconst (nI 1) dL_law_1538 (by decide) ?_
  refine e_goto 1543 dL_law_1539 (by decide) ?_
  refine e_aload_n dL_law_1543 rfl rfl ?_
  refine e_iload dL_law_1544 rfl ?_
  refine e_iconst (nI 2) dL_law_1546 (by decide) ?_
  refine e_iadd dL_law_1547 ?_
  refine e_int (nI (ii + 2)) (nI_add ii 2) ?_
  refine e_sld (ii + 2) dL_law_1548 rfl (by omega) hg ?_
  refine e_if_eq 1556 dL_law_1549 (by decide) (fun _ => ?_) (fun c => absurd ha2 c)
  refine e_iconst (nI 0) dL_law_1556 (by decide) ?_
  refine e_callV (k := 89) [.int (nI 1), .int (nI 0)] dL_law_1557 cc_X10_thumb lk_RL_180 im_X10_thumb se_X10_thumb (by decide) (M1.s 89 rfl) (M1.n (by decide)) rfl (Nat.le_of_ble_eq_true rfl) (Nat.le_of_ble_eq_true rfl) ?_
  refine t_X10_thumb M1 hI.2.1 r1 hs hc hr9 (fun σ2 s2 r2 z2 => fK_i ?_)
  show fEv g _ mL_law 1560 [some (.ref fscr), some (.ref 0), some (.ref 89), some (.ref 300), some (.int (nI ii)), o5, o6, none] [.int (nI (irn (xI x) + 1)), .int (nI (irn (xI x) + 1))] σ2 Q
  have M2 := M1.sm s2
  refine e_icmp_eq 1782 dL_law_1560 (by decide) (fun _ => ?_) (fun c => absurd rfl c)
  exact h σ2 _ _ _ ((hI.both okx s1 c1 s2 r2).le (Nat.le_succ nn))
set_option maxRecDepth 20000 in
theorem c_thumb11 {g : fGP} {d : Nat} {σ : fAH} {Q : fRes → fAH → Prop} {x : fXS}  {nn ii : Nat} {o5 o6 : Option Value} (hg : gLL g < 2147483648) (hi6 : ii + 6 ≤ gLL g) (hI : fLI g σ x (nn + 1)) (hs : 1 ≤ 1) (hc : 1 ≤ 1) (hr9 : irn (xI x) < 60) (ha1 : ¬ gxs g (ii + 1) = 0) (ha2 : ¬ gxs g (ii + 2) = 0) (h : ∀ σ' x' o5 o6, fLI g σ' x' nn → fEv g (d + 45) mL_law 1782 [some (.ref fscr), some (.ref 0), some (.ref 89), some (.ref 300), some (.int (nI ii)), o5, o6, none] [] σ' Q) : fEv g (d + 45) mL_law 1496 [some (.ref fscr), some (.ref 0), some (.ref 89), some (.ref 300), some (.int (nI ii)), o5, o6, none] [] σ Q := by
  have okx : fOK ((xD x, (iS (xI x), iT (xI x), iq (xI x), ipn (xI x), iP (xI x), irn (xI x) + 1, mup (iR (xI x)) (irn (xI x)) (2 * 1 + 1)), xB x, xt x, xp x, xm x, xM x)) := (hI.2.1.thumb (by omega) hr9)
  refine e_aload_n dL_law_1496 rfl rfl ?_
  refine e_aload_n dL_law_1497 rfl rfl ?_
  refine e_iload dL_law_1498 rfl ?_
  refine e_iconst (nI 1) dL_law_1500 (by decide) ?_
  refine e_iadd dL_law_1501 ?_
  refine e_int (nI (ii + 1)) (nI_add ii 1) ?_
  refine e_sld (ii + 1) dL_law_1502 rfl (by omega) hg ?_
  refine e_if_eq 1510 dL_law_1503 (by decide) (fun c => absurd c ha1) (fun _ => ?_)
  refine e_iconst (nI 1) dL_law_1506 (by decide) ?_
  refine e_goto 1511 dL_law_1507 (by decide) ?_
  refine e_aload_n dL_law_1511 rfl rfl ?_
  refine e_iload dL_law_1512 rfl ?_
  refine e_iconst (nI 2) dL_law_1514 (by decide) ?_
  refine e_iadd dL_law_1515 ?_
  refine e_int (nI (ii + 2)) (nI_add ii 2) ?_
  refine e_sld (ii + 2) dL_law_1516 rfl (by omega) hg ?_
  refine e_if_eq 1524 dL_law_1517 (by decide) (fun c => absurd c ha2) (fun _ => ?_)
  refine e_iconst (nI 1) dL_law_1520 (by decide) ?_
  refine e_goto 1525 dL_law_1521 (by decide) ?_
  refine e_callV (k := 0) [.int (nI 1), .int (nI 1)] dL_law_1525 cc_X9_thumb lk_RL_176 im_X9_thumb se_X9_thumb (by decide) (hI.1.s 0 rfl) (hI.1.n (by decide)) rfl (Nat.le_of_ble_eq_true rfl) (Nat.le_of_ble_eq_true rfl) ?_
  refine t_X9_thumb hI.1 hI.2.1 hI.2.2.1 hs hc hr9 (fun σ1 s0 c1 => fK_i ?_)
  show fEv g _ mL_law 1528 [some (.ref fscr), some (.ref 0), some (.ref 89), some (.ref 300), some (.int (nI ii)), o5, o6, none] [.int (nI (irn (xI x) + 1))] σ1 Q
  have s1 : fSm fClB σ σ1 := s0.to (fun a (q : a < 89) => Or.inl q)
  have r1 := hI.2.2.2.1.clB hI.2.1 s1
  have M1 := hI.1.sm s1
  refine e_aload_n dL_law_1528 rfl rfl ?_
  refine e_aload_n dL_law_1529 rfl rfl ?_
  refine e_iload dL_law_1530 rfl ?_
  refine e_iconst (nI 1) dL_law_1532 (by decide) ?_
  refine e_iadd dL_law_1533 ?_
  refine e_int (nI (ii + 1)) (nI_add ii 1) ?_
  refine e_sld (ii + 1) dL_law_1534 rfl (by omega) hg ?_
  refine e_if_eq 1542 dL_law_1535 (by decide) (fun c => absurd c ha1) (fun _ => ?_)
  refine e_iconst (nI 1) dL_law_1538 (by decide) ?_
  refine e_goto 1543 dL_law_1539 (by decide) ?_
  refine e_aload_n dL_law_1543 rfl rfl ?_
  refine e_iload dL_law_1544 rfl ?_
  refine e_iconst (nI 2) dL_law_1546 (by decide) ?_
  refine e_iadd dL_law_1547 ?_
  refine e_int (nI (ii + 2)) (nI_add ii 2) ?_
  refine e_sld (ii + 2) dL_law_1548 rfl (by omega) hg ?_
  refine e_if_eq 1556 dL_law_1549 (by decide) (fun c => absurd c ha2) (fun _ => ?_)
  refine e_iconst (nI 1) dL_law_1552 (by decide) ?_
  refine e_goto 1557 dL_law_1553 (by decide) ?_
  refine e_callV (k := 89) [.int (nI 1), .int (nI 1)] dL_law_1557 cc_X10_thumb lk_RL_180 im_X10_thumb se_X10_thumb (by decide) (M1.s 89 rfl) (M1.n (by decide)) rfl (Nat.le_of_ble_eq_true rfl) (Nat.le_of_ble_eq_true rfl) ?_
  refine t_X10_thumb M1 hI.2.1 r1 hs hc hr9 (fun σ2 s2 r2 z2 => fK_i ?_)
  show fEv g _ mL_law 1560 [some (.ref fscr), some (.ref 0), some (.ref 89), some (.ref 300), some (.int (nI ii)), o5, o6, none] [.int (nI (irn (xI x) + 1)), .int (nI (irn (xI x) + 1))] σ2 Q
  have M2 := M1.sm s2
  refine e_icmp_eq 1782 dL_law_1560 (by decide) (fun _ => ?_) (fun c => absurd rfl c)
  exact h σ2 _ _ _ ((hI.both okx s1 c1 s2 r2).le (Nat.le_succ nn))
set_option maxRecDepth 20000 in
theorem c_thumbN00 {g : fGP} {d : Nat} {σ : fAH} {Q : fRes → fAH → Prop} {x : fXS}  {nn ii : Nat} {o5 o6 : Option Value} (hg : gLL g < 2147483648) (hi6 : ii + 6 ≤ gLL g) (hI : fLI g σ x (nn + 1)) (hr9 : irn (xI x) = 60) (ha1 : gxs g (ii + 1) = 0) (ha2 : gxs g (ii + 2) = 0) (h : ∀ σ' x' o5 o6, fLI g σ' x' nn → fEv g (d + 45) mL_law 1782 [some (.ref fscr), some (.ref 0), some (.ref 89), some (.ref 300), some (.int (nI ii)), o5, o6, none] [] σ' Q) : fEv g (d + 45) mL_law 1496 [some (.ref fscr), some (.ref 0), some (.ref 89), some (.ref 300), some (.int (nI ii)), o5, o6, none] [] σ Q := by
  refine e_aload_n dL_law_1496 rfl rfl ?_
  refine e_aload_n dL_law_1497 rfl rfl ?_
  refine e_iload dL_law_1498 rfl ?_
  refine e_iconst (nI 1) dL_law_1500 (by decide) ?_
  refine e_iadd dL_law_1501 ?_
  refine e_int (nI (ii + 1)) (nI_add ii 1) ?_
  refine e_sld (ii + 1) dL_law_1502 rfl (by omega) hg ?_
  refine e_if_eq 1510 dL_law_1503 (by decide) (fun _ => ?_) (fun c => absurd ha1 c)
  refine e_iconst (nI 0) dL_law_1510 (by decide) ?_
  refine e_aload_n dL_law_1511 rfl rfl ?_
  refine e_iload dL_law_1512 rfl ?_
  refine e_iconst (nI 2) dL_law_1514 (by decide) ?_
  refine e_iadd dL_law_1515 ?_
  refine e_int (nI (ii + 2)) (nI_add ii 2) ?_
  refine e_sld (ii + 2) dL_law_1516 rfl (by omega) hg ?_
  refine e_if_eq 1524 dL_law_1517 (by decide) (fun _ => ?_) (fun c => absurd ha2 c)
  refine e_iconst (nI 0) dL_law_1524 (by decide) ?_
  refine e_callV (k := 0) [.int (nI 0), .int (nI 0)] dL_law_1525 cc_X9_thumb lk_RL_176 im_X9_thumb se_X9_thumb (by decide) (hI.1.s 0 rfl) (hI.1.n (by decide)) rfl (Nat.le_of_ble_eq_true rfl) (Nat.le_of_ble_eq_true rfl) ?_
  refine t_X9_thumbN hI.1 hI.2.1 hI.2.2.1 hr9 (fK_i ?_)
  show fEv g _ mL_law 1528 [some (.ref fscr), some (.ref 0), some (.ref 89), some (.ref 300), some (.int (nI ii)), o5, o6, none] [.int ((-1))] σ Q
  have r1 := hI.2.2.2.1
  have M1 := hI.1
  have s1 : fSm fClB σ σ := ⟨rfl, rfl, fun _ _ => ⟨rfl, rfl⟩⟩
  have c1 := hI.2.2.1
  refine e_aload_n dL_law_1528 rfl rfl ?_
  refine e_aload_n dL_law_1529 rfl rfl ?_
  refine e_iload dL_law_1530 rfl ?_
  refine e_iconst (nI 1) dL_law_1532 (by decide) ?_
  refine e_iadd dL_law_1533 ?_
  refine e_int (nI (ii + 1)) (nI_add ii 1) ?_
  refine e_sld (ii + 1) dL_law_1534 rfl (by omega) hg ?_
  refine e_if_eq 1542 dL_law_1535 (by decide) (fun _ => ?_) (fun c => absurd ha1 c)
  refine e_iconst (nI 0) dL_law_1542 (by decide) ?_
  refine e_aload_n dL_law_1543 rfl rfl ?_
  refine e_iload dL_law_1544 rfl ?_
  refine e_iconst (nI 2) dL_law_1546 (by decide) ?_
  refine e_iadd dL_law_1547 ?_
  refine e_int (nI (ii + 2)) (nI_add ii 2) ?_
  refine e_sld (ii + 2) dL_law_1548 rfl (by omega) hg ?_
  refine e_if_eq 1556 dL_law_1549 (by decide) (fun _ => ?_) (fun c => absurd ha2 c)
  refine e_iconst (nI 0) dL_law_1556 (by decide) ?_
  refine e_callV (k := 89) [.int (nI 0), .int (nI 0)] dL_law_1557 cc_X10_thumb lk_RL_180 im_X10_thumb se_X10_thumb (by decide) (hI.1.s 89 rfl) (hI.1.n (by decide)) rfl (Nat.le_of_ble_eq_true rfl) (Nat.le_of_ble_eq_true rfl) ?_
  refine t_X10_thumbN M1 hI.2.1 r1 hr9 (fun σ2 s2 r2 z2 => fK_i ?_)
  show fEv g _ mL_law 1560 [some (.ref fscr), some (.ref 0), some (.ref 89), some (.ref 300), some (.int (nI ii)), o5, o6, none] [.int ((-1)), .int ((-1))] σ2 Q
  have M2 := M1.sm s2
  refine e_icmp_eq 1782 dL_law_1560 (by decide) (fun _ => ?_) (fun c => absurd rfl c)
  exact h σ2 _ _ _ ((hI.both hI.2.1 s1 c1 s2 r2).le (Nat.le_succ nn))
set_option maxRecDepth 20000 in
theorem c_thumbN01 {g : fGP} {d : Nat} {σ : fAH} {Q : fRes → fAH → Prop} {x : fXS}  {nn ii : Nat} {o5 o6 : Option Value} (hg : gLL g < 2147483648) (hi6 : ii + 6 ≤ gLL g) (hI : fLI g σ x (nn + 1)) (hr9 : irn (xI x) = 60) (ha1 : gxs g (ii + 1) = 0) (ha2 : ¬ gxs g (ii + 2) = 0) (h : ∀ σ' x' o5 o6, fLI g σ' x' nn → fEv g (d + 45) mL_law 1782 [some (.ref fscr), some (.ref 0), some (.ref 89), some (.ref 300), some (.int (nI ii)), o5, o6, none] [] σ' Q) : fEv g (d + 45) mL_law 1496 [some (.ref fscr), some (.ref 0), some (.ref 89), some (.ref 300), some (.int (nI ii)), o5, o6, none] [] σ Q := by
  refine e_aload_n dL_law_1496 rfl rfl ?_
  refine e_aload_n dL_law_1497 rfl rfl ?_
  refine e_iload dL_law_1498 rfl ?_
  refine e_iconst (nI 1) dL_law_1500 (by decide) ?_
  refine e_iadd dL_law_1501 ?_
  refine e_int (nI (ii + 1)) (nI_add ii 1) ?_
  refine e_sld (ii + 1) dL_law_1502 rfl (by omega) hg ?_
  refine e_if_eq 1510 dL_law_1503 (by decide) (fun _ => ?_) (fun c => absurd ha1 c)
  refine e_iconst (nI 0) dL_law_1510 (by decide) ?_
  refine e_aload_n dL_law_1511 rfl rfl ?_
  refine e_iload dL_law_1512 rfl ?_
  refine e_iconst (nI 2) dL_law_1514 (by decide) ?_
  refine e_iadd dL_law_1515 ?_
  refine e_int (nI (ii + 2)) (nI_add ii 2) ?_
  refine e_sld (ii + 2) dL_law_1516 rfl (by omega) hg ?_
  refine e_if_eq 1524 dL_law_1517 (by decide) (fun c => absurd c ha2) (fun _ => ?_)
  refine e_iconst (nI 1) dL_law_1520 (by decide) ?_
  refine e_goto 1525 dL_law_1521 (by decide) ?_
  refine e_callV (k := 0) [.int (nI 0), .int (nI 1)] dL_law_1525 cc_X9_thumb lk_RL_176 im_X9_thumb se_X9_thumb (by decide) (hI.1.s 0 rfl) (hI.1.n (by decide)) rfl (Nat.le_of_ble_eq_true rfl) (Nat.le_of_ble_eq_true rfl) ?_
  refine t_X9_thumbN hI.1 hI.2.1 hI.2.2.1 hr9 (fK_i ?_)
  show fEv g _ mL_law 1528 [some (.ref fscr), some (.ref 0), some (.ref 89), some (.ref 300), some (.int (nI ii)), o5, o6, none] [.int ((-1))] σ Q
  have r1 := hI.2.2.2.1
  have M1 := hI.1
  have s1 : fSm fClB σ σ := ⟨rfl, rfl, fun _ _ => ⟨rfl, rfl⟩⟩
  have c1 := hI.2.2.1
  refine e_aload_n dL_law_1528 rfl rfl ?_
  refine e_aload_n dL_law_1529 rfl rfl ?_
  refine e_iload dL_law_1530 rfl ?_
  refine e_iconst (nI 1) dL_law_1532 (by decide) ?_
  refine e_iadd dL_law_1533 ?_
  refine e_int (nI (ii + 1)) (nI_add ii 1) ?_
  refine e_sld (ii + 1) dL_law_1534 rfl (by omega) hg ?_
  refine e_if_eq 1542 dL_law_1535 (by decide) (fun _ => ?_) (fun c => absurd ha1 c)
  refine e_iconst (nI 0) dL_law_1542 (by decide) ?_
  refine e_aload_n dL_law_1543 rfl rfl ?_
  refine e_iload dL_law_1544 rfl ?_
  refine e_iconst (nI 2) dL_law_1546 (by decide) ?_
  refine e_iadd dL_law_1547 ?_
  refine e_int (nI (ii + 2)) (nI_add ii 2) ?_
  refine e_sld (ii + 2) dL_law_1548 rfl (by omega) hg ?_
  refine e_if_eq 1556 dL_law_1549 (by decide) (fun c => absurd c ha2) (fun _ => ?_)
  refine e_iconst (nI 1) dL_law_1552 (by decide) ?_
  refine e_goto 1557 dL_law_1553 (by decide) ?_
  refine e_callV (k := 89) [.int (nI 0), .int (nI 1)] dL_law_1557 cc_X10_thumb lk_RL_180 im_X10_thumb se_X10_thumb (by decide) (hI.1.s 89 rfl) (hI.1.n (by decide)) rfl (Nat.le_of_ble_eq_true rfl) (Nat.le_of_ble_eq_true rfl) ?_
  refine t_X10_thumbN M1 hI.2.1 r1 hr9 (fun σ2 s2 r2 z2 => fK_i ?_)
  show fEv g _ mL_law 1560 [some (.ref fscr), some (.ref 0), some (.ref 89), some (.ref 300), some (.int (nI ii)), o5, o6, none] [.int ((-1)), .int ((-1))] σ2 Q
  have M2 := M1.sm s2
  refine e_icmp_eq 1782 dL_law_1560 (by decide) (fun _ => ?_) (fun c => absurd rfl c)
  exact h σ2 _ _ _ ((hI.both hI.2.1 s1 c1 s2 r2).le (Nat.le_succ nn))
set_option maxRecDepth 20000 in
theorem c_thumbN10 {g : fGP} {d : Nat} {σ : fAH} {Q : fRes → fAH → Prop} {x : fXS}  {nn ii : Nat} {o5 o6 : Option Value} (hg : gLL g < 2147483648) (hi6 : ii + 6 ≤ gLL g) (hI : fLI g σ x (nn + 1)) (hr9 : irn (xI x) = 60) (ha1 : ¬ gxs g (ii + 1) = 0) (ha2 : gxs g (ii + 2) = 0) (h : ∀ σ' x' o5 o6, fLI g σ' x' nn → fEv g (d + 45) mL_law 1782 [some (.ref fscr), some (.ref 0), some (.ref 89), some (.ref 300), some (.int (nI ii)), o5, o6, none] [] σ' Q) : fEv g (d + 45) mL_law 1496 [some (.ref fscr), some (.ref 0), some (.ref 89), some (.ref 300), some (.int (nI ii)), o5, o6, none] [] σ Q := by
  refine e_aload_n dL_law_1496 rfl rfl ?_
  refine e_aload_n dL_law_1497 rfl rfl ?_
  refine e_iload dL_law_1498 rfl ?_
  refine e_iconst (nI 1) dL_law_1500 (by decide) ?_
  refine e_iadd dL_law_1501 ?_
  refine e_int (nI (ii + 1)) (nI_add ii 1) ?_
  refine e_sld (ii + 1) dL_law_1502 rfl (by omega) hg ?_
  refine e_if_eq 1510 dL_law_1503 (by decide) (fun c => absurd c ha1) (fun _ => ?_)
  refine e_iconst (nI 1) dL_law_1506 (by decide) ?_
  refine e_goto 1511 dL_law_1507 (by decide) ?_
  refine e_aload_n dL_law_1511 rfl rfl ?_
  refine e_iload dL_law_1512 rfl ?_
  refine e_iconst (nI 2) dL_law_1514 (by decide) ?_
  refine e_iadd dL_law_1515 ?_
  refine e_int (nI (ii + 2)) (nI_add ii 2) ?_
  refine e_sld (ii + 2) dL_law_1516 rfl (by omega) hg ?_
  refine e_if_eq 1524 dL_law_1517 (by decide) (fun _ => ?_) (fun c => absurd ha2 c)
  refine e_iconst (nI 0) dL_law_1524 (by decide) ?_
  refine e_callV (k := 0) [.int (nI 1), .int (nI 0)] dL_law_1525 cc_X9_thumb lk_RL_176 im_X9_thumb se_X9_thumb (by decide) (hI.1.s 0 rfl) (hI.1.n (by decide)) rfl (Nat.le_of_ble_eq_true rfl) (Nat.le_of_ble_eq_true rfl) ?_
  refine t_X9_thumbN hI.1 hI.2.1 hI.2.2.1 hr9 (fK_i ?_)
  show fEv g _ mL_law 1528 [some (.ref fscr), some (.ref 0), some (.ref 89), some (.ref 300), some (.int (nI ii)), o5, o6, none] [.int ((-1))] σ Q
  have r1 := hI.2.2.2.1
  have M1 := hI.1
  have s1 : fSm fClB σ σ := ⟨rfl, rfl, fun _ _ => ⟨rfl, rfl⟩⟩
  have c1 := hI.2.2.1
  refine e_aload_n dL_law_1528 rfl rfl ?_
  refine e_aload_n dL_law_1529 rfl rfl ?_
  refine e_iload dL_law_1530 rfl ?_
  refine e_iconst (nI 1) dL_law_1532 (by decide) ?_
  refine e_iadd dL_law_1533 ?_
  refine e_int (nI (ii + 1)) (nI_add ii 1) ?_
  refine e_sld (ii + 1) dL_law_1534 rfl (by omega) hg ?_
  refine e_if_eq 1542 dL_law_1535 (by decide) (fun c => absurd c ha1) (fun _ => ?_)
  refine e_iconst (nI 1) dL_law_1538 (by decide) ?_
  refine e_goto 1543 dL_law_1539 (by decide) ?_
  refine e_aload_n dL_law_1543 rfl rfl ?_
  refine e_iload dL_law_1544 rfl ?_
  refine e_iconst (nI 2) dL_law_1546 (by decide) ?_
  refine e_iadd dL_law_1547 ?_
  refine e_int (nI (ii + 2)) (nI_add ii 2) ?_
  refine e_sld (ii + 2) dL_law_1548 rfl (by omega) hg ?_
  refine e_if_eq 1556 dL_law_1549 (by decide) (fun _ => ?_) (fun c => absurd ha2 c)
  refine e_iconst (nI 0) dL_law_1556 (by decide) ?_
  refine e_callV (k := 89) [.int (nI 1), .int (nI 0)] dL_law_1557 cc_X10_thumb lk_RL_180 im_X10_thumb se_X10_thumb (by decide) (hI.1.s 89 rfl) (hI.1.n (by decide)) rfl (Nat.le_of_ble_eq_true rfl) (Nat.le_of_ble_eq_true rfl) ?_
  refine t_X10_thumbN M1 hI.2.1 r1 hr9 (fun σ2 s2 r2 z2 => fK_i ?_)
  show fEv g _ mL_law 1560 [some (.ref fscr), some (.ref 0), some (.ref 89), some (.ref 300), some (.int (nI ii)), o5, o6, none] [.int ((-1)), .int ((-1))] σ2 Q
  have M2 := M1.sm s2
  refine e_icmp_eq 1782 dL_law_1560 (by decide) (fun _ => ?_) (fun c => absurd rfl c)
  exact h σ2 _ _ _ ((hI.both hI.2.1 s1 c1 s2 r2).le (Nat.le_succ nn))
set_option maxRecDepth 20000 in
theorem c_thumbN11 {g : fGP} {d : Nat} {σ : fAH} {Q : fRes → fAH → Prop} {x : fXS}  {nn ii : Nat} {o5 o6 : Option Value} (hg : gLL g < 2147483648) (hi6 : ii + 6 ≤ gLL g) (hI : fLI g σ x (nn + 1)) (hr9 : irn (xI x) = 60) (ha1 : ¬ gxs g (ii + 1) = 0) (ha2 : ¬ gxs g (ii + 2) = 0) (h : ∀ σ' x' o5 o6, fLI g σ' x' nn → fEv g (d + 45) mL_law 1782 [some (.ref fscr), some (.ref 0), some (.ref 89), some (.ref 300), some (.int (nI ii)), o5, o6, none] [] σ' Q) : fEv g (d + 45) mL_law 1496 [some (.ref fscr), some (.ref 0), some (.ref 89), some (.ref 300), some (.int (nI ii)), o5, o6, none] [] σ Q := by
  refine e_aload_n dL_law_1496 rfl rfl ?_
  refine e_aload_n dL_law_1497 rfl rfl ?_
  refine e_iload dL_law_1498 rfl ?_
  refine e_iconst (nI 1) dL_law_1500 (by decide) ?_
  refine e_iadd dL_law_1501 ?_
  refine e_int (nI (ii + 1)) (nI_add ii 1) ?_
  refine e_sld (ii + 1) dL_law_1502 rfl (by omega) hg ?_
  refine e_if_eq 1510 dL_law_1503 (by decide) (fun c => absurd c ha1) (fun _ => ?_)
  refine e_iconst (nI 1) dL_law_1506 (by decide) ?_
  refine e_goto 1511 dL_law_1507 (by decide) ?_
  refine e_aload_n dL_law_1511 rfl rfl ?_
  refine e_iload dL_law_1512 rfl ?_
  refine e_iconst (nI 2) dL_law_1514 (by decide) ?_
  refine e_iadd dL_law_1515 ?_
  refine e_int (nI (ii + 2)) (nI_add ii 2) ?_
  refine e_sld (ii + 2) dL_law_1516 rfl (by omega) hg ?_
  refine e_if_eq 1524 dL_law_1517 (by decide) (fun c => absurd c ha2) (fun _ => ?_)
  refine e_iconst (nI 1) dL_law_1520 (by decide) ?_
  refine e_goto 1525 dL_law_1521 (by decide) ?_
  refine e_callV (k := 0) [.int (nI 1), .int (nI 1)] dL_law_1525 cc_X9_thumb lk_RL_176 im_X9_thumb se_X9_thumb (by decide) (hI.1.s 0 rfl) (hI.1.n (by decide)) rfl (Nat.le_of_ble_eq_true rfl) (Nat.le_of_ble_eq_true rfl) ?_
  refine t_X9_thumbN hI.1 hI.2.1 hI.2.2.1 hr9 (fK_i ?_)
  show fEv g _ mL_law 1528 [some (.ref fscr), some (.ref 0), some (.ref 89), some (.ref 300), some (.int (nI ii)), o5, o6, none] [.int ((-1))] σ Q
  have r1 := hI.2.2.2.1
  have M1 := hI.1
  have s1 : fSm fClB σ σ := ⟨rfl, rfl, fun _ _ => ⟨rfl, rfl⟩⟩
  have c1 := hI.2.2.1
  refine e_aload_n dL_law_1528 rfl rfl ?_
  refine e_aload_n dL_law_1529 rfl rfl ?_
  refine e_iload dL_law_1530 rfl ?_
  refine e_iconst (nI 1) dL_law_1532 (by decide) ?_
  refine e_iadd dL_law_1533 ?_
  refine e_int (nI (ii + 1)) (nI_add ii 1) ?_
  refine e_sld (ii + 1) dL_law_1534 rfl (by omega) hg ?_
  refine e_if_eq 1542 dL_law_1535 (by decide) (fun c => absurd c ha1) (fun _ => ?_)
  refine e_iconst (nI 1) dL_law_1538 (by decide) ?_
  refine e_goto 1543 dL_law_1539 (by decide) ?_
  refine e_aload_n dL_law_1543 rfl rfl ?_
  refine e_iload dL_law_1544 rfl ?_
  refine e_iconst (nI 2) dL_law_1546 (by decide) ?_
  refine e_iadd dL_law_1547 ?_
  refine e_int (nI (ii + 2)) (nI_add ii 2) ?_
  refine e_sld (ii + 2) dL_law_1548 rfl (by omega) hg ?_
  refine e_if_eq 1556 dL_law_1549 (by decide) (fun c => absurd c ha2) (fun _ => ?_)
  refine e_iconst (nI 1) dL_law_1552 (by decide) ?_
  refine e_goto 1557 dL_law_1553 (by decide) ?_
  refine e_callV (k := 89) [.int (nI 1), .int (nI 1)] dL_law_1557 cc_X10_thumb lk_RL_180 im_X10_thumb se_X10_thumb (by decide) (hI.1.s 89 rfl) (hI.1.n (by decide)) rfl (Nat.le_of_ble_eq_true rfl) (Nat.le_of_ble_eq_true rfl) ?_
  refine t_X10_thumbN M1 hI.2.1 r1 hr9 (fun σ2 s2 r2 z2 => fK_i ?_)
  show fEv g _ mL_law 1560 [some (.ref fscr), some (.ref 0), some (.ref 89), some (.ref 300), some (.int (nI ii)), o5, o6, none] [.int ((-1)), .int ((-1))] σ2 Q
  have M2 := M1.sm s2
  refine e_icmp_eq 1782 dL_law_1560 (by decide) (fun _ => ?_) (fun c => absurd rfl c)
  exact h σ2 _ _ _ ((hI.both hI.2.1 s1 c1 s2 r2).le (Nat.le_succ nn))
set_option maxRecDepth 20000 in
theorem c_trust0 {g : fGP} {d : Nat} {σ : fAH} {Q : fRes → fAH → Prop} {x : fXS} {w : Nat} {nn ii : Nat} {o5 o6 : Option Value} (hg : gLL g < 2147483648) (hi6 : ii + 6 ≤ gLL g) (hI : fLI g σ x (nn + 1)) (hs : 0 ≤ 1) (hw : w ≤ 1) (ha1 : gxs g (ii + 1) = 0) (ha2 : gxs g (ii + 2) = nI w) (h : ∀ σ' x' o5 o6, fLI g σ' x' nn → fEv g (d + 45) mL_law 1782 [some (.ref fscr), some (.ref 0), some (.ref 89), some (.ref 300), some (.int (nI ii)), o5, o6, none] [] σ' Q) : fEv g (d + 45) mL_law 1565 [some (.ref fscr), some (.ref 0), some (.ref 89), some (.ref 300), some (.int (nI ii)), o5, o6, none] [] σ Q := by
  refine e_aload_n dL_law_1565 rfl rfl ?_
  refine e_aload_n dL_law_1566 rfl rfl ?_
  refine e_iload dL_law_1567 rfl ?_
  refine e_iconst (nI 1) dL_law_1569 (by decide) ?_
  refine e_iadd dL_law_1570 ?_
  refine e_int (nI (ii + 1)) (nI_add ii 1) ?_
  refine e_sld (ii + 1) dL_law_1571 rfl (by omega) hg ?_
  refine e_if_eq 1579 dL_law_1572 (by decide) (fun _ => ?_) (fun c => absurd ha1 c)
  refine e_iconst (nI 0) dL_law_1579 (by decide) ?_
  refine e_aload_n dL_law_1580 rfl rfl ?_
  refine e_iload dL_law_1581 rfl ?_
  refine e_iconst (nI 2) dL_law_1583 (by decide) ?_
  refine e_iadd dL_law_1584 ?_
  refine e_int (nI (ii + 2)) (nI_add ii 2) ?_
  refine e_sld (ii + 2) dL_law_1585 rfl (by omega) hg ?_
  refine e_int (nI w) ha2 ?_
  refine e_aload_n dL_law_1586 rfl rfl ?_
  refine e_callS [.ref 0, .int (nI 0), .int (nI w), .ref 300] dL_law_1587 cc_L_trust lk_RL_181 st_L_trust in_RL rfl (Nat.le_of_ble_eq_true rfl) (Nat.le_of_ble_eq_true rfl) ?_
  refine t_L_trust hI.1 hI.2.1 hI.2.2.1 hs hw (fun σ1 s1 c1 v1 => fK_i ?_)
  show fEv g _ mL_law 1590 [some (.ref fscr), some (.ref 0), some (.ref 89), some (.ref 300), some (.int (nI ii)), o5, o6, none] [.int (nI 0)] σ1 Q
  have r1 := hI.2.2.2.1.clB hI.2.1 s1
  have M1 := hI.1.sm s1
  refine e_istore (L1 := [some (.ref fscr), some (.ref 0), some (.ref 89), some (.ref 300), some (.int (nI ii)), some (.int (nI 0)), o6, none]) dL_law_1590 (by decide) rfl ?_
  refine e_aload_n dL_law_1592 rfl rfl ?_
  refine e_aload_n dL_law_1593 rfl rfl ?_
  refine e_iload dL_law_1594 rfl ?_
  refine e_iconst (nI 1) dL_law_1596 (by decide) ?_
  refine e_iadd dL_law_1597 ?_
  refine e_int (nI (ii + 1)) (nI_add ii 1) ?_
  refine e_sld (ii + 1) dL_law_1598 rfl (by omega) hg ?_
  refine e_if_eq 1606 dL_law_1599 (by decide) (fun _ => ?_) (fun c => absurd ha1 c)
  refine e_iconst (nI 0) dL_law_1606 (by decide) ?_
  refine e_aload_n dL_law_1607 rfl rfl ?_
  refine e_iload dL_law_1608 rfl ?_
  refine e_iconst (nI 2) dL_law_1610 (by decide) ?_
  refine e_iadd dL_law_1611 ?_
  refine e_int (nI (ii + 2)) (nI_add ii 2) ?_
  refine e_sld (ii + 2) dL_law_1612 rfl (by omega) hg ?_
  refine e_int (nI w) ha2 ?_
  refine e_callV (k := 89) [.int (nI 0), .int (nI w)] dL_law_1613 cc_X10_trust lk_RL_184 im_X10_trust se_X10_trust (by decide) (M1.s 89 rfl) (M1.n (by decide)) rfl (Nat.le_of_ble_eq_true rfl) (Nat.le_of_ble_eq_true rfl) ?_
  refine t_X10_trust M1 hI.2.1 r1 hs hw (fun σ2 s2 r2 z2 => fK_i ?_)
  show fEv g _ mL_law 1616 [some (.ref fscr), some (.ref 0), some (.ref 89), some (.ref 300), some (.int (nI ii)), some (.int (nI 0)), o6, none] [.int (vTru (xI x) 0 w)] σ2 Q
  have M2 := M1.sm s2
  refine e_istore (L1 := [some (.ref fscr), some (.ref 0), some (.ref 89), some (.ref 300), some (.int (nI ii)), some (.int (nI 0)), some (.int (vTru (xI x) 0 w)), none]) dL_law_1616 (by decide) rfl ?_
  refine e_aload_n dL_law_1618 rfl rfl ?_
  refine e_callV (k := 89) [] dL_law_1619 cc_X10_thrown lk_RL_99 im_X10_thrown se_X10_thrown (by decide) (M2.s 89 rfl) (M2.n (by decide)) rfl (Nat.le_of_ble_eq_true rfl) (Nat.le_of_ble_eq_true rfl) ?_
  refine t_X10_thrown M2 z2 (fK_i ?_)
  show fEv g _ mL_law 1622 [some (.ref fscr), some (.ref 0), some (.ref 89), some (.ref 300), some (.int (nI ii)), some (.int (nI 0)), some (.int (vTru (xI x) 0 w)), none] [.int (nI 0)] σ2 Q
  refine e_iload dL_law_1622 rfl ?_
  refine e_icmp_eq 1629 dL_law_1624 (by decide) (fun _ => ?_) (fun c => absurd c (by decide))
  refine e_iload dL_law_1629 rfl ?_
  refine e_if_ne 1646 dL_law_1631 (by decide) (fun c => absurd c (by decide)) (fun _ => ?_)
  refine e_aload_n dL_law_1634 rfl rfl ?_
  refine e_iconst (nI 0) dL_law_1635 (by decide) ?_
  refine e_laload 0 dL_law_1636 (M2.s 300 rfl) (M2.n (by decide)) rfl (by omega) (by decide) ?_
  refine e_long (((vTru (xI x) 0 w : Int32)).toInt64) ((s2.j (fun q => by unfold fRfA at q; omega) 0).trans v1) ?_
  refine e_iload dL_law_1637 rfl ?_
  refine e_i2l dL_law_1639 ?_
  refine e_lcmp dL_law_1640 ?_
  refine e_if_eq 1646 dL_law_1641 (by decide) (fun _ => ?_) (fun c => absurd (lc_eq.mpr rfl) c)
  refine e_goto 1782 dL_law_1646 (by decide) ?_
  exact h σ2 _ _ _ ((hI.both hI.2.1 s1 c1 s2 r2).le (Nat.le_succ nn))
set_option maxRecDepth 20000 in
theorem c_trust1 {g : fGP} {d : Nat} {σ : fAH} {Q : fRes → fAH → Prop} {x : fXS} {w : Nat} {nn ii : Nat} {o5 o6 : Option Value} (hg : gLL g < 2147483648) (hi6 : ii + 6 ≤ gLL g) (hI : fLI g σ x (nn + 1)) (hs : 1 ≤ 1) (hw : w ≤ 1) (ha1 : ¬ gxs g (ii + 1) = 0) (ha2 : gxs g (ii + 2) = nI w) (h : ∀ σ' x' o5 o6, fLI g σ' x' nn → fEv g (d + 45) mL_law 1782 [some (.ref fscr), some (.ref 0), some (.ref 89), some (.ref 300), some (.int (nI ii)), o5, o6, none] [] σ' Q) : fEv g (d + 45) mL_law 1565 [some (.ref fscr), some (.ref 0), some (.ref 89), some (.ref 300), some (.int (nI ii)), o5, o6, none] [] σ Q := by
  refine e_aload_n dL_law_1565 rfl rfl ?_
  refine e_aload_n dL_law_1566 rfl rfl ?_
  refine e_iload dL_law_1567 rfl ?_
  refine e_iconst (nI 1) dL_law_1569 (by decide) ?_
  refine e_iadd dL_law_1570 ?_
  refine e_int (nI (ii + 1)) (nI_add ii 1) ?_
  refine e_sld (ii + 1) dL_law_1571 rfl (by omega) hg ?_
  refine e_if_eq 1579 dL_law_1572 (by decide) (fun c => absurd c ha1) (fun _ => ?_)
  refine e_iconst (nI 1) dL_law_1575 (by decide) ?_
  refine e_goto 1580 dL_law_1576 (by decide) ?_
  refine e_aload_n dL_law_1580 rfl rfl ?_
  refine e_iload dL_law_1581 rfl ?_
  refine e_iconst (nI 2) dL_law_1583 (by decide) ?_
  refine e_iadd dL_law_1584 ?_
  refine e_int (nI (ii + 2)) (nI_add ii 2) ?_
  refine e_sld (ii + 2) dL_law_1585 rfl (by omega) hg ?_
  refine e_int (nI w) ha2 ?_
  refine e_aload_n dL_law_1586 rfl rfl ?_
  refine e_callS [.ref 0, .int (nI 1), .int (nI w), .ref 300] dL_law_1587 cc_L_trust lk_RL_181 st_L_trust in_RL rfl (Nat.le_of_ble_eq_true rfl) (Nat.le_of_ble_eq_true rfl) ?_
  refine t_L_trust hI.1 hI.2.1 hI.2.2.1 hs hw (fun σ1 s1 c1 v1 => fK_i ?_)
  show fEv g _ mL_law 1590 [some (.ref fscr), some (.ref 0), some (.ref 89), some (.ref 300), some (.int (nI ii)), o5, o6, none] [.int (nI 0)] σ1 Q
  have r1 := hI.2.2.2.1.clB hI.2.1 s1
  have M1 := hI.1.sm s1
  refine e_istore (L1 := [some (.ref fscr), some (.ref 0), some (.ref 89), some (.ref 300), some (.int (nI ii)), some (.int (nI 0)), o6, none]) dL_law_1590 (by decide) rfl ?_
  refine e_aload_n dL_law_1592 rfl rfl ?_
  refine e_aload_n dL_law_1593 rfl rfl ?_
  refine e_iload dL_law_1594 rfl ?_
  refine e_iconst (nI 1) dL_law_1596 (by decide) ?_
  refine e_iadd dL_law_1597 ?_
  refine e_int (nI (ii + 1)) (nI_add ii 1) ?_
  refine e_sld (ii + 1) dL_law_1598 rfl (by omega) hg ?_
  refine e_if_eq 1606 dL_law_1599 (by decide) (fun c => absurd c ha1) (fun _ => ?_)
  refine e_iconst (nI 1) dL_law_1602 (by decide) ?_
  refine e_goto 1607 dL_law_1603 (by decide) ?_
  refine e_aload_n dL_law_1607 rfl rfl ?_
  refine e_iload dL_law_1608 rfl ?_
  refine e_iconst (nI 2) dL_law_1610 (by decide) ?_
  refine e_iadd dL_law_1611 ?_
  refine e_int (nI (ii + 2)) (nI_add ii 2) ?_
  refine e_sld (ii + 2) dL_law_1612 rfl (by omega) hg ?_
  refine e_int (nI w) ha2 ?_
  refine e_callV (k := 89) [.int (nI 1), .int (nI w)] dL_law_1613 cc_X10_trust lk_RL_184 im_X10_trust se_X10_trust (by decide) (M1.s 89 rfl) (M1.n (by decide)) rfl (Nat.le_of_ble_eq_true rfl) (Nat.le_of_ble_eq_true rfl) ?_
  refine t_X10_trust M1 hI.2.1 r1 hs hw (fun σ2 s2 r2 z2 => fK_i ?_)
  show fEv g _ mL_law 1616 [some (.ref fscr), some (.ref 0), some (.ref 89), some (.ref 300), some (.int (nI ii)), some (.int (nI 0)), o6, none] [.int (vTru (xI x) 1 w)] σ2 Q
  have M2 := M1.sm s2
  refine e_istore (L1 := [some (.ref fscr), some (.ref 0), some (.ref 89), some (.ref 300), some (.int (nI ii)), some (.int (nI 0)), some (.int (vTru (xI x) 1 w)), none]) dL_law_1616 (by decide) rfl ?_
  refine e_aload_n dL_law_1618 rfl rfl ?_
  refine e_callV (k := 89) [] dL_law_1619 cc_X10_thrown lk_RL_99 im_X10_thrown se_X10_thrown (by decide) (M2.s 89 rfl) (M2.n (by decide)) rfl (Nat.le_of_ble_eq_true rfl) (Nat.le_of_ble_eq_true rfl) ?_
  refine t_X10_thrown M2 z2 (fK_i ?_)
  show fEv g _ mL_law 1622 [some (.ref fscr), some (.ref 0), some (.ref 89), some (.ref 300), some (.int (nI ii)), some (.int (nI 0)), some (.int (vTru (xI x) 1 w)), none] [.int (nI 0)] σ2 Q
  refine e_iload dL_law_1622 rfl ?_
  refine e_icmp_eq 1629 dL_law_1624 (by decide) (fun _ => ?_) (fun c => absurd c (by decide))
  refine e_iload dL_law_1629 rfl ?_
  refine e_if_ne 1646 dL_law_1631 (by decide) (fun c => absurd c (by decide)) (fun _ => ?_)
  refine e_aload_n dL_law_1634 rfl rfl ?_
  refine e_iconst (nI 0) dL_law_1635 (by decide) ?_
  refine e_laload 0 dL_law_1636 (M2.s 300 rfl) (M2.n (by decide)) rfl (by omega) (by decide) ?_
  refine e_long (((vTru (xI x) 1 w : Int32)).toInt64) ((s2.j (fun q => by unfold fRfA at q; omega) 0).trans v1) ?_
  refine e_iload dL_law_1637 rfl ?_
  refine e_i2l dL_law_1639 ?_
  refine e_lcmp dL_law_1640 ?_
  refine e_if_eq 1646 dL_law_1641 (by decide) (fun _ => ?_) (fun c => absurd (lc_eq.mpr rfl) c)
  refine e_goto 1782 dL_law_1646 (by decide) ?_
  exact h σ2 _ _ _ ((hI.both hI.2.1 s1 c1 s2 r2).le (Nat.le_succ nn))
set_option maxRecDepth 20000 in
theorem c_trustE0 {g : fGP} {d : Nat} {σ : fAH} {Q : fRes → fAH → Prop} {x : fXS}  {b : Int32} {nn ii : Nat} {o5 o6 : Option Value} (hg : gLL g < 2147483648) (hi6 : ii + 6 ≤ gLL g) (hI : fLI g σ x (nn + 1)) (hv : ¬ (nI 0 ≤ b ∧ b ≤ nI 1)) (ha1 : gxs g (ii + 1) = 0) (ha2 : gxs g (ii + 2) = b) (h : ∀ σ' x' o5 o6, fLI g σ' x' nn → fEv g (d + 45) mL_law 1782 [some (.ref fscr), some (.ref 0), some (.ref 89), some (.ref 300), some (.int (nI ii)), o5, o6, none] [] σ' Q) : fEv g (d + 45) mL_law 1565 [some (.ref fscr), some (.ref 0), some (.ref 89), some (.ref 300), some (.int (nI ii)), o5, o6, none] [] σ Q := by
  refine e_aload_n dL_law_1565 rfl rfl ?_
  refine e_aload_n dL_law_1566 rfl rfl ?_
  refine e_iload dL_law_1567 rfl ?_
  refine e_iconst (nI 1) dL_law_1569 (by decide) ?_
  refine e_iadd dL_law_1570 ?_
  refine e_int (nI (ii + 1)) (nI_add ii 1) ?_
  refine e_sld (ii + 1) dL_law_1571 rfl (by omega) hg ?_
  refine e_if_eq 1579 dL_law_1572 (by decide) (fun _ => ?_) (fun c => absurd ha1 c)
  refine e_iconst (nI 0) dL_law_1579 (by decide) ?_
  refine e_aload_n dL_law_1580 rfl rfl ?_
  refine e_iload dL_law_1581 rfl ?_
  refine e_iconst (nI 2) dL_law_1583 (by decide) ?_
  refine e_iadd dL_law_1584 ?_
  refine e_int (nI (ii + 2)) (nI_add ii 2) ?_
  refine e_sld (ii + 2) dL_law_1585 rfl (by omega) hg ?_
  refine e_int (b) ha2 ?_
  refine e_aload_n dL_law_1586 rfl rfl ?_
  refine e_callS [.ref 0, .int (nI 0), .int b, .ref 300] dL_law_1587 cc_L_trust lk_RL_181 st_L_trust in_RL rfl (Nat.le_of_ble_eq_true rfl) (Nat.le_of_ble_eq_true rfl) ?_
  refine t_L_trustE hI.1 hI.2.1 hI.2.2.1 hv hI.rm (fK_i ?_)
  show fEv g _ mL_law 1590 [some (.ref fscr), some (.ref 0), some (.ref 89), some (.ref 300), some (.int (nI ii)), o5, o6, none] [.int (nI 1)] (fthr σ) Q
  have hJ := hI.thr
  refine e_istore (L1 := [some (.ref fscr), some (.ref 0), some (.ref 89), some (.ref 300), some (.int (nI ii)), some (.int (nI 1)), o6, none]) dL_law_1590 (by decide) rfl ?_
  refine e_aload_n dL_law_1592 rfl rfl ?_
  refine e_aload_n dL_law_1593 rfl rfl ?_
  refine e_iload dL_law_1594 rfl ?_
  refine e_iconst (nI 1) dL_law_1596 (by decide) ?_
  refine e_iadd dL_law_1597 ?_
  refine e_int (nI (ii + 1)) (nI_add ii 1) ?_
  refine e_sld (ii + 1) dL_law_1598 rfl (by omega) hg ?_
  refine e_if_eq 1606 dL_law_1599 (by decide) (fun _ => ?_) (fun c => absurd ha1 c)
  refine e_iconst (nI 0) dL_law_1606 (by decide) ?_
  refine e_aload_n dL_law_1607 rfl rfl ?_
  refine e_iload dL_law_1608 rfl ?_
  refine e_iconst (nI 2) dL_law_1610 (by decide) ?_
  refine e_iadd dL_law_1611 ?_
  refine e_int (nI (ii + 2)) (nI_add ii 2) ?_
  refine e_sld (ii + 2) dL_law_1612 rfl (by omega) hg ?_
  refine e_int (b) ha2 ?_
  refine e_callV (k := 89) [.int (nI 0), .int b] dL_law_1613 cc_X10_trust lk_RL_184 im_X10_trust se_X10_trust (by decide) (hJ.1.s 89 rfl) (hJ.1.n (by decide)) rfl (Nat.le_of_ble_eq_true rfl) (Nat.le_of_ble_eq_true rfl) ?_
  refine t_X10_trustE hJ.1 hJ.2.1 hJ.2.2.2.1 hv (fun σ2 s2 r2 z2 => fK_i ?_)
  show fEv g _ mL_law 1616 [some (.ref fscr), some (.ref 0), some (.ref 89), some (.ref 300), some (.int (nI ii)), some (.int (nI 1)), o6, none] [.int (nI 0)] σ2 Q
  have M2 := hJ.1.sm s2
  refine e_istore (L1 := [some (.ref fscr), some (.ref 0), some (.ref 89), some (.ref 300), some (.int (nI ii)), some (.int (nI 1)), some (.int (nI 0)), none]) dL_law_1616 (by decide) rfl ?_
  refine e_aload_n dL_law_1618 rfl rfl ?_
  refine e_callV (k := 89) [] dL_law_1619 cc_X10_thrown lk_RL_99 im_X10_thrown se_X10_thrown (by decide) (M2.s 89 rfl) (M2.n (by decide)) rfl (Nat.le_of_ble_eq_true rfl) (Nat.le_of_ble_eq_true rfl) ?_
  refine t_X10_thrown M2 z2 (fK_i ?_)
  show fEv g _ mL_law 1622 [some (.ref fscr), some (.ref 0), some (.ref 89), some (.ref 300), some (.int (nI ii)), some (.int (nI 1)), some (.int (nI 0)), none] [.int (nI 1)] σ2 Q
  refine e_iload dL_law_1622 rfl ?_
  refine e_icmp_eq 1629 dL_law_1624 (by decide) (fun _ => ?_) (fun c => absurd c (by decide))
  refine e_iload dL_law_1629 rfl ?_
  refine e_if_ne 1646 dL_law_1631 (by decide) (fun _ => ?_) (fun c => absurd c (by decide))
  refine e_goto 1782 dL_law_1646 (by decide) ?_
  exact h σ2 x _ _ (hJ.sm s2 hI.2.1 (hJ.2.2.1.rf hI.2.1 s2) r2)
set_option maxRecDepth 20000 in
theorem c_trustE1 {g : fGP} {d : Nat} {σ : fAH} {Q : fRes → fAH → Prop} {x : fXS}  {b : Int32} {nn ii : Nat} {o5 o6 : Option Value} (hg : gLL g < 2147483648) (hi6 : ii + 6 ≤ gLL g) (hI : fLI g σ x (nn + 1)) (hv : ¬ (nI 0 ≤ b ∧ b ≤ nI 1)) (ha1 : ¬ gxs g (ii + 1) = 0) (ha2 : gxs g (ii + 2) = b) (h : ∀ σ' x' o5 o6, fLI g σ' x' nn → fEv g (d + 45) mL_law 1782 [some (.ref fscr), some (.ref 0), some (.ref 89), some (.ref 300), some (.int (nI ii)), o5, o6, none] [] σ' Q) : fEv g (d + 45) mL_law 1565 [some (.ref fscr), some (.ref 0), some (.ref 89), some (.ref 300), some (.int (nI ii)), o5, o6, none] [] σ Q := by
  refine e_aload_n dL_law_1565 rfl rfl ?_
  refine e_aload_n dL_law_1566 rfl rfl ?_
  refine e_iload dL_law_1567 rfl ?_
  refine e_iconst (nI 1) dL_law_1569 (by decide) ?_
  refine e_iadd dL_law_1570 ?_
  refine e_int (nI (ii + 1)) (nI_add ii 1) ?_
  refine e_sld (ii + 1) dL_law_1571 rfl (by omega) hg ?_
  refine e_if_eq 1579 dL_law_1572 (by decide) (fun c => absurd c ha1) (fun _ => ?_)
  refine e_iconst (nI 1) dL_law_1575 (by decide) ?_
  refine e_goto 1580 dL_law_1576 (by decide) ?_
  refine e_aload_n dL_law_1580 rfl rfl ?_
  refine e_iload dL_law_1581 rfl ?_
  refine e_iconst (nI 2) dL_law_1583 (by decide) ?_
  refine e_iadd dL_law_1584 ?_
  refine e_int (nI (ii + 2)) (nI_add ii 2) ?_
  refine e_sld (ii + 2) dL_law_1585 rfl (by omega) hg ?_
  refine e_int (b) ha2 ?_
  refine e_aload_n dL_law_1586 rfl rfl ?_
  refine e_callS [.ref 0, .int (nI 1), .int b, .ref 300] dL_law_1587 cc_L_trust lk_RL_181 st_L_trust in_RL rfl (Nat.le_of_ble_eq_true rfl) (Nat.le_of_ble_eq_true rfl) ?_
  refine t_L_trustE hI.1 hI.2.1 hI.2.2.1 hv hI.rm (fK_i ?_)
  show fEv g _ mL_law 1590 [some (.ref fscr), some (.ref 0), some (.ref 89), some (.ref 300), some (.int (nI ii)), o5, o6, none] [.int (nI 1)] (fthr σ) Q
  have hJ := hI.thr
  refine e_istore (L1 := [some (.ref fscr), some (.ref 0), some (.ref 89), some (.ref 300), some (.int (nI ii)), some (.int (nI 1)), o6, none]) dL_law_1590 (by decide) rfl ?_
  refine e_aload_n dL_law_1592 rfl rfl ?_
  refine e_aload_n dL_law_1593 rfl rfl ?_
  refine e_iload dL_law_1594 rfl ?_
  refine e_iconst (nI 1) dL_law_1596 (by decide) ?_
  refine e_iadd dL_law_1597 ?_
  refine e_int (nI (ii + 1)) (nI_add ii 1) ?_
  refine e_sld (ii + 1) dL_law_1598 rfl (by omega) hg ?_
  refine e_if_eq 1606 dL_law_1599 (by decide) (fun c => absurd c ha1) (fun _ => ?_)
  refine e_iconst (nI 1) dL_law_1602 (by decide) ?_
  refine e_goto 1607 dL_law_1603 (by decide) ?_
  refine e_aload_n dL_law_1607 rfl rfl ?_
  refine e_iload dL_law_1608 rfl ?_
  refine e_iconst (nI 2) dL_law_1610 (by decide) ?_
  refine e_iadd dL_law_1611 ?_
  refine e_int (nI (ii + 2)) (nI_add ii 2) ?_
  refine e_sld (ii + 2) dL_law_1612 rfl (by omega) hg ?_
  refine e_int (b) ha2 ?_
  refine e_callV (k := 89) [.int (nI 1), .int b] dL_law_1613 cc_X10_trust lk_RL_184 im_X10_trust se_X10_trust (by decide) (hJ.1.s 89 rfl) (hJ.1.n (by decide)) rfl (Nat.le_of_ble_eq_true rfl) (Nat.le_of_ble_eq_true rfl) ?_
  refine t_X10_trustE hJ.1 hJ.2.1 hJ.2.2.2.1 hv (fun σ2 s2 r2 z2 => fK_i ?_)
  show fEv g _ mL_law 1616 [some (.ref fscr), some (.ref 0), some (.ref 89), some (.ref 300), some (.int (nI ii)), some (.int (nI 1)), o6, none] [.int (nI 0)] σ2 Q
  have M2 := hJ.1.sm s2
  refine e_istore (L1 := [some (.ref fscr), some (.ref 0), some (.ref 89), some (.ref 300), some (.int (nI ii)), some (.int (nI 1)), some (.int (nI 0)), none]) dL_law_1616 (by decide) rfl ?_
  refine e_aload_n dL_law_1618 rfl rfl ?_
  refine e_callV (k := 89) [] dL_law_1619 cc_X10_thrown lk_RL_99 im_X10_thrown se_X10_thrown (by decide) (M2.s 89 rfl) (M2.n (by decide)) rfl (Nat.le_of_ble_eq_true rfl) (Nat.le_of_ble_eq_true rfl) ?_
  refine t_X10_thrown M2 z2 (fK_i ?_)
  show fEv g _ mL_law 1622 [some (.ref fscr), some (.ref 0), some (.ref 89), some (.ref 300), some (.int (nI ii)), some (.int (nI 1)), some (.int (nI 0)), none] [.int (nI 1)] σ2 Q
  refine e_iload dL_law_1622 rfl ?_
  refine e_icmp_eq 1629 dL_law_1624 (by decide) (fun _ => ?_) (fun c => absurd c (by decide))
  refine e_iload dL_law_1629 rfl ?_
  refine e_if_ne 1646 dL_law_1631 (by decide) (fun _ => ?_) (fun c => absurd c (by decide))
  refine e_goto 1782 dL_law_1646 (by decide) ?_
  exact h σ2 x _ _ (hJ.sm s2 hI.2.1 (hJ.2.2.1.rf hI.2.1 s2) r2)
set_option maxRecDepth 20000 in
theorem c_listening {g : fGP} {d : Nat} {σ : fAH} {Q : fRes → fAH → Prop} {x : fXS}  {nn ii : Nat} {o5 o6 : Option Value} (hg : gLL g < 2147483648) (hi6 : ii + 6 ≤ gLL g) (hI : fLI g σ x (nn + 1))   (h : ∀ σ' x' o5 o6, fLI g σ' x' nn → fEv g (d + 45) mL_law 1782 [some (.ref fscr), some (.ref 0), some (.ref 89), some (.ref 300), some (.int (nI ii)), o5, o6, none] [] σ' Q) : fEv g (d + 45) mL_law 1649 [some (.ref fscr), some (.ref 0), some (.ref 89), some (.ref 300), some (.int (nI ii)), o5, o6, none] [] σ Q := by
  refine e_aload_n dL_law_1649 rfl rfl ?_
  refine e_callV (k := 0) [] dL_law_1650 cc_X9_listening lk_RL_185 im_X9_listening se_X9_listening (by decide) (hI.1.s 0 rfl) (hI.1.n (by decide)) rfl (Nat.le_of_ble_eq_true rfl) (Nat.le_of_ble_eq_true rfl) ?_
  refine t_X9_listening hI.1 hI.2.1 hI.2.2.1  (fK_i ?_)
  show fEv g _ mL_law 1653 [some (.ref fscr), some (.ref 0), some (.ref 89), some (.ref 300), some (.int (nI ii)), o5, o6, none] [.int (vLis (xI x))] σ Q
  have r1 := hI.2.2.2.1
  have M1 := hI.1
  have s1 : fSm fClB σ σ := ⟨rfl, rfl, fun _ _ => ⟨rfl, rfl⟩⟩
  have c1 := hI.2.2.1
  refine e_aload_n dL_law_1653 rfl rfl ?_
  refine e_callV (k := 89) [] dL_law_1654 cc_X10_listening lk_RL_188 im_X10_listening se_X10_listening (by decide) (hI.1.s 89 rfl) (hI.1.n (by decide)) rfl (Nat.le_of_ble_eq_true rfl) (Nat.le_of_ble_eq_true rfl) ?_
  refine t_X10_listening M1 hI.2.1 r1  (fun σ2 s2 r2 z2 => fK_i ?_)
  show fEv g _ mL_law 1657 [some (.ref fscr), some (.ref 0), some (.ref 89), some (.ref 300), some (.int (nI ii)), o5, o6, none] [.int (vLis (xI x)), .int (vLis (xI x))] σ2 Q
  have M2 := M1.sm s2
  refine e_icmp_eq 1782 dL_law_1657 (by decide) (fun _ => ?_) (fun c => absurd rfl c)
  exact h σ2 _ _ _ ((hI.both hI.2.1 s1 c1 s2 r2).le (Nat.le_succ nn))
set_option maxRecDepth 20000 in
theorem c_tower {g : fGP} {d : Nat} {σ : fAH} {Q : fRes → fAH → Prop} {x : fXS}  {nn ii : Nat} {o5 o6 : Option Value} (hg : gLL g < 2147483648) (hi6 : ii + 6 ≤ gLL g) (hI : fLI g σ x (nn + 1))   (h : ∀ σ' x' o5 o6, fLI g σ' x' nn → fEv g (d + 45) mL_law 1782 [some (.ref fscr), some (.ref 0), some (.ref 89), some (.ref 300), some (.int (nI ii)), o5, o6, none] [] σ' Q) : fEv g (d + 45) mL_law 1662 [some (.ref fscr), some (.ref 0), some (.ref 89), some (.ref 300), some (.int (nI ii)), o5, o6, none] [] σ Q := by
  refine e_aload_n dL_law_1662 rfl rfl ?_
  refine e_callV (k := 0) [] dL_law_1663 cc_X9_tower lk_RL_189 im_X9_tower se_X9_tower (by decide) (hI.1.s 0 rfl) (hI.1.n (by decide)) rfl (Nat.le_of_ble_eq_true rfl) (Nat.le_of_ble_eq_true rfl) ?_
  refine t_X9_tower hI.1 hI.2.1 hI.2.2.1  (fun σ1 R1 s0 c1 tp1 _ => fK_i ?_)
  show fEv g _ mL_law 1666 [some (.ref fscr), some (.ref 0), some (.ref 89), some (.ref 300), some (.int (nI ii)), o5, o6, none] [.int (nI R1)] σ1 Q
  have s1 : fSm fClB σ σ1 := s0.to (fun a (q : a < 89) => Or.inl q)
  have r1 := hI.2.2.2.1.clB hI.2.1 s1
  have M1 := hI.1.sm s1
  refine e_aload_n dL_law_1666 rfl rfl ?_
  refine e_callV (k := 89) [] dL_law_1667 cc_X10_tower lk_RL_192 im_X10_tower se_X10_tower (by decide) (M1.s 89 rfl) (M1.n (by decide)) rfl (Nat.le_of_ble_eq_true rfl) (Nat.le_of_ble_eq_true rfl) ?_
  refine t_X10_tower M1 hI.2.1 r1  (fun σ2 R2 s2 r2 z2 tp2 => fK_i ?_)
  show fEv g _ mL_law 1670 [some (.ref fscr), some (.ref 0), some (.ref 89), some (.ref 300), some (.int (nI ii)), o5, o6, none] [.int (nI R2), .int (nI R1)] σ2 Q
  have M2 := M1.sm s2
  have eT : R2 = R1 := mTop_e tp2 tp1
  subst eT
  refine e_icmp_eq 1782 dL_law_1670 (by decide) (fun _ => ?_) (fun c => absurd rfl c)
  exact h σ2 _ _ _ ((hI.both hI.2.1 s1 c1 s2 r2).le (Nat.le_succ nn))
set_option maxRecDepth 20000 in
theorem c_face {g : fGP} {d : Nat} {σ : fAH} {Q : fRes → fAH → Prop} {x : fXS} {k : Nat} {nn ii : Nat} {o5 o6 : Option Value} (hg : gLL g < 2147483648) (hi6 : ii + 6 ≤ gLL g) (hI : fLI g σ x (nn + 1)) (hk : k < dT (xD x) 1) (ha1 : gxs g (ii + 1) = nI k) (h : ∀ σ' x' o5 o6, fLI g σ' x' nn → fEv g (d + 45) mL_law 1782 [some (.ref fscr), some (.ref 0), some (.ref 89), some (.ref 300), some (.int (nI ii)), o5, o6, none] [] σ' Q) : fEv g (d + 45) mL_law 1675 [some (.ref fscr), some (.ref 0), some (.ref 89), some (.ref 300), some (.int (nI ii)), o5, o6, none] [] σ Q := by
  refine e_aload_n dL_law_1675 rfl rfl ?_
  refine e_aload_n dL_law_1676 rfl rfl ?_
  refine e_iload dL_law_1677 rfl ?_
  refine e_iconst (nI 1) dL_law_1679 (by decide) ?_
  refine e_iadd dL_law_1680 ?_
  refine e_int (nI (ii + 1)) (nI_add ii 1) ?_
  refine e_sld (ii + 1) dL_law_1681 rfl (by omega) hg ?_
  refine e_int (nI k) ha1 ?_
  refine e_aload_n dL_law_1682 rfl rfl ?_
  refine e_callS [.ref 0, .int (nI k), .ref 300] dL_law_1683 cc_L_face lk_RL_193 st_L_face in_RL rfl (Nat.le_of_ble_eq_true rfl) (Nat.le_of_ble_eq_true rfl) ?_
  refine t_L_face hI.1 hI.2.1 hI.2.2.1 hk (fun σ1 s1 c1 v1 => fK_i ?_)
  show fEv g _ mL_law 1686 [some (.ref fscr), some (.ref 0), some (.ref 89), some (.ref 300), some (.int (nI ii)), o5, o6, none] [.int (nI 0)] σ1 Q
  have r1 := hI.2.2.2.1.clB hI.2.1 s1
  have M1 := hI.1.sm s1
  refine e_istore (L1 := [some (.ref fscr), some (.ref 0), some (.ref 89), some (.ref 300), some (.int (nI ii)), some (.int (nI 0)), o6, none]) dL_law_1686 (by decide) rfl ?_
  refine e_aload_n dL_law_1688 rfl rfl ?_
  refine e_aload_n dL_law_1689 rfl rfl ?_
  refine e_iload dL_law_1690 rfl ?_
  refine e_iconst (nI 1) dL_law_1692 (by decide) ?_
  refine e_iadd dL_law_1693 ?_
  refine e_int (nI (ii + 1)) (nI_add ii 1) ?_
  refine e_sld (ii + 1) dL_law_1694 rfl (by omega) hg ?_
  refine e_int (nI k) ha1 ?_
  refine e_callV (k := 89) [.int (nI k)] dL_law_1695 cc_X10_face lk_RL_195 im_X10_face se_X10_face (by decide) (M1.s 89 rfl) (M1.n (by decide)) rfl (Nat.le_of_ble_eq_true rfl) (Nat.le_of_ble_eq_true rfl) ?_
  refine t_X10_face M1 hI.2.1 r1 hk (fun σ2 s2 r2 z2 => fK_i ?_)
  show fEv g _ mL_law 1698 [some (.ref fscr), some (.ref 0), some (.ref 89), some (.ref 300), some (.int (nI ii)), some (.int (nI 0)), o6, none] [.int (mfc (iT (xI x)) (mneed (xD x) (iS (xI x)) k) ((iS (xI x)) 155) 0 (nI 0))] σ2 Q
  have M2 := M1.sm s2
  refine e_istore (L1 := [some (.ref fscr), some (.ref 0), some (.ref 89), some (.ref 300), some (.int (nI ii)), some (.int (nI 0)), some (.int (mfc (iT (xI x)) (mneed (xD x) (iS (xI x)) k) ((iS (xI x)) 155) 0 (nI 0))), none]) dL_law_1698 (by decide) rfl ?_
  refine e_aload_n dL_law_1700 rfl rfl ?_
  refine e_callV (k := 89) [] dL_law_1701 cc_X10_thrown lk_RL_99 im_X10_thrown se_X10_thrown (by decide) (M2.s 89 rfl) (M2.n (by decide)) rfl (Nat.le_of_ble_eq_true rfl) (Nat.le_of_ble_eq_true rfl) ?_
  refine t_X10_thrown M2 z2 (fK_i ?_)
  show fEv g _ mL_law 1704 [some (.ref fscr), some (.ref 0), some (.ref 89), some (.ref 300), some (.int (nI ii)), some (.int (nI 0)), some (.int (mfc (iT (xI x)) (mneed (xD x) (iS (xI x)) k) ((iS (xI x)) 155) 0 (nI 0))), none] [.int (nI 0)] σ2 Q
  refine e_iload dL_law_1704 rfl ?_
  refine e_icmp_eq 1711 dL_law_1706 (by decide) (fun _ => ?_) (fun c => absurd c (by decide))
  refine e_iload dL_law_1711 rfl ?_
  refine e_if_ne 1728 dL_law_1713 (by decide) (fun c => absurd c (by decide)) (fun _ => ?_)
  refine e_aload_n dL_law_1716 rfl rfl ?_
  refine e_iconst (nI 0) dL_law_1717 (by decide) ?_
  refine e_laload 0 dL_law_1718 (M2.s 300 rfl) (M2.n (by decide)) rfl (by omega) (by decide) ?_
  refine e_long (((mfc (iT (xI x)) (mneed (xD x) (iS (xI x)) k) ((iS (xI x)) 155) 0 (nI 0) : Int32)).toInt64) ((s2.j (fun q => by unfold fRfA at q; omega) 0).trans v1) ?_
  refine e_iload dL_law_1719 rfl ?_
  refine e_i2l dL_law_1721 ?_
  refine e_lcmp dL_law_1722 ?_
  refine e_if_eq 1728 dL_law_1723 (by decide) (fun _ => ?_) (fun c => absurd (lc_eq.mpr rfl) c)
  refine e_goto 1782 dL_law_1728 (by decide) ?_
  exact h σ2 _ _ _ ((hI.both hI.2.1 s1 c1 s2 r2).le (Nat.le_succ nn))
set_option maxRecDepth 20000 in
theorem c_faceE {g : fGP} {d : Nat} {σ : fAH} {Q : fRes → fAH → Prop} {x : fXS} {a : Int32} {nn ii : Nat} {o5 o6 : Option Value} (hg : gLL g < 2147483648) (hi6 : ii + 6 ≤ gLL g) (hI : fLI g σ x (nn + 1)) (hv : ¬ (nI 0 ≤ a ∧ a < nI (dT (xD x) 1))) (ha1 : gxs g (ii + 1) = a) (h : ∀ σ' x' o5 o6, fLI g σ' x' nn → fEv g (d + 45) mL_law 1782 [some (.ref fscr), some (.ref 0), some (.ref 89), some (.ref 300), some (.int (nI ii)), o5, o6, none] [] σ' Q) : fEv g (d + 45) mL_law 1675 [some (.ref fscr), some (.ref 0), some (.ref 89), some (.ref 300), some (.int (nI ii)), o5, o6, none] [] σ Q := by
  refine e_aload_n dL_law_1675 rfl rfl ?_
  refine e_aload_n dL_law_1676 rfl rfl ?_
  refine e_iload dL_law_1677 rfl ?_
  refine e_iconst (nI 1) dL_law_1679 (by decide) ?_
  refine e_iadd dL_law_1680 ?_
  refine e_int (nI (ii + 1)) (nI_add ii 1) ?_
  refine e_sld (ii + 1) dL_law_1681 rfl (by omega) hg ?_
  refine e_int (a) ha1 ?_
  refine e_aload_n dL_law_1682 rfl rfl ?_
  refine e_callS [.ref 0, .int a, .ref 300] dL_law_1683 cc_L_face lk_RL_193 st_L_face in_RL rfl (Nat.le_of_ble_eq_true rfl) (Nat.le_of_ble_eq_true rfl) ?_
  refine t_L_faceE hI.1 hI.2.1 hI.2.2.1 hv hI.rm (fK_i ?_)
  show fEv g _ mL_law 1686 [some (.ref fscr), some (.ref 0), some (.ref 89), some (.ref 300), some (.int (nI ii)), o5, o6, none] [.int (nI 1)] (fthr σ) Q
  have hJ := hI.thr
  refine e_istore (L1 := [some (.ref fscr), some (.ref 0), some (.ref 89), some (.ref 300), some (.int (nI ii)), some (.int (nI 1)), o6, none]) dL_law_1686 (by decide) rfl ?_
  refine e_aload_n dL_law_1688 rfl rfl ?_
  refine e_aload_n dL_law_1689 rfl rfl ?_
  refine e_iload dL_law_1690 rfl ?_
  refine e_iconst (nI 1) dL_law_1692 (by decide) ?_
  refine e_iadd dL_law_1693 ?_
  refine e_int (nI (ii + 1)) (nI_add ii 1) ?_
  refine e_sld (ii + 1) dL_law_1694 rfl (by omega) hg ?_
  refine e_int (a) ha1 ?_
  refine e_callV (k := 89) [.int a] dL_law_1695 cc_X10_face lk_RL_195 im_X10_face se_X10_face (by decide) (hJ.1.s 89 rfl) (hJ.1.n (by decide)) rfl (Nat.le_of_ble_eq_true rfl) (Nat.le_of_ble_eq_true rfl) ?_
  refine t_X10_faceE hJ.1 hJ.2.1 hJ.2.2.2.1 hv (fun σ2 s2 r2 z2 => fK_i ?_)
  show fEv g _ mL_law 1698 [some (.ref fscr), some (.ref 0), some (.ref 89), some (.ref 300), some (.int (nI ii)), some (.int (nI 1)), o6, none] [.int (nI 0)] σ2 Q
  have M2 := hJ.1.sm s2
  refine e_istore (L1 := [some (.ref fscr), some (.ref 0), some (.ref 89), some (.ref 300), some (.int (nI ii)), some (.int (nI 1)), some (.int (nI 0)), none]) dL_law_1698 (by decide) rfl ?_
  refine e_aload_n dL_law_1700 rfl rfl ?_
  refine e_callV (k := 89) [] dL_law_1701 cc_X10_thrown lk_RL_99 im_X10_thrown se_X10_thrown (by decide) (M2.s 89 rfl) (M2.n (by decide)) rfl (Nat.le_of_ble_eq_true rfl) (Nat.le_of_ble_eq_true rfl) ?_
  refine t_X10_thrown M2 z2 (fK_i ?_)
  show fEv g _ mL_law 1704 [some (.ref fscr), some (.ref 0), some (.ref 89), some (.ref 300), some (.int (nI ii)), some (.int (nI 1)), some (.int (nI 0)), none] [.int (nI 1)] σ2 Q
  refine e_iload dL_law_1704 rfl ?_
  refine e_icmp_eq 1711 dL_law_1706 (by decide) (fun _ => ?_) (fun c => absurd c (by decide))
  refine e_iload dL_law_1711 rfl ?_
  refine e_if_ne 1728 dL_law_1713 (by decide) (fun _ => ?_) (fun c => absurd c (by decide))
  refine e_goto 1782 dL_law_1728 (by decide) ?_
  exact h σ2 x _ _ (hJ.sm s2 hI.2.1 (hJ.2.2.1.rf hI.2.1 s2) r2)
set_option maxRecDepth 20000 in
theorem c_image {g : fGP} {d : Nat} {σ : fAH} {Q : fRes → fAH → Prop} {x : fXS}  {nn ii : Nat} {o5 o6 : Option Value} (hg : gLL g < 2147483648) (hi6 : ii + 6 ≤ gLL g) (hI : fLI g σ x (nn + 1)) (hi : xm x < 3)  (h : ∀ σ' x' o5 o6, fLI g σ' x' nn → fEv g (d + 45) mL_law 1782 [some (.ref fscr), some (.ref 0), some (.ref 89), some (.ref 300), some (.int (nI ii)), o5, o6, none] [] σ' Q) : fEv g (d + 45) mL_law 1731 [some (.ref fscr), some (.ref 0), some (.ref 89), some (.ref 300), some (.int (nI ii)), o5, o6, none] [] σ Q := by
  have okx : fOK (xImg x) := (hI.2.1.img hi)
  refine e_aload_n dL_law_1731 rfl rfl ?_
  refine e_callV (k := 0) [] dL_law_1732 cc_X9_image lk_RL_196 im_X9_image se_X9_image (by decide) (hI.1.s 0 rfl) (hI.1.n (by decide)) rfl (Nat.le_of_ble_eq_true rfl) (Nat.le_of_ble_eq_true rfl) ?_
  refine t_X9_image hI.1 hI.2.1 hI.2.2.1 hi (fun σ1 s0 c1 => fK_i ?_)
  show fEv g _ mL_law 1735 [some (.ref fscr), some (.ref 0), some (.ref 89), some (.ref 300), some (.int (nI ii)), o5, o6, none] [.int (nI (xm x + 1))] σ1 Q
  have s1 : fSm fClB σ σ1 := s0.to (fun a (q : a < 89) => Or.inl q)
  have r1 := hI.2.2.2.1.clB hI.2.1 s1
  have M1 := hI.1.sm s1
  refine e_aload_n dL_law_1735 rfl rfl ?_
  refine e_callV (k := 89) [] dL_law_1736 cc_X10_image lk_RL_199 im_X10_image se_X10_image (by decide) (M1.s 89 rfl) (M1.n (by decide)) rfl (Nat.le_of_ble_eq_true rfl) (Nat.le_of_ble_eq_true rfl) ?_
  refine t_X10_image M1 hI.2.1 r1 hi (fun σ2 s2 r2 z2 => fK_i ?_)
  show fEv g _ mL_law 1739 [some (.ref fscr), some (.ref 0), some (.ref 89), some (.ref 300), some (.int (nI ii)), o5, o6, none] [.int (nI (xm x + 1)), .int (nI (xm x + 1))] σ2 Q
  have M2 := M1.sm s2
  refine e_icmp_eq 1782 dL_law_1739 (by decide) (fun _ => ?_) (fun c => absurd rfl c)
  exact h σ2 _ _ _ ((hI.both okx s1 c1 s2 r2).le (Nat.le_succ nn))
set_option maxRecDepth 20000 in
theorem c_imageN {g : fGP} {d : Nat} {σ : fAH} {Q : fRes → fAH → Prop} {x : fXS}  {nn ii : Nat} {o5 o6 : Option Value} (hg : gLL g < 2147483648) (hi6 : ii + 6 ≤ gLL g) (hI : fLI g σ x (nn + 1)) (hi : xm x = 3)  (h : ∀ σ' x' o5 o6, fLI g σ' x' nn → fEv g (d + 45) mL_law 1782 [some (.ref fscr), some (.ref 0), some (.ref 89), some (.ref 300), some (.int (nI ii)), o5, o6, none] [] σ' Q) : fEv g (d + 45) mL_law 1731 [some (.ref fscr), some (.ref 0), some (.ref 89), some (.ref 300), some (.int (nI ii)), o5, o6, none] [] σ Q := by
  refine e_aload_n dL_law_1731 rfl rfl ?_
  refine e_callV (k := 0) [] dL_law_1732 cc_X9_image lk_RL_196 im_X9_image se_X9_image (by decide) (hI.1.s 0 rfl) (hI.1.n (by decide)) rfl (Nat.le_of_ble_eq_true rfl) (Nat.le_of_ble_eq_true rfl) ?_
  refine t_X9_imageN hI.1 hI.2.1 hI.2.2.1 hi (fK_i ?_)
  show fEv g _ mL_law 1735 [some (.ref fscr), some (.ref 0), some (.ref 89), some (.ref 300), some (.int (nI ii)), o5, o6, none] [.int ((-1))] σ Q
  have r1 := hI.2.2.2.1
  have M1 := hI.1
  have s1 : fSm fClB σ σ := ⟨rfl, rfl, fun _ _ => ⟨rfl, rfl⟩⟩
  have c1 := hI.2.2.1
  refine e_aload_n dL_law_1735 rfl rfl ?_
  refine e_callV (k := 89) [] dL_law_1736 cc_X10_image lk_RL_199 im_X10_image se_X10_image (by decide) (hI.1.s 89 rfl) (hI.1.n (by decide)) rfl (Nat.le_of_ble_eq_true rfl) (Nat.le_of_ble_eq_true rfl) ?_
  refine t_X10_imageN M1 hI.2.1 r1 hi (fun σ2 s2 r2 z2 => fK_i ?_)
  show fEv g _ mL_law 1739 [some (.ref fscr), some (.ref 0), some (.ref 89), some (.ref 300), some (.int (nI ii)), o5, o6, none] [.int ((-1)), .int ((-1))] σ2 Q
  have M2 := M1.sm s2
  refine e_icmp_eq 1782 dL_law_1739 (by decide) (fun _ => ?_) (fun c => absurd rfl c)
  exact h σ2 _ _ _ ((hI.both hI.2.1 s1 c1 s2 r2).le (Nat.le_succ nn))
set_option maxRecDepth 20000 in
theorem c_restore {g : fGP} {d : Nat} {σ : fAH} {Q : fRes → fAH → Prop} {x : fXS}  {nn ii : Nat} {o5 o6 : Option Value} (hg : gLL g < 2147483648) (hi6 : ii + 6 ≤ gLL g) (hI : fLI g σ x (nn + 1)) (hi : 0 < xm x)  (h : ∀ σ' x' o5 o6, fLI g σ' x' nn → fEv g (d + 45) mL_law 1782 [some (.ref fscr), some (.ref 0), some (.ref 89), some (.ref 300), some (.int (nI ii)), o5, o6, none] [] σ' Q) : fEv g (d + 45) mL_law 1744 [some (.ref fscr), some (.ref 0), some (.ref 89), some (.ref 300), some (.int (nI ii)), o5, o6, none] [] σ Q := by
  have okx : fOK (xRst x) := (hI.2.1.rst hi)
  refine e_aload_n dL_law_1744 rfl rfl ?_
  refine e_callV (k := 0) [] dL_law_1745 cc_X9_restore lk_RL_200 im_X9_restore se_X9_restore (by decide) (hI.1.s 0 rfl) (hI.1.n (by decide)) rfl (Nat.le_of_ble_eq_true rfl) (Nat.le_of_ble_eq_true rfl) ?_
  refine t_X9_restore hI.1 hI.2.1 hI.2.2.1 hi (fun σ1 s0 c1 => fK_i ?_)
  show fEv g _ mL_law 1748 [some (.ref fscr), some (.ref 0), some (.ref 89), some (.ref 300), some (.int (nI ii)), o5, o6, none] [.int (nI (xm x - 1))] σ1 Q
  have s1 : fSm fClB σ σ1 := s0.to (fun a (q : a < 89) => Or.inl q)
  have r1 := hI.2.2.2.1.clB hI.2.1 s1
  have M1 := hI.1.sm s1
  refine e_aload_n dL_law_1748 rfl rfl ?_
  refine e_callV (k := 89) [] dL_law_1749 cc_X10_restore lk_RL_203 im_X10_restore se_X10_restore (by decide) (M1.s 89 rfl) (M1.n (by decide)) rfl (Nat.le_of_ble_eq_true rfl) (Nat.le_of_ble_eq_true rfl) ?_
  refine t_X10_restore M1 hI.2.1 r1 hi (fun σ2 s2 r2 z2 => fK_i ?_)
  show fEv g _ mL_law 1752 [some (.ref fscr), some (.ref 0), some (.ref 89), some (.ref 300), some (.int (nI ii)), o5, o6, none] [.int (nI (xm x - 1)), .int (nI (xm x - 1))] σ2 Q
  have M2 := M1.sm s2
  refine e_icmp_eq 1782 dL_law_1752 (by decide) (fun _ => ?_) (fun c => absurd rfl c)
  exact h σ2 _ _ _ ((hI.both okx s1 c1 s2 r2).le (Nat.le_succ nn))
set_option maxRecDepth 20000 in
theorem c_restoreN {g : fGP} {d : Nat} {σ : fAH} {Q : fRes → fAH → Prop} {x : fXS}  {nn ii : Nat} {o5 o6 : Option Value} (hg : gLL g < 2147483648) (hi6 : ii + 6 ≤ gLL g) (hI : fLI g σ x (nn + 1)) (hi : xm x = 0)  (h : ∀ σ' x' o5 o6, fLI g σ' x' nn → fEv g (d + 45) mL_law 1782 [some (.ref fscr), some (.ref 0), some (.ref 89), some (.ref 300), some (.int (nI ii)), o5, o6, none] [] σ' Q) : fEv g (d + 45) mL_law 1744 [some (.ref fscr), some (.ref 0), some (.ref 89), some (.ref 300), some (.int (nI ii)), o5, o6, none] [] σ Q := by
  refine e_aload_n dL_law_1744 rfl rfl ?_
  refine e_callV (k := 0) [] dL_law_1745 cc_X9_restore lk_RL_200 im_X9_restore se_X9_restore (by decide) (hI.1.s 0 rfl) (hI.1.n (by decide)) rfl (Nat.le_of_ble_eq_true rfl) (Nat.le_of_ble_eq_true rfl) ?_
  refine t_X9_restoreN hI.1 hI.2.1 hI.2.2.1 hi (fK_i ?_)
  show fEv g _ mL_law 1748 [some (.ref fscr), some (.ref 0), some (.ref 89), some (.ref 300), some (.int (nI ii)), o5, o6, none] [.int ((-1))] σ Q
  have r1 := hI.2.2.2.1
  have M1 := hI.1
  have s1 : fSm fClB σ σ := ⟨rfl, rfl, fun _ _ => ⟨rfl, rfl⟩⟩
  have c1 := hI.2.2.1
  refine e_aload_n dL_law_1748 rfl rfl ?_
  refine e_callV (k := 89) [] dL_law_1749 cc_X10_restore lk_RL_203 im_X10_restore se_X10_restore (by decide) (hI.1.s 89 rfl) (hI.1.n (by decide)) rfl (Nat.le_of_ble_eq_true rfl) (Nat.le_of_ble_eq_true rfl) ?_
  refine t_X10_restoreN M1 hI.2.1 r1 hi (fun σ2 s2 r2 z2 => fK_i ?_)
  show fEv g _ mL_law 1752 [some (.ref fscr), some (.ref 0), some (.ref 89), some (.ref 300), some (.int (nI ii)), o5, o6, none] [.int ((-1)), .int ((-1))] σ2 Q
  have M2 := M1.sm s2
  refine e_icmp_eq 1782 dL_law_1752 (by decide) (fun _ => ?_) (fun c => absurd rfl c)
  exact h σ2 _ _ _ ((hI.both hI.2.1 s1 c1 s2 r2).le (Nat.le_succ nn))
set_option maxRecDepth 20000 in
theorem c_count {g : fGP} {d : Nat} {σ : fAH} {Q : fRes → fAH → Prop} {x : fXS} {w : Nat} {nn ii : Nat} {o5 o6 : Option Value} (hg : gLL g < 2147483648) (hi6 : ii + 6 ≤ gLL g) (hI : fLI g σ x (nn + 1)) (hw : w < 4) (ha1 : gxs g (ii + 1) = nI w) (h : ∀ σ' x' o5 o6, fLI g σ' x' nn → fEv g (d + 45) mL_law 1782 [some (.ref fscr), some (.ref 0), some (.ref 89), some (.ref 300), some (.int (nI ii)), o5, o6, none] [] σ' Q) : fEv g (d + 45) mL_law 1757 [some (.ref fscr), some (.ref 0), some (.ref 89), some (.ref 300), some (.int (nI ii)), o5, o6, none] [] σ Q := by
  refine e_aload_n dL_law_1757 rfl rfl ?_
  refine e_aload_n dL_law_1758 rfl rfl ?_
  refine e_iload dL_law_1759 rfl ?_
  refine e_iconst (nI 1) dL_law_1761 (by decide) ?_
  refine e_iadd dL_law_1762 ?_
  refine e_int (nI (ii + 1)) (nI_add ii 1) ?_
  refine e_sld (ii + 1) dL_law_1763 rfl (by omega) hg ?_
  refine e_int (nI w) ha1 ?_
  refine e_callV (k := 0) [.int (nI w)] dL_law_1764 cc_X9_count lk_RL_204 im_X9_count se_X9_count (by decide) (hI.1.s 0 rfl) (hI.1.n (by decide)) rfl (Nat.le_of_ble_eq_true rfl) (Nat.le_of_ble_eq_true rfl) ?_
  refine t_X9_count hI.1 hI.2.1 hI.2.2.1 hw (fK_i ?_)
  show fEv g _ mL_law 1767 [some (.ref fscr), some (.ref 0), some (.ref 89), some (.ref 300), some (.int (nI ii)), o5, o6, none] [.int (vCnt x w)] σ Q
  have r1 := hI.2.2.2.1
  have M1 := hI.1
  have s1 : fSm fClB σ σ := ⟨rfl, rfl, fun _ _ => ⟨rfl, rfl⟩⟩
  have c1 := hI.2.2.1
  refine e_aload_n dL_law_1767 rfl rfl ?_
  refine e_aload_n dL_law_1768 rfl rfl ?_
  refine e_iload dL_law_1769 rfl ?_
  refine e_iconst (nI 1) dL_law_1771 (by decide) ?_
  refine e_iadd dL_law_1772 ?_
  refine e_int (nI (ii + 1)) (nI_add ii 1) ?_
  refine e_sld (ii + 1) dL_law_1773 rfl (by omega) hg ?_
  refine e_int (nI w) ha1 ?_
  refine e_callV (k := 89) [.int (nI w)] dL_law_1774 cc_X10_count lk_RL_207 im_X10_count se_X10_count (by decide) (hI.1.s 89 rfl) (hI.1.n (by decide)) rfl (Nat.le_of_ble_eq_true rfl) (Nat.le_of_ble_eq_true rfl) ?_
  refine t_X10_count M1 hI.2.1 r1 hw (fun σ2 s2 r2 z2 => fK_i ?_)
  show fEv g _ mL_law 1777 [some (.ref fscr), some (.ref 0), some (.ref 89), some (.ref 300), some (.int (nI ii)), o5, o6, none] [.int (vCnt x w), .int (vCnt x w)] σ2 Q
  have M2 := M1.sm s2
  refine e_icmp_eq 1782 dL_law_1777 (by decide) (fun _ => ?_) (fun c => absurd rfl c)
  exact h σ2 _ _ _ ((hI.both hI.2.1 s1 c1 s2 r2).le (Nat.le_succ nn))
set_option maxRecDepth 20000 in
theorem c_countN {g : fGP} {d : Nat} {σ : fAH} {Q : fRes → fAH → Prop} {x : fXS} {a : Int32} {nn ii : Nat} {o5 o6 : Option Value} (hg : gLL g < 2147483648) (hi6 : ii + 6 ≤ gLL g) (hI : fLI g σ x (nn + 1)) (hv : ¬ (nI 0 ≤ a ∧ a ≤ nI 3)) (ha1 : gxs g (ii + 1) = a) (h : ∀ σ' x' o5 o6, fLI g σ' x' nn → fEv g (d + 45) mL_law 1782 [some (.ref fscr), some (.ref 0), some (.ref 89), some (.ref 300), some (.int (nI ii)), o5, o6, none] [] σ' Q) : fEv g (d + 45) mL_law 1757 [some (.ref fscr), some (.ref 0), some (.ref 89), some (.ref 300), some (.int (nI ii)), o5, o6, none] [] σ Q := by
  refine e_aload_n dL_law_1757 rfl rfl ?_
  refine e_aload_n dL_law_1758 rfl rfl ?_
  refine e_iload dL_law_1759 rfl ?_
  refine e_iconst (nI 1) dL_law_1761 (by decide) ?_
  refine e_iadd dL_law_1762 ?_
  refine e_int (nI (ii + 1)) (nI_add ii 1) ?_
  refine e_sld (ii + 1) dL_law_1763 rfl (by omega) hg ?_
  refine e_int (a) ha1 ?_
  refine e_callV (k := 0) [.int a] dL_law_1764 cc_X9_count lk_RL_204 im_X9_count se_X9_count (by decide) (hI.1.s 0 rfl) (hI.1.n (by decide)) rfl (Nat.le_of_ble_eq_true rfl) (Nat.le_of_ble_eq_true rfl) ?_
  refine t_X9_countN hI.1 hI.2.1 hI.2.2.1 hv (fK_i ?_)
  show fEv g _ mL_law 1767 [some (.ref fscr), some (.ref 0), some (.ref 89), some (.ref 300), some (.int (nI ii)), o5, o6, none] [.int ((-1))] σ Q
  have r1 := hI.2.2.2.1
  have M1 := hI.1
  have s1 : fSm fClB σ σ := ⟨rfl, rfl, fun _ _ => ⟨rfl, rfl⟩⟩
  have c1 := hI.2.2.1
  refine e_aload_n dL_law_1767 rfl rfl ?_
  refine e_aload_n dL_law_1768 rfl rfl ?_
  refine e_iload dL_law_1769 rfl ?_
  refine e_iconst (nI 1) dL_law_1771 (by decide) ?_
  refine e_iadd dL_law_1772 ?_
  refine e_int (nI (ii + 1)) (nI_add ii 1) ?_
  refine e_sld (ii + 1) dL_law_1773 rfl (by omega) hg ?_
  refine e_int (a) ha1 ?_
  refine e_callV (k := 89) [.int a] dL_law_1774 cc_X10_count lk_RL_207 im_X10_count se_X10_count (by decide) (hI.1.s 89 rfl) (hI.1.n (by decide)) rfl (Nat.le_of_ble_eq_true rfl) (Nat.le_of_ble_eq_true rfl) ?_
  refine t_X10_countN M1 hI.2.1 r1 hv (fun σ2 s2 r2 z2 => fK_i ?_)
  show fEv g _ mL_law 1777 [some (.ref fscr), some (.ref 0), some (.ref 89), some (.ref 300), some (.int (nI ii)), o5, o6, none] [.int ((-1)), .int ((-1))] σ2 Q
  have M2 := M1.sm s2
  refine e_icmp_eq 1782 dL_law_1777 (by decide) (fun _ => ?_) (fun c => absurd rfl c)
  exact h σ2 _ _ _ ((hI.both hI.2.1 s1 c1 s2 r2).le (Nat.le_succ nn))
