theorem nI_rem4 {a : Nat} (ha : a < 1000) : nI a - nI a / nI 4 * nI 4 = nI (a % 4) := by
  have hd : nI a / nI 4 = nI (a / 4) := (Int32.ofNat_div (by omega) (by omega)).symm
  have h : a / 4 * 4 ≤ a := Nat.div_mul_le_self a 4
  rw [hd, pk_mul, pk_sub h]
  exact congrArg nI (by omega)
set_option maxRecDepth 20000 in
theorem lp_X10_planN {g : fGP} {d : Nat} {σ : fAH} {Q : fRes → fAH → Prop} {x : fXS} {f : Nat}  (Ms : fMs g σ) (ok : fOK x) (Ir : fIr σ x) (hz : fI σ 89 0 = nI 0) (hf : f < 2 ^ dT (xD x) 1) (hp9 : ipn (xI x) = 30) (h : ∀ σ', fSm fRfA σ σ' → fIr σ' x → fI σ' 89 0 = nI 0 → Q (.inl (some (.int (-1)))) σ') : fEv g (d + 1) mX10_plan 5 [some (.ref 89), some (.int (nI f))] [] σ Q := by
  obtain ⟨D, ⟨S, T, sd, pn, P, rn, R⟩, B, tp, pl, im, Im⟩ := x
  have hD : fWD D := ok.1
  have hW : fWS D S := ok.2.1.1
  have hC : fWC D S := ok.2.1.2.1
  have hN : fWN S 0 0 := ok.2.1.2.2.1
  have Mr : fMr σ D S sd := Ir.1
  have Mt : fMt σ S T := Ir.2.1
  obtain ⟨t0, t1, t2, t3, t4, t5, t6⟩ := id hD.1
  have np := hW.n hD
  have n5 := hW.2.2.2.2
  have tp6 : tp ≤ 600 := ok.2.2.2.1
  have im3 : im ≤ 3 := ok.2.2.2.2.1
  have pn3 : pn ≤ 30 := ok.2.1.2.2.2.1
  have rn6 : rn ≤ 60 := ok.2.1.2.2.2.2.2.1
  have Rc : fRc σ (S, T, sd, pn, P, rn, R) := Ir.2.2.2.2.1
  have w52 := hW.1
  have hf : f < 2 ^ dT D 1 := hf
  have p12 : 2 ^ dT D 1 ≤ 2 ^ 12 := Nat.pow_le_pow_right (by decide) t1
  have e12 : (2 : Nat) ^ 12 = 4096 := by decide
  have hp9 : pn = 30 := hp9
  show fEv g (d + 1) mX10_plan 5 [some (.ref 89), some (.int (nI f))] [] σ Q
  refine e_aload_n dX10_plan_5 rfl rfl ?_
  refine e_iload_n dX10_plan_6 rfl rfl ?_
  refine e_iconst (nI 0) dX10_plan_7 (by decide) ?_
  refine e_iconst (nI 1) dX10_plan_8 (by decide) ?_
  refine e_aload_n dX10_plan_9 rfl rfl ?_
  refine e_getR (q := 92) dX10_plan_10 fl_RX10_20 (Ms.s 89 rfl) (Ms.n (by decide)) rfl (Ms.r 89 10 rfl) (by unfold fscr; omega) ?_
  refine e_iconst (nI 1) dX10_plan_13 (by decide) ?_
  refine e_iaload 1 dX10_plan_14 (Ms.s 92 rfl) (Ms.n (by decide)) rfl (by omega) (by decide) ?_
  refine e_int (nI (dT D 1)) (Mr.t 1 (by omega)) ?_
  refine e_ishl dX10_plan_15 ?_
  refine e_int (nI (2 ^ dT D 1)) (nI_sh1 (by omega)) ?_
  refine e_iconst (nI 1) dX10_plan_16 (by decide) ?_
  refine e_isub dX10_plan_17 ?_
  refine e_callS [.int (nI f), .int (nI 0), .int ((nI (2 ^ dT D 1)) - (nI 1))] dX10_plan_18 cc_X10_in lk_RX10_110 st_X10_in in_RX10 rfl (Nat.le_of_ble_eq_true rfl) (Nat.le_of_ble_eq_true rfl) ?_
  refine t_X10_inT ⟨(nI_le' (by omega) (by omega)).mpr (by omega), (le_sub1 (by omega)).mpr ((nI_lt' (by omega) (by omega)).mpr (by omega))⟩ (fK_i ?_)
  show fEv g _ mX10_plan 21 [some (.ref 89), some (.int (nI f))] [.int (nI 1), .ref 89] σ Q
  refine e_if_ne 28 dX10_plan_21 (by decide) (fun _ => ?_) (fun c => absurd c (by decide))
  refine e_iconst (nI 0) dX10_plan_28 (by decide) ?_
  refine e_iconst (nI 1) dX10_plan_29 (by decide) ?_
  refine e_callV (k := 89) [.int (nI 0), .int (nI 1)] dX10_plan_30 cc_X10_bad lk_RX10_148 im_X10_bad se_X10_bad (by decide) (Ms.s 89 rfl) (Ms.n (by decide)) rfl (Nat.le_of_ble_eq_true rfl) (Nat.le_of_ble_eq_true rfl) ?_
  refine t_X10_bad0 Ms hz (by decide) (fK_i ?_)
  show fEv g _ mX10_plan 33 [some (.ref 89), some (.int (nI f))] [.int (nI 0)] σ Q
  refine e_if_eq 38 dX10_plan_33 (by decide) (fun _ => ?_) (fun c => absurd c (by decide))
  refine e_aload_n dX10_plan_38 rfl rfl ?_
  refine e_getI dX10_plan_39 fl_RX10_159 (Ms.s 89 rfl) (Ms.n (by decide)) rfl ?_
  refine e_int (nI pn) Rc.1 ?_
  refine e_bipush (nI 30) dX10_plan_42 (by decide) ?_
  refine e_icmp_ne 49 dX10_plan_44 (by decide) (fun c44 => ?_) (fun c44 => ?_)
  · rw [nI_inj (by omega) (by omega)] at c44
    exact absurd hp9 c44
  · rw [nI_inj (by omega) (by omega)] at c44
    refine e_iconst (-1) dX10_plan_47 (by decide) ?_
    exact e_ireturn .int dX10_plan_48 rfl rfl (h σ fSm.rfl' Ir hz)
set_option maxRecDepth 20000 in
theorem t_X10_planN {g : fGP} {d : Nat} {σ : fAH} {Q : fRes → fAH → Prop} {x : fXS} {f : Nat}  (Ms : fMs g σ) (ok : fOK x) (Ir : fIr σ x) (hf : f < 2 ^ dT (xD x) 1) (hp9 : ipn (xI x) = 30) (h : ∀ σ', fSm fRfA σ σ' → fIr σ' x → fI σ' 89 0 = nI 0 → Q (.inl (some (.int (-1)))) σ') : fEv g (d + 1) mX10_plan 0 (fent [.ref 89, .int (nI f)] 2) [] σ Q := by
  have S9 : fSm (fun a => a = 89) σ (fsI σ 89 0 (nI 0)) := fSm_I rfl
  show fEv g (d + 1) mX10_plan 0 [some (.ref 89), some (.int (nI f))] [] σ Q
  refine e_aload_n dX10_plan_0 rfl rfl ?_
  refine e_iconst (nI 0) dX10_plan_1 (by decide) ?_
  refine e_putI dX10_plan_2 fl_RX10_76 (Ms.s 89 rfl) (Ms.n (by decide)) rfl rfl ?_
  exact lp_X10_planN (Ms.sm S9) ok (Ir.f0 ok S9 (fun a (q : a = 89) => Or.inl (by omega)) (fun j hj => by simp only [List.mem_cons, List.not_mem_nil, or_false] at hj; rw [fI_I, if_neg (by omega)])) (by rw [fI_I, if_pos ⟨rfl, rfl⟩]) hf hp9 (fun σ' Sm' => h σ' ((S9.to (fun a (q : a = 89) => by unfold fRfA; omega)).tr Sm'))
set_option maxRecDepth 20000 in
theorem lp_X10_plan {g : fGP} {d : Nat} {σ : fAH} {Q : fRes → fAH → Prop} {x : fXS} {f : Nat}  (Ms : fMs g σ) (ok : fOK x) (Ir : fIr σ x) (hz : fI σ 89 0 = nI 0) (hf : f < 2 ^ dT (xD x) 1) (hp9 : ipn (xI x) < 30) (h : ∀ σ', fSm fRfA σ σ' → fIr σ' (xD x, (iS (xI x), iT (xI x), iq (xI x), ipn (xI x) + 1, mup (iP (xI x)) (ipn (xI x)) f, irn (xI x), iR (xI x)), xB x, xt x, xp x, xm x, xM x) → fI σ' 89 0 = nI 0 → Q (.inl (some (.int (nI (ipn (xI x) + 1))))) σ') : fEv g (d + 1) mX10_plan 5 [some (.ref 89), some (.int (nI f))] [] σ Q := by
  obtain ⟨D, ⟨S, T, sd, pn, P, rn, R⟩, B, tp, pl, im, Im⟩ := x
  have hD : fWD D := ok.1
  have hW : fWS D S := ok.2.1.1
  have hC : fWC D S := ok.2.1.2.1
  have hN : fWN S 0 0 := ok.2.1.2.2.1
  have Mr : fMr σ D S sd := Ir.1
  have Mt : fMt σ S T := Ir.2.1
  obtain ⟨t0, t1, t2, t3, t4, t5, t6⟩ := id hD.1
  have np := hW.n hD
  have n5 := hW.2.2.2.2
  have tp6 : tp ≤ 600 := ok.2.2.2.1
  have im3 : im ≤ 3 := ok.2.2.2.2.1
  have pn3 : pn ≤ 30 := ok.2.1.2.2.2.1
  have rn6 : rn ≤ 60 := ok.2.1.2.2.2.2.2.1
  have Rc : fRc σ (S, T, sd, pn, P, rn, R) := Ir.2.2.2.2.1
  have w52 := hW.1
  have hf : f < 2 ^ dT D 1 := hf
  have p12 : 2 ^ dT D 1 ≤ 2 ^ 12 := Nat.pow_le_pow_right (by decide) t1
  have e12 : (2 : Nat) ^ 12 = 4096 := by decide
  have hp9 : pn < 30 := hp9
  show fEv g (d + 1) mX10_plan 5 [some (.ref 89), some (.int (nI f))] [] σ Q
  refine e_aload_n dX10_plan_5 rfl rfl ?_
  refine e_iload_n dX10_plan_6 rfl rfl ?_
  refine e_iconst (nI 0) dX10_plan_7 (by decide) ?_
  refine e_iconst (nI 1) dX10_plan_8 (by decide) ?_
  refine e_aload_n dX10_plan_9 rfl rfl ?_
  refine e_getR (q := 92) dX10_plan_10 fl_RX10_20 (Ms.s 89 rfl) (Ms.n (by decide)) rfl (Ms.r 89 10 rfl) (by unfold fscr; omega) ?_
  refine e_iconst (nI 1) dX10_plan_13 (by decide) ?_
  refine e_iaload 1 dX10_plan_14 (Ms.s 92 rfl) (Ms.n (by decide)) rfl (by omega) (by decide) ?_
  refine e_int (nI (dT D 1)) (Mr.t 1 (by omega)) ?_
  refine e_ishl dX10_plan_15 ?_
  refine e_int (nI (2 ^ dT D 1)) (nI_sh1 (by omega)) ?_
  refine e_iconst (nI 1) dX10_plan_16 (by decide) ?_
  refine e_isub dX10_plan_17 ?_
  refine e_callS [.int (nI f), .int (nI 0), .int ((nI (2 ^ dT D 1)) - (nI 1))] dX10_plan_18 cc_X10_in lk_RX10_110 st_X10_in in_RX10 rfl (Nat.le_of_ble_eq_true rfl) (Nat.le_of_ble_eq_true rfl) ?_
  refine t_X10_inT ⟨(nI_le' (by omega) (by omega)).mpr (by omega), (le_sub1 (by omega)).mpr ((nI_lt' (by omega) (by omega)).mpr (by omega))⟩ (fK_i ?_)
  show fEv g _ mX10_plan 21 [some (.ref 89), some (.int (nI f))] [.int (nI 1), .ref 89] σ Q
  refine e_if_ne 28 dX10_plan_21 (by decide) (fun _ => ?_) (fun c => absurd c (by decide))
  refine e_iconst (nI 0) dX10_plan_28 (by decide) ?_
  refine e_iconst (nI 1) dX10_plan_29 (by decide) ?_
  refine e_callV (k := 89) [.int (nI 0), .int (nI 1)] dX10_plan_30 cc_X10_bad lk_RX10_148 im_X10_bad se_X10_bad (by decide) (Ms.s 89 rfl) (Ms.n (by decide)) rfl (Nat.le_of_ble_eq_true rfl) (Nat.le_of_ble_eq_true rfl) ?_
  refine t_X10_bad0 Ms hz (by decide) (fK_i ?_)
  show fEv g _ mX10_plan 33 [some (.ref 89), some (.int (nI f))] [.int (nI 0)] σ Q
  refine e_if_eq 38 dX10_plan_33 (by decide) (fun _ => ?_) (fun c => absurd c (by decide))
  refine e_aload_n dX10_plan_38 rfl rfl ?_
  refine e_getI dX10_plan_39 fl_RX10_159 (Ms.s 89 rfl) (Ms.n (by decide)) rfl ?_
  refine e_int (nI pn) Rc.1 ?_
  refine e_bipush (nI 30) dX10_plan_42 (by decide) ?_
  refine e_icmp_ne 49 dX10_plan_44 (by decide) (fun _ => ?_) (fun c => absurd ((nI_inj (by omega) (by omega)).mp c) (by omega))
  refine e_aload_n dX10_plan_49 rfl rfl ?_
  refine e_getR (q := 219) dX10_plan_50 fl_RX10_55 (Ms.s 89 rfl) (Ms.n (by decide)) rfl (Ms.r 89 26 rfl) (by unfold fscr; omega) ?_
  refine e_aload_n dX10_plan_53 rfl rfl ?_
  refine e_getI dX10_plan_54 fl_RX10_159 (Ms.s 89 rfl) (Ms.n (by decide)) rfl ?_
  refine e_int (nI pn) Rc.1 ?_
  refine e_iload_n dX10_plan_57 rfl rfl ?_
  refine e_iastore pn dX10_plan_58 (Ms.s 219 rfl) (Ms.n (by decide)) rfl (by omega) (by decide) ?_
  refine e_aload_n dX10_plan_59 rfl rfl ?_
  refine e_dup dX10_plan_60 rfl ?_
  refine e_getI dX10_plan_61 fl_RX10_159 (Ms.s 89 rfl) (Ms.n (by decide)) rfl ?_
  refine e_int (nI pn) (by rw [fI_I, if_neg (by omega)]; exact Rc.1) ?_
  refine e_iconst (nI 1) dX10_plan_64 (by decide) ?_
  refine e_iadd dX10_plan_65 ?_
  refine e_int (nI (pn + 1)) (nI_add pn 1) ?_
  refine e_putI dX10_plan_66 fl_RX10_159 (Ms.s 89 rfl) (Ms.n (by decide)) rfl rfl ?_
  refine e_aload_n dX10_plan_69 rfl rfl ?_
  refine e_getI dX10_plan_70 fl_RX10_159 (Ms.s 89 rfl) (Ms.n (by decide)) rfl ?_
  refine e_int (nI (pn + 1)) (by rw [fI_I, if_pos ⟨rfl, rfl⟩]) ?_
  have sm9 : fSm (fun a => a = 89 ∨ a = 219) σ (fsI (fsI σ 219 pn (nI f)) 89 22 (nI (pn + 1))) := (fSm_I (Or.inr rfl)).tr (fSm_I (Or.inl rfl))
  refine e_ireturn .int dX10_plan_73 rfl rfl (h _ (sm9.to (fun a q => by unfold fRfA; omega)) (Ir.cur (i := (S, T, sd, pn + 1, mup P pn f, rn, R)) ok sm9 (fun a q => by omega) (fun j hj => by simp only [List.mem_cons, List.not_mem_nil, or_false] at hj; rw [fI_I, if_neg (by omega), fI_I, if_neg (by omega)]) (Mr.smm sm9 hD (fun i h1 h2 q => by omega)) (Mt.cg hD hW (fun j => sm9.i (by omega) j) (fun r hr j => sm9.i (by omega) j)) ⟨by rw [fI_I, if_pos ⟨rfl, rfl⟩], fun j hj => ?_, (by rw [fI_I, if_neg (by omega), fI_I, if_neg (by omega)]; exact Rc.2.2.1), fun r hr => ?_⟩) (by rw [fI_I, if_neg (by omega), fI_I, if_neg (by omega)]; exact hz))
  · have hj : j < pn + 1 := hj
    show fI (fsI (fsI σ 219 pn (nI f)) 89 22 (nI (pn + 1))) 219 j = nI (mup P pn f j)
    unfold mup
    by_cases e : j = pn
    · rw [fI_I, if_neg (by omega), fI_I, if_pos ⟨rfl, e⟩, if_pos e]
    · rw [fI_I, if_neg (by omega), fI_I, if_neg (by omega), if_neg e]; exact Rc.2.1 j (show j < pn by omega)
  · have hr : r < rn := hr
    rw [sm9.i (by omega), sm9.i (by omega)]; exact Rc.2.2.2 r hr
set_option maxRecDepth 20000 in
theorem t_X10_plan {g : fGP} {d : Nat} {σ : fAH} {Q : fRes → fAH → Prop} {x : fXS} {f : Nat}  (Ms : fMs g σ) (ok : fOK x) (Ir : fIr σ x) (hf : f < 2 ^ dT (xD x) 1) (hp9 : ipn (xI x) < 30) (h : ∀ σ', fSm fRfA σ σ' → fIr σ' (xD x, (iS (xI x), iT (xI x), iq (xI x), ipn (xI x) + 1, mup (iP (xI x)) (ipn (xI x)) f, irn (xI x), iR (xI x)), xB x, xt x, xp x, xm x, xM x) → fI σ' 89 0 = nI 0 → Q (.inl (some (.int (nI (ipn (xI x) + 1))))) σ') : fEv g (d + 1) mX10_plan 0 (fent [.ref 89, .int (nI f)] 2) [] σ Q := by
  have S9 : fSm (fun a => a = 89) σ (fsI σ 89 0 (nI 0)) := fSm_I rfl
  show fEv g (d + 1) mX10_plan 0 [some (.ref 89), some (.int (nI f))] [] σ Q
  refine e_aload_n dX10_plan_0 rfl rfl ?_
  refine e_iconst (nI 0) dX10_plan_1 (by decide) ?_
  refine e_putI dX10_plan_2 fl_RX10_76 (Ms.s 89 rfl) (Ms.n (by decide)) rfl rfl ?_
  exact lp_X10_plan (Ms.sm S9) ok (Ir.f0 ok S9 (fun a (q : a = 89) => Or.inl (by omega)) (fun j hj => by simp only [List.mem_cons, List.not_mem_nil, or_false] at hj; rw [fI_I, if_neg (by omega)])) (by rw [fI_I, if_pos ⟨rfl, rfl⟩]) hf hp9 (fun σ' Sm' => h σ' ((S9.to (fun a (q : a = 89) => by unfold fRfA; omega)).tr Sm'))
set_option maxRecDepth 20000 in
theorem lp_X10_planE {g : fGP} {d : Nat} {σ : fAH} {Q : fRes → fAH → Prop} {x : fXS} {a : Int32}  (Ms : fMs g σ) (ok : fOK x) (Ir : fIr σ x) (hz : fI σ 89 0 = nI 0) (hv : ¬ (nI 0 ≤ a ∧ a < nI (2 ^ dT (xD x) 1))) (h : ∀ σ', fSm fRfA σ σ' → fIr σ' x → fI σ' 89 0 = nI 1 → Q (.inl (some (.int (nI 0)))) σ') : fEv g (d + 1) mX10_plan 5 [some (.ref 89), some (.int a)] [] σ Q := by
  obtain ⟨D, ⟨S, T, sd, pn, P, rn, R⟩, B, tp, pl, im, Im⟩ := x
  have hD : fWD D := ok.1
  have hW : fWS D S := ok.2.1.1
  have hC : fWC D S := ok.2.1.2.1
  have hN : fWN S 0 0 := ok.2.1.2.2.1
  have Mr : fMr σ D S sd := Ir.1
  have Mt : fMt σ S T := Ir.2.1
  obtain ⟨t0, t1, t2, t3, t4, t5, t6⟩ := id hD.1
  have np := hW.n hD
  have n5 := hW.2.2.2.2
  have tp6 : tp ≤ 600 := ok.2.2.2.1
  have im3 : im ≤ 3 := ok.2.2.2.2.1
  have pn3 : pn ≤ 30 := ok.2.1.2.2.2.1
  have rn6 : rn ≤ 60 := ok.2.1.2.2.2.2.2.1
  have Rc : fRc σ (S, T, sd, pn, P, rn, R) := Ir.2.2.2.2.1
  have w52 := hW.1
  have p12 : 2 ^ dT D 1 ≤ 2 ^ 12 := Nat.pow_le_pow_right (by decide) t1
  have e12 : (2 : Nat) ^ 12 = 4096 := by decide
  show fEv g (d + 1) mX10_plan 5 [some (.ref 89), some (.int a)] [] σ Q
  refine e_aload_n dX10_plan_5 rfl rfl ?_
  refine e_iload_n dX10_plan_6 rfl rfl ?_
  refine e_iconst (nI 0) dX10_plan_7 (by decide) ?_
  refine e_iconst (nI 1) dX10_plan_8 (by decide) ?_
  refine e_aload_n dX10_plan_9 rfl rfl ?_
  refine e_getR (q := 92) dX10_plan_10 fl_RX10_20 (Ms.s 89 rfl) (Ms.n (by decide)) rfl (Ms.r 89 10 rfl) (by unfold fscr; omega) ?_
  refine e_iconst (nI 1) dX10_plan_13 (by decide) ?_
  refine e_iaload 1 dX10_plan_14 (Ms.s 92 rfl) (Ms.n (by decide)) rfl (by omega) (by decide) ?_
  refine e_int (nI (dT D 1)) (Mr.t 1 (by omega)) ?_
  refine e_ishl dX10_plan_15 ?_
  refine e_int (nI (2 ^ dT D 1)) (nI_sh1 (by omega)) ?_
  refine e_iconst (nI 1) dX10_plan_16 (by decide) ?_
  refine e_isub dX10_plan_17 ?_
  refine e_callS [.int a, .int (nI 0), .int ((nI (2 ^ dT D 1)) - (nI 1))] dX10_plan_18 cc_X10_in lk_RX10_110 st_X10_in in_RX10 rfl (Nat.le_of_ble_eq_true rfl) (Nat.le_of_ble_eq_true rfl) ?_
  refine t_X10_inF (fun q => hv ⟨q.1, (le_sub1 (n := 2 ^ dT D 1) (by omega)).mp q.2⟩) (fK_i ?_)
  show fEv g _ mX10_plan 21 [some (.ref 89), some (.int a)] [.int (nI 0), .ref 89] σ Q
  refine e_if_ne 28 dX10_plan_21 (by decide) (fun c => absurd c (by decide)) (fun _ => ?_)
  refine e_iconst (nI 1) dX10_plan_24 (by decide) ?_
  refine e_goto 29 dX10_plan_25 (by decide) ?_
  refine e_iconst (nI 1) dX10_plan_29 (by decide) ?_
  refine e_callV (k := 89) [.int (nI 1), .int (nI 1)] dX10_plan_30 cc_X10_bad lk_RX10_148 im_X10_bad se_X10_bad (by decide) (Ms.s 89 rfl) (Ms.n (by decide)) rfl (Nat.le_of_ble_eq_true rfl) (Nat.le_of_ble_eq_true rfl) ?_
  refine t_X10_bad1 Ms hz (by decide) (fK_i ?_)
  show fEv g _ mX10_plan 33 [some (.ref 89), some (.int a)] [.int (nI 1)] (fsI σ 89 0 (nI 1)) Q
  refine e_if_eq 38 dX10_plan_33 (by decide) (fun c => absurd c (by decide)) (fun _ => ?_)
  refine e_iconst (nI 0) dX10_plan_36 (by decide) ?_
  exact e_ireturn .int dX10_plan_37 rfl rfl (h _ (fSm_I (by unfold fRfA; omega)) (Ir.f0 ok (A := fun a => a = 89) (fSm_I rfl) (fun a (q : a = 89) => Or.inl (by omega)) (fun j hj => by simp only [List.mem_cons, List.not_mem_nil, or_false] at hj; rw [fI_I, if_neg (by omega)])) (by rw [fI_I, if_pos ⟨rfl, rfl⟩]))
set_option maxRecDepth 20000 in
theorem t_X10_planE {g : fGP} {d : Nat} {σ : fAH} {Q : fRes → fAH → Prop} {x : fXS} {a : Int32}  (Ms : fMs g σ) (ok : fOK x) (Ir : fIr σ x) (hv : ¬ (nI 0 ≤ a ∧ a < nI (2 ^ dT (xD x) 1))) (h : ∀ σ', fSm fRfA σ σ' → fIr σ' x → fI σ' 89 0 = nI 1 → Q (.inl (some (.int (nI 0)))) σ') : fEv g (d + 1) mX10_plan 0 (fent [.ref 89, .int a] 2) [] σ Q := by
  have S9 : fSm (fun a => a = 89) σ (fsI σ 89 0 (nI 0)) := fSm_I rfl
  show fEv g (d + 1) mX10_plan 0 [some (.ref 89), some (.int a)] [] σ Q
  refine e_aload_n dX10_plan_0 rfl rfl ?_
  refine e_iconst (nI 0) dX10_plan_1 (by decide) ?_
  refine e_putI dX10_plan_2 fl_RX10_76 (Ms.s 89 rfl) (Ms.n (by decide)) rfl rfl ?_
  exact lp_X10_planE (Ms.sm S9) ok (Ir.f0 ok S9 (fun a (q : a = 89) => Or.inl (by omega)) (fun j hj => by simp only [List.mem_cons, List.not_mem_nil, or_false] at hj; rw [fI_I, if_neg (by omega)])) (by rw [fI_I, if_pos ⟨rfl, rfl⟩]) hv (fun σ' Sm' => h σ' ((S9.to (fun a (q : a = 89) => by unfold fRfA; omega)).tr Sm'))
set_option maxRecDepth 20000 in
theorem lp_X10_thumbN {g : fGP} {d : Nat} {σ : fAH} {Q : fRes → fAH → Prop} {x : fXS} {s c : Nat}  (Ms : fMs g σ) (ok : fOK x) (Ir : fIr σ x) (hz : fI σ 89 0 = nI 0) (hr9 : irn (xI x) = 60) (h : ∀ σ', fSm fRfA σ σ' → fIr σ' x → fI σ' 89 0 = nI 0 → Q (.inl (some (.int (-1)))) σ') : fEv g (d) mX10_thumb 5 [some (.ref 89), some (.int (nI s)), some (.int (nI c))] [] σ Q := by
  obtain ⟨D, ⟨S, T, sd, pn, P, rn, R⟩, B, tp, pl, im, Im⟩ := x
  have hD : fWD D := ok.1
  have hW : fWS D S := ok.2.1.1
  have hC : fWC D S := ok.2.1.2.1
  have hN : fWN S 0 0 := ok.2.1.2.2.1
  have Mr : fMr σ D S sd := Ir.1
  have Mt : fMt σ S T := Ir.2.1
  obtain ⟨t0, t1, t2, t3, t4, t5, t6⟩ := id hD.1
  have np := hW.n hD
  have n5 := hW.2.2.2.2
  have tp6 : tp ≤ 600 := ok.2.2.2.1
  have im3 : im ≤ 3 := ok.2.2.2.2.1
  have pn3 : pn ≤ 30 := ok.2.1.2.2.2.1
  have rn6 : rn ≤ 60 := ok.2.1.2.2.2.2.2.1
  have Rc : fRc σ (S, T, sd, pn, P, rn, R) := Ir.2.2.2.2.1
  have w52 := hW.1
  have hr9 : rn = 60 := hr9
  show fEv g (d) mX10_thumb 5 [some (.ref 89), some (.int (nI s)), some (.int (nI c))] [] σ Q
  refine e_aload_n dX10_thumb_5 rfl rfl ?_
  refine e_getI dX10_thumb_6 fl_RX10_162 (Ms.s 89 rfl) (Ms.n (by decide)) rfl ?_
  refine e_int (nI rn) Rc.2.2.1 ?_
  refine e_bipush (nI 60) dX10_thumb_9 (by decide) ?_
  refine e_icmp_ne 16 dX10_thumb_11 (by decide) (fun c11 => ?_) (fun c11 => ?_)
  · rw [nI_inj (by omega) (by omega)] at c11
    exact absurd hr9 c11
  · rw [nI_inj (by omega) (by omega)] at c11
    refine e_iconst (-1) dX10_thumb_14 (by decide) ?_
    exact e_ireturn .int dX10_thumb_15 rfl rfl (h σ fSm.rfl' Ir hz)
set_option maxRecDepth 20000 in
theorem t_X10_thumbN {g : fGP} {d : Nat} {σ : fAH} {Q : fRes → fAH → Prop} {x : fXS} {s c : Nat}  (Ms : fMs g σ) (ok : fOK x) (Ir : fIr σ x) (hr9 : irn (xI x) = 60) (h : ∀ σ', fSm fRfA σ σ' → fIr σ' x → fI σ' 89 0 = nI 0 → Q (.inl (some (.int (-1)))) σ') : fEv g (d) mX10_thumb 0 (fent [.ref 89, .int (nI s), .int (nI c)] 3) [] σ Q := by
  have S9 : fSm (fun a => a = 89) σ (fsI σ 89 0 (nI 0)) := fSm_I rfl
  show fEv g (d) mX10_thumb 0 [some (.ref 89), some (.int (nI s)), some (.int (nI c))] [] σ Q
  refine e_aload_n dX10_thumb_0 rfl rfl ?_
  refine e_iconst (nI 0) dX10_thumb_1 (by decide) ?_
  refine e_putI dX10_thumb_2 fl_RX10_76 (Ms.s 89 rfl) (Ms.n (by decide)) rfl rfl ?_
  exact lp_X10_thumbN (Ms.sm S9) ok (Ir.f0 ok S9 (fun a (q : a = 89) => Or.inl (by omega)) (fun j hj => by simp only [List.mem_cons, List.not_mem_nil, or_false] at hj; rw [fI_I, if_neg (by omega)])) (by rw [fI_I, if_pos ⟨rfl, rfl⟩]) hr9 (fun σ' Sm' => h σ' ((S9.to (fun a (q : a = 89) => by unfold fRfA; omega)).tr Sm'))
set_option maxRecDepth 20000 in
theorem lp_X10_thumb {g : fGP} {d : Nat} {σ : fAH} {Q : fRes → fAH → Prop} {x : fXS} {s c : Nat}  (Ms : fMs g σ) (ok : fOK x) (Ir : fIr σ x) (hz : fI σ 89 0 = nI 0) (hs : s ≤ 1) (hc : c ≤ 1) (hr9 : irn (xI x) < 60) (h : ∀ σ', fSm fRfA σ σ' → fIr σ' (xD x, (iS (xI x), iT (xI x), iq (xI x), ipn (xI x), iP (xI x), irn (xI x) + 1, mup (iR (xI x)) (irn (xI x)) (2 * s + c)), xB x, xt x, xp x, xm x, xM x) → fI σ' 89 0 = nI 0 → Q (.inl (some (.int (nI (irn (xI x) + 1))))) σ') : fEv g (d) mX10_thumb 5 [some (.ref 89), some (.int (nI s)), some (.int (nI c))] [] σ Q := by
  obtain ⟨D, ⟨S, T, sd, pn, P, rn, R⟩, B, tp, pl, im, Im⟩ := x
  have hD : fWD D := ok.1
  have hW : fWS D S := ok.2.1.1
  have hC : fWC D S := ok.2.1.2.1
  have hN : fWN S 0 0 := ok.2.1.2.2.1
  have Mr : fMr σ D S sd := Ir.1
  have Mt : fMt σ S T := Ir.2.1
  obtain ⟨t0, t1, t2, t3, t4, t5, t6⟩ := id hD.1
  have np := hW.n hD
  have n5 := hW.2.2.2.2
  have tp6 : tp ≤ 600 := ok.2.2.2.1
  have im3 : im ≤ 3 := ok.2.2.2.2.1
  have pn3 : pn ≤ 30 := ok.2.1.2.2.2.1
  have rn6 : rn ≤ 60 := ok.2.1.2.2.2.2.2.1
  have Rc : fRc σ (S, T, sd, pn, P, rn, R) := Ir.2.2.2.2.1
  have w52 := hW.1
  have hr9 : rn < 60 := hr9
  rcases (show s = 0 ∨ s = 1 by omega) with rfl | rfl <;> rcases (show c = 0 ∨ c = 1 by omega) with rfl | rfl
  · show fEv g d mX10_thumb 5 [some (.ref 89), some (.int (nI 0)), some (.int (nI 0))] [] σ Q
    refine e_aload_n dX10_thumb_5 rfl rfl ?_
    refine e_getI dX10_thumb_6 fl_RX10_162 (Ms.s 89 rfl) (Ms.n (by decide)) rfl ?_
    refine e_int (nI rn) Rc.2.2.1 ?_
    refine e_bipush (nI 60) dX10_thumb_9 (by decide) ?_
    refine e_icmp_ne 16 dX10_thumb_11 (by decide) (fun _ => ?_) (fun c => absurd ((nI_inj (by omega) (by omega)).mp c) (by omega))
    refine e_aload_n dX10_thumb_16 rfl rfl ?_
    refine e_getR (q := 221) dX10_thumb_17 fl_RX10_61 (Ms.s 89 rfl) (Ms.n (by decide)) rfl (Ms.r 89 28 rfl) (by unfold fscr; omega) ?_
    refine e_aload_n dX10_thumb_20 rfl rfl ?_
    refine e_getI dX10_thumb_21 fl_RX10_162 (Ms.s 89 rfl) (Ms.n (by decide)) rfl ?_
    refine e_int (nI rn) Rc.2.2.1 ?_
    refine e_aaload (q := 222 + rn) rn dX10_thumb_24 (Ms.s 221 rfl) (by decide) (Ms.n (by decide)) rfl (by omega) (by decide) (Ms.r 221 _ (frf_record _ (by omega))) (by unfold fscr; omega) ?_
    refine e_iconst (nI 0) dX10_thumb_25 (by decide) ?_
    refine e_iload_n dX10_thumb_26 rfl rfl ?_
    refine e_if_eq 34 dX10_thumb_27 (by decide) (fun _ => ?_) (fun c => absurd c (by decide))
    refine e_iconst (nI 0) dX10_thumb_34 (by decide) ?_
    refine e_iastore 0 dX10_thumb_35 (Ms.s _ (fsh_record _ (by omega))) (Ms.n (by omega)) rfl (by omega) (by decide) ?_
    refine e_aload_n dX10_thumb_36 rfl rfl ?_
    refine e_getR (q := 221) dX10_thumb_37 fl_RX10_61 (Ms.s 89 rfl) (Ms.n (by decide)) rfl (Ms.r 89 28 rfl) (by unfold fscr; omega) ?_
    refine e_aload_n dX10_thumb_40 rfl rfl ?_
    refine e_getI dX10_thumb_41 fl_RX10_162 (Ms.s 89 rfl) (Ms.n (by decide)) rfl ?_
    refine e_int (nI rn) (by rw [fI_I, if_neg (by omega)]; exact Rc.2.2.1) ?_
    refine e_aaload (q := 222 + rn) rn dX10_thumb_44 (Ms.s 221 rfl) (by decide) (Ms.n (by decide)) rfl (by omega) (by decide) (Ms.r 221 _ (frf_record _ (by omega))) (by unfold fscr; omega) ?_
    refine e_iconst (nI 1) dX10_thumb_45 (by decide) ?_
    refine e_iload_n dX10_thumb_46 rfl rfl ?_
    refine e_if_eq 54 dX10_thumb_47 (by decide) (fun _ => ?_) (fun c => absurd c (by decide))
    refine e_iconst (nI 0) dX10_thumb_54 (by decide) ?_
    refine e_iastore 1 dX10_thumb_55 (Ms.s _ (fsh_record _ (by omega))) (Ms.n (by omega)) rfl (by omega) (by decide) ?_
    refine e_aload_n dX10_thumb_56 rfl rfl ?_
    refine e_dup dX10_thumb_57 rfl ?_
    refine e_getI dX10_thumb_58 fl_RX10_162 (Ms.s 89 rfl) (Ms.n (by decide)) rfl ?_
    refine e_int (nI rn) (by rw [fI_I, if_neg (by omega), fI_I, if_neg (by omega)]; exact Rc.2.2.1) ?_
    refine e_iconst (nI 1) dX10_thumb_61 (by decide) ?_
    refine e_iadd dX10_thumb_62 ?_
    refine e_int (nI (rn + 1)) (nI_add rn 1) ?_
    refine e_putI dX10_thumb_63 fl_RX10_162 (Ms.s 89 rfl) (Ms.n (by decide)) rfl rfl ?_
    refine e_aload_n dX10_thumb_66 rfl rfl ?_
    refine e_getI dX10_thumb_67 fl_RX10_162 (Ms.s 89 rfl) (Ms.n (by decide)) rfl ?_
    refine e_int (nI (rn + 1)) (by rw [fI_I, if_pos ⟨rfl, rfl⟩]) ?_
    have sm9 : fSm (fun a => a = 89 ∨ a = 222 + rn) σ (fsI (fsI (fsI σ (222 + rn) 0 (nI 0)) (222 + rn) 1 (nI 0)) 89 23 (nI (rn + 1))) := ((fSm_I (Or.inr rfl)).tr (fSm_I (Or.inr rfl))).tr (fSm_I (Or.inl rfl))
    refine e_ireturn .int dX10_thumb_70 rfl rfl (h _ (sm9.to (fun a q => by unfold fRfA; omega)) (Ir.cur (i := (S, T, sd, pn, P, rn + 1, mup R rn (2 * 0 + 0))) ok sm9 (fun a q => by omega) (fun j hj => by simp only [List.mem_cons, List.not_mem_nil, or_false] at hj; rw [fI_I, if_neg (by omega), fI_I, if_neg (by omega), fI_I, if_neg (by omega)]) (Mr.smm sm9 hD (fun i h1 h2 q => by omega)) (Mt.cg hD hW (fun j => sm9.i (by omega) j) (fun r hr j => sm9.i (by omega) j)) ⟨by rw [fI_I, if_neg (by omega), fI_I, if_neg (by omega), fI_I, if_neg (by omega)]; exact Rc.1, fun j hj => (sm9.i (by omega) j).trans (Rc.2.1 j hj), (by rw [fI_I, if_pos ⟨rfl, rfl⟩]), fun r hr => ?_⟩) (by rw [fI_I, if_neg (by omega), fI_I, if_neg (by omega), fI_I, if_neg (by omega)]; exact hz))
    have hr : r < rn + 1 := hr
    show fI (fsI (fsI (fsI σ (222 + rn) 0 (nI 0)) (222 + rn) 1 (nI 0)) 89 23 (nI (rn + 1))) (222 + r) 0 = nI (mup R rn (2 * 0 + 0) r / 2) ∧ fI (fsI (fsI (fsI σ (222 + rn) 0 (nI 0)) (222 + rn) 1 (nI 0)) 89 23 (nI (rn + 1))) (222 + r) 1 = nI (mup R rn (2 * 0 + 0) r % 2)
    unfold mup
    by_cases e : r = rn
    · rw [if_pos e, e]; exact ⟨by rw [fI_I, if_neg (by omega), fI_I, if_neg (by omega), fI_I, if_pos ⟨rfl, rfl⟩], by rw [fI_I, if_neg (by omega), fI_I, if_pos ⟨rfl, rfl⟩]⟩
    · rw [if_neg e, fI_I, if_neg (by omega), fI_I, if_neg (by omega), fI_I, if_neg (by omega), fI_I, if_neg (by omega), fI_I, if_neg (by omega), fI_I, if_neg (by omega)]; exact Rc.2.2.2 r (show r < rn by omega)
  · show fEv g d mX10_thumb 5 [some (.ref 89), some (.int (nI 0)), some (.int (nI 1))] [] σ Q
    refine e_aload_n dX10_thumb_5 rfl rfl ?_
    refine e_getI dX10_thumb_6 fl_RX10_162 (Ms.s 89 rfl) (Ms.n (by decide)) rfl ?_
    refine e_int (nI rn) Rc.2.2.1 ?_
    refine e_bipush (nI 60) dX10_thumb_9 (by decide) ?_
    refine e_icmp_ne 16 dX10_thumb_11 (by decide) (fun _ => ?_) (fun c => absurd ((nI_inj (by omega) (by omega)).mp c) (by omega))
    refine e_aload_n dX10_thumb_16 rfl rfl ?_
    refine e_getR (q := 221) dX10_thumb_17 fl_RX10_61 (Ms.s 89 rfl) (Ms.n (by decide)) rfl (Ms.r 89 28 rfl) (by unfold fscr; omega) ?_
    refine e_aload_n dX10_thumb_20 rfl rfl ?_
    refine e_getI dX10_thumb_21 fl_RX10_162 (Ms.s 89 rfl) (Ms.n (by decide)) rfl ?_
    refine e_int (nI rn) Rc.2.2.1 ?_
    refine e_aaload (q := 222 + rn) rn dX10_thumb_24 (Ms.s 221 rfl) (by decide) (Ms.n (by decide)) rfl (by omega) (by decide) (Ms.r 221 _ (frf_record _ (by omega))) (by unfold fscr; omega) ?_
    refine e_iconst (nI 0) dX10_thumb_25 (by decide) ?_
    refine e_iload_n dX10_thumb_26 rfl rfl ?_
    refine e_if_eq 34 dX10_thumb_27 (by decide) (fun _ => ?_) (fun c => absurd c (by decide))
    refine e_iconst (nI 0) dX10_thumb_34 (by decide) ?_
    refine e_iastore 0 dX10_thumb_35 (Ms.s _ (fsh_record _ (by omega))) (Ms.n (by omega)) rfl (by omega) (by decide) ?_
    refine e_aload_n dX10_thumb_36 rfl rfl ?_
    refine e_getR (q := 221) dX10_thumb_37 fl_RX10_61 (Ms.s 89 rfl) (Ms.n (by decide)) rfl (Ms.r 89 28 rfl) (by unfold fscr; omega) ?_
    refine e_aload_n dX10_thumb_40 rfl rfl ?_
    refine e_getI dX10_thumb_41 fl_RX10_162 (Ms.s 89 rfl) (Ms.n (by decide)) rfl ?_
    refine e_int (nI rn) (by rw [fI_I, if_neg (by omega)]; exact Rc.2.2.1) ?_
    refine e_aaload (q := 222 + rn) rn dX10_thumb_44 (Ms.s 221 rfl) (by decide) (Ms.n (by decide)) rfl (by omega) (by decide) (Ms.r 221 _ (frf_record _ (by omega))) (by unfold fscr; omega) ?_
    refine e_iconst (nI 1) dX10_thumb_45 (by decide) ?_
    refine e_iload_n dX10_thumb_46 rfl rfl ?_
    refine e_if_eq 54 dX10_thumb_47 (by decide) (fun c => absurd c (by decide)) (fun _ => ?_)
    refine e_iconst (nI 1) dX10_thumb_50 (by decide) ?_
    refine e_goto 55 dX10_thumb_51 (by decide) ?_
    refine e_iastore 1 dX10_thumb_55 (Ms.s _ (fsh_record _ (by omega))) (Ms.n (by omega)) rfl (by omega) (by decide) ?_
    refine e_aload_n dX10_thumb_56 rfl rfl ?_
    refine e_dup dX10_thumb_57 rfl ?_
    refine e_getI dX10_thumb_58 fl_RX10_162 (Ms.s 89 rfl) (Ms.n (by decide)) rfl ?_
    refine e_int (nI rn) (by rw [fI_I, if_neg (by omega), fI_I, if_neg (by omega)]; exact Rc.2.2.1) ?_
    refine e_iconst (nI 1) dX10_thumb_61 (by decide) ?_
    refine e_iadd dX10_thumb_62 ?_
    refine e_int (nI (rn + 1)) (nI_add rn 1) ?_
    refine e_putI dX10_thumb_63 fl_RX10_162 (Ms.s 89 rfl) (Ms.n (by decide)) rfl rfl ?_
    refine e_aload_n dX10_thumb_66 rfl rfl ?_
    refine e_getI dX10_thumb_67 fl_RX10_162 (Ms.s 89 rfl) (Ms.n (by decide)) rfl ?_
    refine e_int (nI (rn + 1)) (by rw [fI_I, if_pos ⟨rfl, rfl⟩]) ?_
    have sm9 : fSm (fun a => a = 89 ∨ a = 222 + rn) σ (fsI (fsI (fsI σ (222 + rn) 0 (nI 0)) (222 + rn) 1 (nI 1)) 89 23 (nI (rn + 1))) := ((fSm_I (Or.inr rfl)).tr (fSm_I (Or.inr rfl))).tr (fSm_I (Or.inl rfl))
    refine e_ireturn .int dX10_thumb_70 rfl rfl (h _ (sm9.to (fun a q => by unfold fRfA; omega)) (Ir.cur (i := (S, T, sd, pn, P, rn + 1, mup R rn (2 * 0 + 1))) ok sm9 (fun a q => by omega) (fun j hj => by simp only [List.mem_cons, List.not_mem_nil, or_false] at hj; rw [fI_I, if_neg (by omega), fI_I, if_neg (by omega), fI_I, if_neg (by omega)]) (Mr.smm sm9 hD (fun i h1 h2 q => by omega)) (Mt.cg hD hW (fun j => sm9.i (by omega) j) (fun r hr j => sm9.i (by omega) j)) ⟨by rw [fI_I, if_neg (by omega), fI_I, if_neg (by omega), fI_I, if_neg (by omega)]; exact Rc.1, fun j hj => (sm9.i (by omega) j).trans (Rc.2.1 j hj), (by rw [fI_I, if_pos ⟨rfl, rfl⟩]), fun r hr => ?_⟩) (by rw [fI_I, if_neg (by omega), fI_I, if_neg (by omega), fI_I, if_neg (by omega)]; exact hz))
    have hr : r < rn + 1 := hr
    show fI (fsI (fsI (fsI σ (222 + rn) 0 (nI 0)) (222 + rn) 1 (nI 1)) 89 23 (nI (rn + 1))) (222 + r) 0 = nI (mup R rn (2 * 0 + 1) r / 2) ∧ fI (fsI (fsI (fsI σ (222 + rn) 0 (nI 0)) (222 + rn) 1 (nI 1)) 89 23 (nI (rn + 1))) (222 + r) 1 = nI (mup R rn (2 * 0 + 1) r % 2)
    unfold mup
    by_cases e : r = rn
    · rw [if_pos e, e]; exact ⟨by rw [fI_I, if_neg (by omega), fI_I, if_neg (by omega), fI_I, if_pos ⟨rfl, rfl⟩], by rw [fI_I, if_neg (by omega), fI_I, if_pos ⟨rfl, rfl⟩]⟩
    · rw [if_neg e, fI_I, if_neg (by omega), fI_I, if_neg (by omega), fI_I, if_neg (by omega), fI_I, if_neg (by omega), fI_I, if_neg (by omega), fI_I, if_neg (by omega)]; exact Rc.2.2.2 r (show r < rn by omega)
  · show fEv g d mX10_thumb 5 [some (.ref 89), some (.int (nI 1)), some (.int (nI 0))] [] σ Q
    refine e_aload_n dX10_thumb_5 rfl rfl ?_
    refine e_getI dX10_thumb_6 fl_RX10_162 (Ms.s 89 rfl) (Ms.n (by decide)) rfl ?_
    refine e_int (nI rn) Rc.2.2.1 ?_
    refine e_bipush (nI 60) dX10_thumb_9 (by decide) ?_
    refine e_icmp_ne 16 dX10_thumb_11 (by decide) (fun _ => ?_) (fun c => absurd ((nI_inj (by omega) (by omega)).mp c) (by omega))
    refine e_aload_n dX10_thumb_16 rfl rfl ?_
    refine e_getR (q := 221) dX10_thumb_17 fl_RX10_61 (Ms.s 89 rfl) (Ms.n (by decide)) rfl (Ms.r 89 28 rfl) (by unfold fscr; omega) ?_
    refine e_aload_n dX10_thumb_20 rfl rfl ?_
    refine e_getI dX10_thumb_21 fl_RX10_162 (Ms.s 89 rfl) (Ms.n (by decide)) rfl ?_
    refine e_int (nI rn) Rc.2.2.1 ?_
    refine e_aaload (q := 222 + rn) rn dX10_thumb_24 (Ms.s 221 rfl) (by decide) (Ms.n (by decide)) rfl (by omega) (by decide) (Ms.r 221 _ (frf_record _ (by omega))) (by unfold fscr; omega) ?_
    refine e_iconst (nI 0) dX10_thumb_25 (by decide) ?_
    refine e_iload_n dX10_thumb_26 rfl rfl ?_
    refine e_if_eq 34 dX10_thumb_27 (by decide) (fun c => absurd c (by decide)) (fun _ => ?_)
    refine e_iconst (nI 1) dX10_thumb_30 (by decide) ?_
    refine e_goto 35 dX10_thumb_31 (by decide) ?_
    refine e_iastore 0 dX10_thumb_35 (Ms.s _ (fsh_record _ (by omega))) (Ms.n (by omega)) rfl (by omega) (by decide) ?_
    refine e_aload_n dX10_thumb_36 rfl rfl ?_
    refine e_getR (q := 221) dX10_thumb_37 fl_RX10_61 (Ms.s 89 rfl) (Ms.n (by decide)) rfl (Ms.r 89 28 rfl) (by unfold fscr; omega) ?_
    refine e_aload_n dX10_thumb_40 rfl rfl ?_
    refine e_getI dX10_thumb_41 fl_RX10_162 (Ms.s 89 rfl) (Ms.n (by decide)) rfl ?_
    refine e_int (nI rn) (by rw [fI_I, if_neg (by omega)]; exact Rc.2.2.1) ?_
    refine e_aaload (q := 222 + rn) rn dX10_thumb_44 (Ms.s 221 rfl) (by decide) (Ms.n (by decide)) rfl (by omega) (by decide) (Ms.r 221 _ (frf_record _ (by omega))) (by unfold fscr; omega) ?_
    refine e_iconst (nI 1) dX10_thumb_45 (by decide) ?_
    refine e_iload_n dX10_thumb_46 rfl rfl ?_
    refine e_if_eq 54 dX10_thumb_47 (by decide) (fun _ => ?_) (fun c => absurd c (by decide))
    refine e_iconst (nI 0) dX10_thumb_54 (by decide) ?_
    refine e_iastore 1 dX10_thumb_55 (Ms.s _ (fsh_record _ (by omega))) (Ms.n (by omega)) rfl (by omega) (by decide) ?_
    refine e_aload_n dX10_thumb_56 rfl rfl ?_
    refine e_dup dX10_thumb_57 rfl ?_
    refine e_getI dX10_thumb_58 fl_RX10_162 (Ms.s 89 rfl) (Ms.n (by decide)) rfl ?_
    refine e_int (nI rn) (by rw [fI_I, if_neg (by omega), fI_I, if_neg (by omega)]; exact Rc.2.2.1) ?_
    refine e_iconst (nI 1) dX10_thumb_61 (by decide) ?_
    refine e_iadd dX10_thumb_62 ?_
    refine e_int (nI (rn + 1)) (nI_add rn 1) ?_
    refine e_putI dX10_thumb_63 fl_RX10_162 (Ms.s 89 rfl) (Ms.n (by decide)) rfl rfl ?_
    refine e_aload_n dX10_thumb_66 rfl rfl ?_
    refine e_getI dX10_thumb_67 fl_RX10_162 (Ms.s 89 rfl) (Ms.n (by decide)) rfl ?_
    refine e_int (nI (rn + 1)) (by rw [fI_I, if_pos ⟨rfl, rfl⟩]) ?_
    have sm9 : fSm (fun a => a = 89 ∨ a = 222 + rn) σ (fsI (fsI (fsI σ (222 + rn) 0 (nI 1)) (222 + rn) 1 (nI 0)) 89 23 (nI (rn + 1))) := ((fSm_I (Or.inr rfl)).tr (fSm_I (Or.inr rfl))).tr (fSm_I (Or.inl rfl))
    refine e_ireturn .int dX10_thumb_70 rfl rfl (h _ (sm9.to (fun a q => by unfold fRfA; omega)) (Ir.cur (i := (S, T, sd, pn, P, rn + 1, mup R rn (2 * 1 + 0))) ok sm9 (fun a q => by omega) (fun j hj => by simp only [List.mem_cons, List.not_mem_nil, or_false] at hj; rw [fI_I, if_neg (by omega), fI_I, if_neg (by omega), fI_I, if_neg (by omega)]) (Mr.smm sm9 hD (fun i h1 h2 q => by omega)) (Mt.cg hD hW (fun j => sm9.i (by omega) j) (fun r hr j => sm9.i (by omega) j)) ⟨by rw [fI_I, if_neg (by omega), fI_I, if_neg (by omega), fI_I, if_neg (by omega)]; exact Rc.1, fun j hj => (sm9.i (by omega) j).trans (Rc.2.1 j hj), (by rw [fI_I, if_pos ⟨rfl, rfl⟩]), fun r hr => ?_⟩) (by rw [fI_I, if_neg (by omega), fI_I, if_neg (by omega), fI_I, if_neg (by omega)]; exact hz))
    have hr : r < rn + 1 := hr
    show fI (fsI (fsI (fsI σ (222 + rn) 0 (nI 1)) (222 + rn) 1 (nI 0)) 89 23 (nI (rn + 1))) (222 + r) 0 = nI (mup R rn (2 * 1 + 0) r / 2) ∧ fI (fsI (fsI (fsI σ (222 + rn) 0 (nI 1)) (222 + rn) 1 (nI 0)) 89 23 (nI (rn + 1))) (222 + r) 1 = nI (mup R rn (2 * 1 + 0) r % 2)
    unfold mup
    by_cases e : r = rn
    · rw [if_pos e, e]; exact ⟨by rw [fI_I, if_neg (by omega), fI_I, if_neg (by omega), fI_I, if_pos ⟨rfl, rfl⟩], by rw [fI_I, if_neg (by omega), fI_I, if_pos ⟨rfl, rfl⟩]⟩
    · rw [if_neg e, fI_I, if_neg (by omega), fI_I, if_neg (by omega), fI_I, if_neg (by omega), fI_I, if_neg (by omega), fI_I, if_neg (by omega), fI_I, if_neg (by omega)]; exact Rc.2.2.2 r (show r < rn by omega)
  · show fEv g d mX10_thumb 5 [some (.ref 89), some (.int (nI 1)), some (.int (nI 1))] [] σ Q
    refine e_aload_n dX10_thumb_5 rfl rfl ?_
    refine e_getI dX10_thumb_6 fl_RX10_162 (Ms.s 89 rfl) (Ms.n (by decide)) rfl ?_
    refine e_int (nI rn) Rc.2.2.1 ?_
    refine e_bipush (nI 60) dX10_thumb_9 (by decide) ?_
    refine e_icmp_ne 16 dX10_thumb_11 (by decide) (fun _ => ?_) (fun c => absurd ((nI_inj (by omega) (by omega)).mp c) (by omega))
    refine e_aload_n dX10_thumb_16 rfl rfl ?_
    refine e_getR (q := 221) dX10_thumb_17 fl_RX10_61 (Ms.s 89 rfl) (Ms.n (by decide)) rfl (Ms.r 89 28 rfl) (by unfold fscr; omega) ?_
    refine e_aload_n dX10_thumb_20 rfl rfl ?_
    refine e_getI dX10_thumb_21 fl_RX10_162 (Ms.s 89 rfl) (Ms.n (by decide)) rfl ?_
    refine e_int (nI rn) Rc.2.2.1 ?_
    refine e_aaload (q := 222 + rn) rn dX10_thumb_24 (Ms.s 221 rfl) (by decide) (Ms.n (by decide)) rfl (by omega) (by decide) (Ms.r 221 _ (frf_record _ (by omega))) (by unfold fscr; omega) ?_
    refine e_iconst (nI 0) dX10_thumb_25 (by decide) ?_
    refine e_iload_n dX10_thumb_26 rfl rfl ?_
    refine e_if_eq 34 dX10_thumb_27 (by decide) (fun c => absurd c (by decide)) (fun _ => ?_)
    refine e_iconst (nI 1) dX10_thumb_30 (by decide) ?_
    refine e_goto 35 dX10_thumb_31 (by decide) ?_
    refine e_iastore 0 dX10_thumb_35 (Ms.s _ (fsh_record _ (by omega))) (Ms.n (by omega)) rfl (by omega) (by decide) ?_
    refine e_aload_n dX10_thumb_36 rfl rfl ?_
    refine e_getR (q := 221) dX10_thumb_37 fl_RX10_61 (Ms.s 89 rfl) (Ms.n (by decide)) rfl (Ms.r 89 28 rfl) (by unfold fscr; omega) ?_
    refine e_aload_n dX10_thumb_40 rfl rfl ?_
    refine e_getI dX10_thumb_41 fl_RX10_162 (Ms.s 89 rfl) (Ms.n (by decide)) rfl ?_
    refine e_int (nI rn) (by rw [fI_I, if_neg (by omega)]; exact Rc.2.2.1) ?_
    refine e_aaload (q := 222 + rn) rn dX10_thumb_44 (Ms.s 221 rfl) (by decide) (Ms.n (by decide)) rfl (by omega) (by decide) (Ms.r 221 _ (frf_record _ (by omega))) (by unfold fscr; omega) ?_
    refine e_iconst (nI 1) dX10_thumb_45 (by decide) ?_
    refine e_iload_n dX10_thumb_46 rfl rfl ?_
    refine e_if_eq 54 dX10_thumb_47 (by decide) (fun c => absurd c (by decide)) (fun _ => ?_)
    refine e_iconst (nI 1) dX10_thumb_50 (by decide) ?_
    refine e_goto 55 dX10_thumb_51 (by decide) ?_
    refine e_iastore 1 dX10_thumb_55 (Ms.s _ (fsh_record _ (by omega))) (Ms.n (by omega)) rfl (by omega) (by decide) ?_
    refine e_aload_n dX10_thumb_56 rfl rfl ?_
    refine e_dup dX10_thumb_57 rfl ?_
    refine e_getI dX10_thumb_58 fl_RX10_162 (Ms.s 89 rfl) (Ms.n (by decide)) rfl ?_
    refine e_int (nI rn) (by rw [fI_I, if_neg (by omega), fI_I, if_neg (by omega)]; exact Rc.2.2.1) ?_
    refine e_iconst (nI 1) dX10_thumb_61 (by decide) ?_
    refine e_iadd dX10_thumb_62 ?_
    refine e_int (nI (rn + 1)) (nI_add rn 1) ?_
    refine e_putI dX10_thumb_63 fl_RX10_162 (Ms.s 89 rfl) (Ms.n (by decide)) rfl rfl ?_
    refine e_aload_n dX10_thumb_66 rfl rfl ?_
    refine e_getI dX10_thumb_67 fl_RX10_162 (Ms.s 89 rfl) (Ms.n (by decide)) rfl ?_
    refine e_int (nI (rn + 1)) (by rw [fI_I, if_pos ⟨rfl, rfl⟩]) ?_
    have sm9 : fSm (fun a => a = 89 ∨ a = 222 + rn) σ (fsI (fsI (fsI σ (222 + rn) 0 (nI 1)) (222 + rn) 1 (nI 1)) 89 23 (nI (rn + 1))) := ((fSm_I (Or.inr rfl)).tr (fSm_I (Or.inr rfl))).tr (fSm_I (Or.inl rfl))
    refine e_ireturn .int dX10_thumb_70 rfl rfl (h _ (sm9.to (fun a q => by unfold fRfA; omega)) (Ir.cur (i := (S, T, sd, pn, P, rn + 1, mup R rn (2 * 1 + 1))) ok sm9 (fun a q => by omega) (fun j hj => by simp only [List.mem_cons, List.not_mem_nil, or_false] at hj; rw [fI_I, if_neg (by omega), fI_I, if_neg (by omega), fI_I, if_neg (by omega)]) (Mr.smm sm9 hD (fun i h1 h2 q => by omega)) (Mt.cg hD hW (fun j => sm9.i (by omega) j) (fun r hr j => sm9.i (by omega) j)) ⟨by rw [fI_I, if_neg (by omega), fI_I, if_neg (by omega), fI_I, if_neg (by omega)]; exact Rc.1, fun j hj => (sm9.i (by omega) j).trans (Rc.2.1 j hj), (by rw [fI_I, if_pos ⟨rfl, rfl⟩]), fun r hr => ?_⟩) (by rw [fI_I, if_neg (by omega), fI_I, if_neg (by omega), fI_I, if_neg (by omega)]; exact hz))
    have hr : r < rn + 1 := hr
    show fI (fsI (fsI (fsI σ (222 + rn) 0 (nI 1)) (222 + rn) 1 (nI 1)) 89 23 (nI (rn + 1))) (222 + r) 0 = nI (mup R rn (2 * 1 + 1) r / 2) ∧ fI (fsI (fsI (fsI σ (222 + rn) 0 (nI 1)) (222 + rn) 1 (nI 1)) 89 23 (nI (rn + 1))) (222 + r) 1 = nI (mup R rn (2 * 1 + 1) r % 2)
    unfold mup
    by_cases e : r = rn
    · rw [if_pos e, e]; exact ⟨by rw [fI_I, if_neg (by omega), fI_I, if_neg (by omega), fI_I, if_pos ⟨rfl, rfl⟩], by rw [fI_I, if_neg (by omega), fI_I, if_pos ⟨rfl, rfl⟩]⟩
    · rw [if_neg e, fI_I, if_neg (by omega), fI_I, if_neg (by omega), fI_I, if_neg (by omega), fI_I, if_neg (by omega), fI_I, if_neg (by omega), fI_I, if_neg (by omega)]; exact Rc.2.2.2 r (show r < rn by omega)
set_option maxRecDepth 20000 in
theorem t_X10_thumb {g : fGP} {d : Nat} {σ : fAH} {Q : fRes → fAH → Prop} {x : fXS} {s c : Nat}  (Ms : fMs g σ) (ok : fOK x) (Ir : fIr σ x) (hs : s ≤ 1) (hc : c ≤ 1) (hr9 : irn (xI x) < 60) (h : ∀ σ', fSm fRfA σ σ' → fIr σ' (xD x, (iS (xI x), iT (xI x), iq (xI x), ipn (xI x), iP (xI x), irn (xI x) + 1, mup (iR (xI x)) (irn (xI x)) (2 * s + c)), xB x, xt x, xp x, xm x, xM x) → fI σ' 89 0 = nI 0 → Q (.inl (some (.int (nI (irn (xI x) + 1))))) σ') : fEv g (d) mX10_thumb 0 (fent [.ref 89, .int (nI s), .int (nI c)] 3) [] σ Q := by
  have S9 : fSm (fun a => a = 89) σ (fsI σ 89 0 (nI 0)) := fSm_I rfl
  show fEv g (d) mX10_thumb 0 [some (.ref 89), some (.int (nI s)), some (.int (nI c))] [] σ Q
  refine e_aload_n dX10_thumb_0 rfl rfl ?_
  refine e_iconst (nI 0) dX10_thumb_1 (by decide) ?_
  refine e_putI dX10_thumb_2 fl_RX10_76 (Ms.s 89 rfl) (Ms.n (by decide)) rfl rfl ?_
  exact lp_X10_thumb (Ms.sm S9) ok (Ir.f0 ok S9 (fun a (q : a = 89) => Or.inl (by omega)) (fun j hj => by simp only [List.mem_cons, List.not_mem_nil, or_false] at hj; rw [fI_I, if_neg (by omega)])) (by rw [fI_I, if_pos ⟨rfl, rfl⟩]) hs hc hr9 (fun σ' Sm' => h σ' ((S9.to (fun a (q : a = 89) => by unfold fRfA; omega)).tr Sm'))
set_option maxRecDepth 20000 in
theorem lp_X10_tower {g : fGP} {d : Nat} {σ : fAH} {Q : fRes → fAH → Prop} {x : fXS} (Ms : fMs g σ) (ok : fOK x) (Ir : fIr σ x) (hz : fI σ 89 0 = nI 0) (h : ∀ σ' R, fSm fRfA σ σ' → fIr σ' x → fI σ' 89 0 = nI 0 → mTop (iS (xI x)) R → Q (.inl (some (.int (nI R)))) σ') : fEv g (d + 2) mX10_tower 5 [some (.ref 89), none, none, none, none, none] [] σ Q := by
  obtain ⟨D, ⟨S, T, sd, pn, P, rn, R⟩, B, tp, pl, im, Im⟩ := x
  have hD : fWD D := ok.1
  have hW : fWS D S := ok.2.1.1
  have hC : fWC D S := ok.2.1.2.1
  have hN : fWN S 0 0 := ok.2.1.2.2.1
  have Mr : fMr σ D S sd := Ir.1
  have Mt : fMt σ S T := Ir.2.1
  obtain ⟨t0, t1, t2, t3, t4, t5, t6⟩ := id hD.1
  have np := hW.n hD
  have n5 := hW.2.2.2.2
  have tp6 : tp ≤ 600 := ok.2.2.2.1
  have im3 : im ≤ 3 := ok.2.2.2.2.1
  have pn3 : pn ≤ 30 := ok.2.1.2.2.2.1
  have rn6 : rn ≤ 60 := ok.2.1.2.2.2.2.2.1
  have Rc : fRc σ (S, T, sd, pn, P, rn, R) := Ir.2.2.2.2.1
  have w52 := hW.1
  refine e_iconst (nI 0) dX10_tower_5 (by decide) ?_
  refine e_istore_n (L1 := [some (.ref 89), some (.int (nI 0)), none, none, none, none]) dX10_tower_6 rfl (by decide) rfl ?_
  refine e_iconst (nI 0) dX10_tower_7 (by decide) ?_
  refine e_istore_n (L1 := [some (.ref 89), some (.int (nI 0)), some (.int (nI 0)), none, none, none]) dX10_tower_8 rfl (by decide) rfl ?_
  exact l_X10_tw9 hD hW (S 120) 0 σ (by omega) Ms Mr (fun q hq => absurd hq (by omega)) (fun σ' R Sm' hT hR => h σ' R (Sm'.to (fun a (q : a = 299) => by unfold fRfA; omega)) (Ir.f0 ok Sm' (fun a (q : a = 299) => by unfold fRsA; omega) (fun j _ => Sm'.i (fun (q : 89 = 299) => by omega) j)) ((Sm'.i (fun (q : 89 = 299) => by omega) 0).trans hz) hT)
set_option maxRecDepth 20000 in
theorem t_X10_tower {g : fGP} {d : Nat} {σ : fAH} {Q : fRes → fAH → Prop} {x : fXS} (Ms : fMs g σ) (ok : fOK x) (Ir : fIr σ x) (h : ∀ σ' R, fSm fRfA σ σ' → fIr σ' x → fI σ' 89 0 = nI 0 → mTop (iS (xI x)) R → Q (.inl (some (.int (nI R)))) σ') : fEv g (d + 2) mX10_tower 0 (fent [.ref 89] 6) [] σ Q := by
  have S9 : fSm (fun a => a = 89) σ (fsI σ 89 0 (nI 0)) := fSm_I rfl
  show fEv g (d + 2) mX10_tower 0 [some (.ref 89), none, none, none, none, none] [] σ Q
  refine e_aload_n dX10_tower_0 rfl rfl ?_
  refine e_iconst (nI 0) dX10_tower_1 (by decide) ?_
  refine e_putI dX10_tower_2 fl_RX10_76 (Ms.s 89 rfl) (Ms.n (by decide)) rfl rfl ?_
  exact lp_X10_tower (Ms.sm S9) ok (Ir.f0 ok S9 (fun a (q : a = 89) => Or.inl (by omega)) (fun j hj => by simp only [List.mem_cons, List.not_mem_nil, or_false] at hj; rw [fI_I, if_neg (by omega)])) (by rw [fI_I, if_pos ⟨rfl, rfl⟩]) (fun σ' R Sm' => h σ' R ((S9.to (fun a (q : a = 89) => by unfold fRfA; omega)).tr Sm'))
set_option maxRecDepth 20000 in
theorem lp_X10_countN {g : fGP} {d : Nat} {σ : fAH} {Q : fRes → fAH → Prop} {x : fXS} {a : Int32}  (Ms : fMs g σ) (ok : fOK x) (Ir : fIr σ x) (hz : fI σ 89 0 = nI 0) (hv : ¬ (nI 0 ≤ a ∧ a ≤ nI 3)) (h : ∀ σ', fSm fRfA σ σ' → fIr σ' x → fI σ' 89 0 = nI 0 → Q (.inl (some (.int (-1)))) σ') : fEv g (d) mX10_count 5 [some (.ref 89), some (.int a)] [] σ Q := by
  obtain ⟨D, ⟨S, T, sd, pn, P, rn, R⟩, B, tp, pl, im, Im⟩ := x
  have hD : fWD D := ok.1
  have hW : fWS D S := ok.2.1.1
  have hC : fWC D S := ok.2.1.2.1
  have hN : fWN S 0 0 := ok.2.1.2.2.1
  have Mr : fMr σ D S sd := Ir.1
  have Mt : fMt σ S T := Ir.2.1
  obtain ⟨t0, t1, t2, t3, t4, t5, t6⟩ := id hD.1
  have np := hW.n hD
  have n5 := hW.2.2.2.2
  have tp6 : tp ≤ 600 := ok.2.2.2.1
  have im3 : im ≤ 3 := ok.2.2.2.2.1
  have pn3 : pn ≤ 30 := ok.2.1.2.2.2.1
  have rn6 : rn ≤ 60 := ok.2.1.2.2.2.2.2.1
  have Rc : fRc σ (S, T, sd, pn, P, rn, R) := Ir.2.2.2.2.1
  have w52 := hW.1
  refine e_iload_n dX10_count_5 rfl rfl ?_
  refine e_tswOut 56 dX10_count_6 (tsw_out (k := 3) (by decide) hv) (by decide) ?_
  refine e_iconst (-1) dX10_count_56 (by decide) ?_
  exact e_ireturn .int dX10_count_57 rfl rfl (h σ fSm.rfl' Ir hz)
set_option maxRecDepth 20000 in
theorem t_X10_countN {g : fGP} {d : Nat} {σ : fAH} {Q : fRes → fAH → Prop} {x : fXS} {a : Int32}  (Ms : fMs g σ) (ok : fOK x) (Ir : fIr σ x) (hv : ¬ (nI 0 ≤ a ∧ a ≤ nI 3)) (h : ∀ σ', fSm fRfA σ σ' → fIr σ' x → fI σ' 89 0 = nI 0 → Q (.inl (some (.int (-1)))) σ') : fEv g (d) mX10_count 0 (fent [.ref 89, .int a] 2) [] σ Q := by
  have S9 : fSm (fun a => a = 89) σ (fsI σ 89 0 (nI 0)) := fSm_I rfl
  show fEv g (d) mX10_count 0 [some (.ref 89), some (.int a)] [] σ Q
  refine e_aload_n dX10_count_0 rfl rfl ?_
  refine e_iconst (nI 0) dX10_count_1 (by decide) ?_
  refine e_putI dX10_count_2 fl_RX10_76 (Ms.s 89 rfl) (Ms.n (by decide)) rfl rfl ?_
  exact lp_X10_countN (Ms.sm S9) ok (Ir.f0 ok S9 (fun a (q : a = 89) => Or.inl (by omega)) (fun j hj => by simp only [List.mem_cons, List.not_mem_nil, or_false] at hj; rw [fI_I, if_neg (by omega)])) (by rw [fI_I, if_pos ⟨rfl, rfl⟩]) hv (fun σ' Sm' => h σ' ((S9.to (fun a (q : a = 89) => by unfold fRfA; omega)).tr Sm'))
set_option maxRecDepth 20000 in
theorem lp_X10_feedN {g : fGP} {d : Nat} {σ : fAH} {Q : fRes → fAH → Prop} {x : fXS} {a b c e4 e5 : Int32}  (Ms : fMs g σ) (ok : fOK x) (Ir : fIr σ x) (hz : fI σ 89 0 = nI 0) (ht : ¬ xt x + 20 ≤ 600) (h : ∀ σ', fSm fRfA σ σ' → fIr σ' x → fI σ' 89 0 = nI 0 → Q (.inl (some (.int (-1)))) σ') : fEv g (d) mX10_feed 5 [some (.ref 89), some (.int a), some (.int b), some (.int c), some (.int e4), some (.int e5), none, none] [] σ Q := by
  obtain ⟨D, ⟨S, T, sd, pn, P, rn, R⟩, B, tp, pl, im, Im⟩ := x
  have hD : fWD D := ok.1
  have hW : fWS D S := ok.2.1.1
  have hC : fWC D S := ok.2.1.2.1
  have hN : fWN S 0 0 := ok.2.1.2.2.1
  have Mr : fMr σ D S sd := Ir.1
  have Mt : fMt σ S T := Ir.2.1
  obtain ⟨t0, t1, t2, t3, t4, t5, t6⟩ := id hD.1
  have np := hW.n hD
  have n5 := hW.2.2.2.2
  have tp6 : tp ≤ 600 := ok.2.2.2.1
  have im3 : im ≤ 3 := ok.2.2.2.2.1
  have pn3 : pn ≤ 30 := ok.2.1.2.2.2.1
  have rn6 : rn ≤ 60 := ok.2.1.2.2.2.2.2.1
  have Rc : fRc σ (S, T, sd, pn, P, rn, R) := Ir.2.2.2.2.1
  have w52 := hW.1
  have ht : ¬ tp + 20 ≤ 600 := ht
  show fEv g (d) mX10_feed 5 [some (.ref 89), some (.int a), some (.int b), some (.int c), some (.int e4), some (.int e5), none, none] [] σ Q
  refine e_aload_n dX10_feed_5 rfl rfl ?_
  refine e_getI dX10_feed_6 fl_RX10_79 (Ms.s 89 rfl) (Ms.n (by decide)) rfl ?_
  refine e_int (nI tp) Ir.2.2.1.2.2.2.1 ?_
  refine e_bipush (nI 20) dX10_feed_9 (by decide) ?_
  refine e_iadd dX10_feed_11 ?_
  refine e_int (nI (tp + 20)) (nI_add tp 20) ?_
  refine e_sipush (nI 600) dX10_feed_12 (by decide) ?_
  refine e_icmp_le 20 dX10_feed_15 (by decide) (fun c => absurd c (fun q => absurd ((nI_le' (by omega) (by omega)).mp q) (by omega))) (fun _ => ?_)
  refine e_iconst (-1) dX10_feed_18 (by decide) ?_
  exact e_ireturn .int dX10_feed_19 rfl rfl (h σ fSm.rfl' Ir hz)
set_option maxRecDepth 20000 in
theorem t_X10_feedN {g : fGP} {d : Nat} {σ : fAH} {Q : fRes → fAH → Prop} {x : fXS} {a b c e4 e5 : Int32}  (Ms : fMs g σ) (ok : fOK x) (Ir : fIr σ x) (ht : ¬ xt x + 20 ≤ 600) (h : ∀ σ', fSm fRfA σ σ' → fIr σ' x → fI σ' 89 0 = nI 0 → Q (.inl (some (.int (-1)))) σ') : fEv g (d) mX10_feed 0 (fent [.ref 89, .int a, .int b, .int c, .int e4, .int e5] 8) [] σ Q := by
  have S9 : fSm (fun a => a = 89) σ (fsI σ 89 0 (nI 0)) := fSm_I rfl
  show fEv g (d) mX10_feed 0 [some (.ref 89), some (.int a), some (.int b), some (.int c), some (.int e4), some (.int e5), none, none] [] σ Q
  refine e_aload_n dX10_feed_0 rfl rfl ?_
  refine e_iconst (nI 0) dX10_feed_1 (by decide) ?_
  refine e_putI dX10_feed_2 fl_RX10_76 (Ms.s 89 rfl) (Ms.n (by decide)) rfl rfl ?_
  exact lp_X10_feedN (Ms.sm S9) ok (Ir.f0 ok S9 (fun a (q : a = 89) => Or.inl (by omega)) (fun j hj => by simp only [List.mem_cons, List.not_mem_nil, or_false] at hj; rw [fI_I, if_neg (by omega)])) (by rw [fI_I, if_pos ⟨rfl, rfl⟩]) ht (fun σ' Sm' => h σ' ((S9.to (fun a (q : a = 89) => by unfold fRfA; omega)).tr Sm'))
set_option maxRecDepth 20000 in
theorem l_X10_feed {g : fGP} {d : Nat} {Q : fRes → fAH → Prop} {B : Nat → Nat} {tp : Nat} {a b c e4 e5 : Int32} (ht : tp + 20 ≤ 600) : ∀ (n i : Nat) (σ : fAH) (o7 : Option Value), i + n = 20 → fMs g σ → (∀ j, j < 600 → fI σ 90 j = nI (mfdd B tp a b c e4 e5 i j)) → fI σ 89 1 = nI (tp + i) → (∀ σ', fSm (fun a => a = 89 ∨ a = 90) σ σ' → (∀ j, j < 600 → fI σ' 90 j = nI (mfdd B tp a b c e4 e5 20 j)) → fI σ' 89 1 = nI (tp + 20) → (∀ j, j ≠ 1 → fI σ' 89 j = fI σ 89 j) → Q (.inl (some (.int (nI (tp + 20))))) σ') → fEv g (d) mX10_feed 23 [some (.ref 89), some (.int a), some (.int b), some (.int c), some (.int e4), some (.int e5), some (.int (nI i)), o7] [] σ Q := by
  intro n
  induction n with
  | zero =>
    intro i σ o7 hin Ms hB hp h
    refine e_iload dX10_feed_23 rfl ?_
    refine e_bipush (nI 20) dX10_feed_25 (by decide) ?_
    refine e_icmp_ge 120 dX10_feed_27 (by decide) (fun cz => ?_) (fun cz => absurd ((nI_le' (by omega) (by omega)).mpr (by omega)) cz)
    refine e_aload_n dX10_feed_120 rfl rfl ?_
    refine e_getI dX10_feed_121 fl_RX10_79 (Ms.s 89 rfl) (Ms.n (by decide)) rfl ?_
    refine e_int (nI (tp + i)) hp ?_
    have ei : i = 20 := by omega
    subst ei
    exact e_ireturn .int dX10_feed_124 rfl rfl (h σ fSm.rfl' hB hp (fun _ _ => rfl))
  | succ n ih =>
    intro i σ o7 hin Ms hB hp h
    have hi : i < 20 := by omega
    refine e_iload dX10_feed_23 rfl ?_
    refine e_bipush (nI 20) dX10_feed_25 (by decide) ?_
    refine e_icmp_ge 120 dX10_feed_27 (by decide) (fun cz => absurd ((nI_le' (by omega) (by omega)).mp cz) (by omega)) (fun cz => ?_)
    refine e_iload dX10_feed_30 rfl ?_
    refine e_iconst (nI 4) dX10_feed_32 (by decide) ?_
    refine e_icmp_ge 40 dX10_feed_33 (by decide) (fun c33 => ?_) (fun c33 => ?_)
    · rw [nI_le' (by omega) (by omega)] at c33
      refine e_iload dX10_feed_40 rfl ?_
      refine e_bipush (nI 8) dX10_feed_42 (by decide) ?_
      refine e_icmp_ge 51 dX10_feed_44 (by decide) (fun c44 => ?_) (fun c44 => ?_)
      · rw [nI_le' (by omega) (by omega)] at c44
        refine e_iload dX10_feed_51 rfl ?_
        refine e_bipush (nI 12) dX10_feed_53 (by decide) ?_
        refine e_icmp_ge 62 dX10_feed_55 (by decide) (fun c55 => ?_) (fun c55 => ?_)
        · rw [nI_le' (by omega) (by omega)] at c55
          refine e_iload dX10_feed_62 rfl ?_
          refine e_bipush (nI 16) dX10_feed_64 (by decide) ?_
          refine e_icmp_ge 74 dX10_feed_66 (by decide) (fun c66 => ?_) (fun c66 => ?_)
          · rw [nI_le' (by omega) (by omega)] at c66
            refine e_iload dX10_feed_74 rfl ?_
            refine e_istore (L1 := [some (.ref 89), some (.int a), some (.int b), some (.int c), some (.int e4), some (.int e5), some (.int (nI i)), some (.int e5)]) dX10_feed_76 (by decide) rfl ?_
            refine e_aload_n dX10_feed_78 rfl rfl ?_
            refine e_getR (q := 90) dX10_feed_79 fl_RX10_13 (Ms.s 89 rfl) (Ms.n (by decide)) rfl (Ms.r 89 8 rfl) (by unfold fscr; omega) ?_
            refine e_aload_n dX10_feed_82 rfl rfl ?_
            refine e_getI dX10_feed_83 fl_RX10_79 (Ms.s 89 rfl) (Ms.n (by decide)) rfl ?_
            refine e_int (nI (tp + i)) hp ?_
            refine e_iload dX10_feed_86 rfl ?_
            refine e_bipush (nI 24) dX10_feed_88 (by decide) ?_
            refine e_bipush (nI 8) dX10_feed_90 (by decide) ?_
            refine e_iload dX10_feed_92 rfl ?_
            refine e_iconst (nI 4) dX10_feed_94 (by decide) ?_
            refine e_irem dX10_feed_95 (by decide) ?_
            refine e_int (nI (i % 4)) (nI_rem4 (by omega)) ?_
            refine e_imul dX10_feed_96 ?_
            refine e_int (nI (8 * (i % 4))) (pk_mul 8 (i % 4)) ?_
            refine e_isub dX10_feed_97 ?_
            refine e_int (nI (24 - (8 * (i % 4)))) (pk_sub (by omega)) ?_
            refine e_ishr dX10_feed_98 ?_
            refine e_sipush (nI 255) dX10_feed_99 (by decide) ?_
            refine e_iand dX10_feed_102 ?_
            refine e_int (nI (mbyt e5 (i % 4))) (mbyt_i e5 (i % 4)) ?_
            refine e_iastore (tp + i) dX10_feed_103 (Ms.s 90 rfl) (Ms.n (by decide)) rfl (by omega) (by decide) ?_
            refine e_aload_n dX10_feed_104 rfl rfl ?_
            refine e_dup dX10_feed_105 rfl ?_
            refine e_getI dX10_feed_106 fl_RX10_79 (Ms.s 89 rfl) (Ms.n (by decide)) rfl ?_
            refine e_int (nI (tp + i)) (by rw [fI_I, if_neg (by omega)]; exact hp) ?_
            refine e_iconst (nI 1) dX10_feed_109 (by decide) ?_
            refine e_iadd dX10_feed_110 ?_
            refine e_int (nI (tp + i + 1)) (nI_add (tp + i) 1) ?_
            refine e_putI dX10_feed_111 fl_RX10_79 (Ms.s 89 rfl) (Ms.n (by decide)) rfl rfl ?_
            refine e_iinc (v := nI (i + 1)) (L1 := [some (.ref 89), some (.int a), some (.int b), some (.int c), some (.int e4), some (.int e5), some (.int (nI (i + 1))), some (.int e5)]) dX10_feed_114 rfl (show nI i + Int32.ofInt 1 = nI (i + 1) from nI_add i 1) (by decide) rfl ?_
            refine e_goto 23 dX10_feed_117 (by decide) ?_
            refine ih (i + 1) (fsI (fsI σ 90 (tp + i) (nI (mbyt e5 (i % 4)))) 89 1 (nI (tp + i + 1))) _ (by omega) (Ms.sm ((fSm_I (A := (fun a => a = 89 ∨ a = 90)) (by omega)).tr (fSm_I (A := (fun a => a = 89 ∨ a = 90)) (by omega)))) (fun j hj => ?_) (by rw [fI_I, if_pos ⟨rfl, rfl⟩]; exact congrArg nI (by omega)) (fun σ' Sm' p1 p2 p3 => h σ' (((fSm_I (A := (fun a => a = 89 ∨ a = 90)) (by omega)).tr (fSm_I (A := (fun a => a = 89 ∨ a = 90)) (by omega))).tr Sm') p1 p2 (fun j hj => (p3 j hj).trans (by rw [fI_I, if_neg (by omega), fI_I, if_neg (by omega)])))
            rw [fI_I, if_neg (by omega)]
            by_cases e : j = tp + i
            · rw [fI_I, if_pos ⟨rfl, e⟩]; unfold mfdd; rw [if_pos (by omega), show (j - tp) / 4 = 4 by omega, show (j - tp) % 4 = i % 4 by omega]; rfl
            · rw [fI_I, if_neg (by omega), hB j hj]; unfold mfdd; by_cases q : tp ≤ j ∧ j < tp + i
              · rw [if_pos q, if_pos (by omega)]
              · rw [if_neg q, if_neg (by omega)]
          · rw [nI_le' (by omega) (by omega)] at c66
            refine e_iload dX10_feed_69 rfl ?_
            refine e_goto 76 dX10_feed_71 (by decide) ?_
            refine e_istore (L1 := [some (.ref 89), some (.int a), some (.int b), some (.int c), some (.int e4), some (.int e5), some (.int (nI i)), some (.int e4)]) dX10_feed_76 (by decide) rfl ?_
            refine e_aload_n dX10_feed_78 rfl rfl ?_
            refine e_getR (q := 90) dX10_feed_79 fl_RX10_13 (Ms.s 89 rfl) (Ms.n (by decide)) rfl (Ms.r 89 8 rfl) (by unfold fscr; omega) ?_
            refine e_aload_n dX10_feed_82 rfl rfl ?_
            refine e_getI dX10_feed_83 fl_RX10_79 (Ms.s 89 rfl) (Ms.n (by decide)) rfl ?_
            refine e_int (nI (tp + i)) hp ?_
            refine e_iload dX10_feed_86 rfl ?_
            refine e_bipush (nI 24) dX10_feed_88 (by decide) ?_
            refine e_bipush (nI 8) dX10_feed_90 (by decide) ?_
            refine e_iload dX10_feed_92 rfl ?_
            refine e_iconst (nI 4) dX10_feed_94 (by decide) ?_
            refine e_irem dX10_feed_95 (by decide) ?_
            refine e_int (nI (i % 4)) (nI_rem4 (by omega)) ?_
            refine e_imul dX10_feed_96 ?_
            refine e_int (nI (8 * (i % 4))) (pk_mul 8 (i % 4)) ?_
            refine e_isub dX10_feed_97 ?_
            refine e_int (nI (24 - (8 * (i % 4)))) (pk_sub (by omega)) ?_
            refine e_ishr dX10_feed_98 ?_
            refine e_sipush (nI 255) dX10_feed_99 (by decide) ?_
            refine e_iand dX10_feed_102 ?_
            refine e_int (nI (mbyt e4 (i % 4))) (mbyt_i e4 (i % 4)) ?_
            refine e_iastore (tp + i) dX10_feed_103 (Ms.s 90 rfl) (Ms.n (by decide)) rfl (by omega) (by decide) ?_
            refine e_aload_n dX10_feed_104 rfl rfl ?_
            refine e_dup dX10_feed_105 rfl ?_
            refine e_getI dX10_feed_106 fl_RX10_79 (Ms.s 89 rfl) (Ms.n (by decide)) rfl ?_
            refine e_int (nI (tp + i)) (by rw [fI_I, if_neg (by omega)]; exact hp) ?_
            refine e_iconst (nI 1) dX10_feed_109 (by decide) ?_
            refine e_iadd dX10_feed_110 ?_
            refine e_int (nI (tp + i + 1)) (nI_add (tp + i) 1) ?_
            refine e_putI dX10_feed_111 fl_RX10_79 (Ms.s 89 rfl) (Ms.n (by decide)) rfl rfl ?_
            refine e_iinc (v := nI (i + 1)) (L1 := [some (.ref 89), some (.int a), some (.int b), some (.int c), some (.int e4), some (.int e5), some (.int (nI (i + 1))), some (.int e4)]) dX10_feed_114 rfl (show nI i + Int32.ofInt 1 = nI (i + 1) from nI_add i 1) (by decide) rfl ?_
            refine e_goto 23 dX10_feed_117 (by decide) ?_
            refine ih (i + 1) (fsI (fsI σ 90 (tp + i) (nI (mbyt e4 (i % 4)))) 89 1 (nI (tp + i + 1))) _ (by omega) (Ms.sm ((fSm_I (A := (fun a => a = 89 ∨ a = 90)) (by omega)).tr (fSm_I (A := (fun a => a = 89 ∨ a = 90)) (by omega)))) (fun j hj => ?_) (by rw [fI_I, if_pos ⟨rfl, rfl⟩]; exact congrArg nI (by omega)) (fun σ' Sm' p1 p2 p3 => h σ' (((fSm_I (A := (fun a => a = 89 ∨ a = 90)) (by omega)).tr (fSm_I (A := (fun a => a = 89 ∨ a = 90)) (by omega))).tr Sm') p1 p2 (fun j hj => (p3 j hj).trans (by rw [fI_I, if_neg (by omega), fI_I, if_neg (by omega)])))
            rw [fI_I, if_neg (by omega)]
            by_cases e : j = tp + i
            · rw [fI_I, if_pos ⟨rfl, e⟩]; unfold mfdd; rw [if_pos (by omega), show (j - tp) / 4 = 3 by omega, show (j - tp) % 4 = i % 4 by omega]; rfl
            · rw [fI_I, if_neg (by omega), hB j hj]; unfold mfdd; by_cases q : tp ≤ j ∧ j < tp + i
              · rw [if_pos q, if_pos (by omega)]
              · rw [if_neg q, if_neg (by omega)]
        · rw [nI_le' (by omega) (by omega)] at c55
          refine e_iload_n dX10_feed_58 rfl rfl ?_
          refine e_goto 76 dX10_feed_59 (by decide) ?_
          refine e_istore (L1 := [some (.ref 89), some (.int a), some (.int b), some (.int c), some (.int e4), some (.int e5), some (.int (nI i)), some (.int c)]) dX10_feed_76 (by decide) rfl ?_
          refine e_aload_n dX10_feed_78 rfl rfl ?_
          refine e_getR (q := 90) dX10_feed_79 fl_RX10_13 (Ms.s 89 rfl) (Ms.n (by decide)) rfl (Ms.r 89 8 rfl) (by unfold fscr; omega) ?_
          refine e_aload_n dX10_feed_82 rfl rfl ?_
          refine e_getI dX10_feed_83 fl_RX10_79 (Ms.s 89 rfl) (Ms.n (by decide)) rfl ?_
          refine e_int (nI (tp + i)) hp ?_
          refine e_iload dX10_feed_86 rfl ?_
          refine e_bipush (nI 24) dX10_feed_88 (by decide) ?_
          refine e_bipush (nI 8) dX10_feed_90 (by decide) ?_
          refine e_iload dX10_feed_92 rfl ?_
          refine e_iconst (nI 4) dX10_feed_94 (by decide) ?_
          refine e_irem dX10_feed_95 (by decide) ?_
          refine e_int (nI (i % 4)) (nI_rem4 (by omega)) ?_
          refine e_imul dX10_feed_96 ?_
          refine e_int (nI (8 * (i % 4))) (pk_mul 8 (i % 4)) ?_
          refine e_isub dX10_feed_97 ?_
          refine e_int (nI (24 - (8 * (i % 4)))) (pk_sub (by omega)) ?_
          refine e_ishr dX10_feed_98 ?_
          refine e_sipush (nI 255) dX10_feed_99 (by decide) ?_
          refine e_iand dX10_feed_102 ?_
          refine e_int (nI (mbyt c (i % 4))) (mbyt_i c (i % 4)) ?_
          refine e_iastore (tp + i) dX10_feed_103 (Ms.s 90 rfl) (Ms.n (by decide)) rfl (by omega) (by decide) ?_
          refine e_aload_n dX10_feed_104 rfl rfl ?_
          refine e_dup dX10_feed_105 rfl ?_
          refine e_getI dX10_feed_106 fl_RX10_79 (Ms.s 89 rfl) (Ms.n (by decide)) rfl ?_
          refine e_int (nI (tp + i)) (by rw [fI_I, if_neg (by omega)]; exact hp) ?_
          refine e_iconst (nI 1) dX10_feed_109 (by decide) ?_
          refine e_iadd dX10_feed_110 ?_
          refine e_int (nI (tp + i + 1)) (nI_add (tp + i) 1) ?_
          refine e_putI dX10_feed_111 fl_RX10_79 (Ms.s 89 rfl) (Ms.n (by decide)) rfl rfl ?_
          refine e_iinc (v := nI (i + 1)) (L1 := [some (.ref 89), some (.int a), some (.int b), some (.int c), some (.int e4), some (.int e5), some (.int (nI (i + 1))), some (.int c)]) dX10_feed_114 rfl (show nI i + Int32.ofInt 1 = nI (i + 1) from nI_add i 1) (by decide) rfl ?_
          refine e_goto 23 dX10_feed_117 (by decide) ?_
          refine ih (i + 1) (fsI (fsI σ 90 (tp + i) (nI (mbyt c (i % 4)))) 89 1 (nI (tp + i + 1))) _ (by omega) (Ms.sm ((fSm_I (A := (fun a => a = 89 ∨ a = 90)) (by omega)).tr (fSm_I (A := (fun a => a = 89 ∨ a = 90)) (by omega)))) (fun j hj => ?_) (by rw [fI_I, if_pos ⟨rfl, rfl⟩]; exact congrArg nI (by omega)) (fun σ' Sm' p1 p2 p3 => h σ' (((fSm_I (A := (fun a => a = 89 ∨ a = 90)) (by omega)).tr (fSm_I (A := (fun a => a = 89 ∨ a = 90)) (by omega))).tr Sm') p1 p2 (fun j hj => (p3 j hj).trans (by rw [fI_I, if_neg (by omega), fI_I, if_neg (by omega)])))
          rw [fI_I, if_neg (by omega)]
          by_cases e : j = tp + i
          · rw [fI_I, if_pos ⟨rfl, e⟩]; unfold mfdd; rw [if_pos (by omega), show (j - tp) / 4 = 2 by omega, show (j - tp) % 4 = i % 4 by omega]; rfl
          · rw [fI_I, if_neg (by omega), hB j hj]; unfold mfdd; by_cases q : tp ≤ j ∧ j < tp + i
            · rw [if_pos q, if_pos (by omega)]
            · rw [if_neg q, if_neg (by omega)]
      · rw [nI_le' (by omega) (by omega)] at c44
        refine e_iload_n dX10_feed_47 rfl rfl ?_
        refine e_goto 76 dX10_feed_48 (by decide) ?_
        refine e_istore (L1 := [some (.ref 89), some (.int a), some (.int b), some (.int c), some (.int e4), some (.int e5), some (.int (nI i)), some (.int b)]) dX10_feed_76 (by decide) rfl ?_
        refine e_aload_n dX10_feed_78 rfl rfl ?_
        refine e_getR (q := 90) dX10_feed_79 fl_RX10_13 (Ms.s 89 rfl) (Ms.n (by decide)) rfl (Ms.r 89 8 rfl) (by unfold fscr; omega) ?_
        refine e_aload_n dX10_feed_82 rfl rfl ?_
        refine e_getI dX10_feed_83 fl_RX10_79 (Ms.s 89 rfl) (Ms.n (by decide)) rfl ?_
        refine e_int (nI (tp + i)) hp ?_
        refine e_iload dX10_feed_86 rfl ?_
        refine e_bipush (nI 24) dX10_feed_88 (by decide) ?_
        refine e_bipush (nI 8) dX10_feed_90 (by decide) ?_
        refine e_iload dX10_feed_92 rfl ?_
        refine e_iconst (nI 4) dX10_feed_94 (by decide) ?_
        refine e_irem dX10_feed_95 (by decide) ?_
        refine e_int (nI (i % 4)) (nI_rem4 (by omega)) ?_
        refine e_imul dX10_feed_96 ?_
        refine e_int (nI (8 * (i % 4))) (pk_mul 8 (i % 4)) ?_
        refine e_isub dX10_feed_97 ?_
        refine e_int (nI (24 - (8 * (i % 4)))) (pk_sub (by omega)) ?_
        refine e_ishr dX10_feed_98 ?_
        refine e_sipush (nI 255) dX10_feed_99 (by decide) ?_
        refine e_iand dX10_feed_102 ?_
        refine e_int (nI (mbyt b (i % 4))) (mbyt_i b (i % 4)) ?_
        refine e_iastore (tp + i) dX10_feed_103 (Ms.s 90 rfl) (Ms.n (by decide)) rfl (by omega) (by decide) ?_
        refine e_aload_n dX10_feed_104 rfl rfl ?_
        refine e_dup dX10_feed_105 rfl ?_
        refine e_getI dX10_feed_106 fl_RX10_79 (Ms.s 89 rfl) (Ms.n (by decide)) rfl ?_
        refine e_int (nI (tp + i)) (by rw [fI_I, if_neg (by omega)]; exact hp) ?_
        refine e_iconst (nI 1) dX10_feed_109 (by decide) ?_
        refine e_iadd dX10_feed_110 ?_
        refine e_int (nI (tp + i + 1)) (nI_add (tp + i) 1) ?_
        refine e_putI dX10_feed_111 fl_RX10_79 (Ms.s 89 rfl) (Ms.n (by decide)) rfl rfl ?_
        refine e_iinc (v := nI (i + 1)) (L1 := [some (.ref 89), some (.int a), some (.int b), some (.int c), some (.int e4), some (.int e5), some (.int (nI (i + 1))), some (.int b)]) dX10_feed_114 rfl (show nI i + Int32.ofInt 1 = nI (i + 1) from nI_add i 1) (by decide) rfl ?_
        refine e_goto 23 dX10_feed_117 (by decide) ?_
        refine ih (i + 1) (fsI (fsI σ 90 (tp + i) (nI (mbyt b (i % 4)))) 89 1 (nI (tp + i + 1))) _ (by omega) (Ms.sm ((fSm_I (A := (fun a => a = 89 ∨ a = 90)) (by omega)).tr (fSm_I (A := (fun a => a = 89 ∨ a = 90)) (by omega)))) (fun j hj => ?_) (by rw [fI_I, if_pos ⟨rfl, rfl⟩]; exact congrArg nI (by omega)) (fun σ' Sm' p1 p2 p3 => h σ' (((fSm_I (A := (fun a => a = 89 ∨ a = 90)) (by omega)).tr (fSm_I (A := (fun a => a = 89 ∨ a = 90)) (by omega))).tr Sm') p1 p2 (fun j hj => (p3 j hj).trans (by rw [fI_I, if_neg (by omega), fI_I, if_neg (by omega)])))
        rw [fI_I, if_neg (by omega)]
        by_cases e : j = tp + i
        · rw [fI_I, if_pos ⟨rfl, e⟩]; unfold mfdd; rw [if_pos (by omega), show (j - tp) / 4 = 1 by omega, show (j - tp) % 4 = i % 4 by omega]; rfl
        · rw [fI_I, if_neg (by omega), hB j hj]; unfold mfdd; by_cases q : tp ≤ j ∧ j < tp + i
          · rw [if_pos q, if_pos (by omega)]
          · rw [if_neg q, if_neg (by omega)]
    · rw [nI_le' (by omega) (by omega)] at c33
      refine e_iload_n dX10_feed_36 rfl rfl ?_
      refine e_goto 76 dX10_feed_37 (by decide) ?_
      refine e_istore (L1 := [some (.ref 89), some (.int a), some (.int b), some (.int c), some (.int e4), some (.int e5), some (.int (nI i)), some (.int a)]) dX10_feed_76 (by decide) rfl ?_
      refine e_aload_n dX10_feed_78 rfl rfl ?_
      refine e_getR (q := 90) dX10_feed_79 fl_RX10_13 (Ms.s 89 rfl) (Ms.n (by decide)) rfl (Ms.r 89 8 rfl) (by unfold fscr; omega) ?_
      refine e_aload_n dX10_feed_82 rfl rfl ?_
      refine e_getI dX10_feed_83 fl_RX10_79 (Ms.s 89 rfl) (Ms.n (by decide)) rfl ?_
      refine e_int (nI (tp + i)) hp ?_
      refine e_iload dX10_feed_86 rfl ?_
      refine e_bipush (nI 24) dX10_feed_88 (by decide) ?_
      refine e_bipush (nI 8) dX10_feed_90 (by decide) ?_
      refine e_iload dX10_feed_92 rfl ?_
      refine e_iconst (nI 4) dX10_feed_94 (by decide) ?_
      refine e_irem dX10_feed_95 (by decide) ?_
      refine e_int (nI (i % 4)) (nI_rem4 (by omega)) ?_
      refine e_imul dX10_feed_96 ?_
      refine e_int (nI (8 * (i % 4))) (pk_mul 8 (i % 4)) ?_
      refine e_isub dX10_feed_97 ?_
      refine e_int (nI (24 - (8 * (i % 4)))) (pk_sub (by omega)) ?_
      refine e_ishr dX10_feed_98 ?_
      refine e_sipush (nI 255) dX10_feed_99 (by decide) ?_
      refine e_iand dX10_feed_102 ?_
      refine e_int (nI (mbyt a (i % 4))) (mbyt_i a (i % 4)) ?_
      refine e_iastore (tp + i) dX10_feed_103 (Ms.s 90 rfl) (Ms.n (by decide)) rfl (by omega) (by decide) ?_
      refine e_aload_n dX10_feed_104 rfl rfl ?_
      refine e_dup dX10_feed_105 rfl ?_
      refine e_getI dX10_feed_106 fl_RX10_79 (Ms.s 89 rfl) (Ms.n (by decide)) rfl ?_
      refine e_int (nI (tp + i)) (by rw [fI_I, if_neg (by omega)]; exact hp) ?_
      refine e_iconst (nI 1) dX10_feed_109 (by decide) ?_
      refine e_iadd dX10_feed_110 ?_
      refine e_int (nI (tp + i + 1)) (nI_add (tp + i) 1) ?_
      refine e_putI dX10_feed_111 fl_RX10_79 (Ms.s 89 rfl) (Ms.n (by decide)) rfl rfl ?_
      refine e_iinc (v := nI (i + 1)) (L1 := [some (.ref 89), some (.int a), some (.int b), some (.int c), some (.int e4), some (.int e5), some (.int (nI (i + 1))), some (.int a)]) dX10_feed_114 rfl (show nI i + Int32.ofInt 1 = nI (i + 1) from nI_add i 1) (by decide) rfl ?_
      refine e_goto 23 dX10_feed_117 (by decide) ?_
      refine ih (i + 1) (fsI (fsI σ 90 (tp + i) (nI (mbyt a (i % 4)))) 89 1 (nI (tp + i + 1))) _ (by omega) (Ms.sm ((fSm_I (A := (fun a => a = 89 ∨ a = 90)) (by omega)).tr (fSm_I (A := (fun a => a = 89 ∨ a = 90)) (by omega)))) (fun j hj => ?_) (by rw [fI_I, if_pos ⟨rfl, rfl⟩]; exact congrArg nI (by omega)) (fun σ' Sm' p1 p2 p3 => h σ' (((fSm_I (A := (fun a => a = 89 ∨ a = 90)) (by omega)).tr (fSm_I (A := (fun a => a = 89 ∨ a = 90)) (by omega))).tr Sm') p1 p2 (fun j hj => (p3 j hj).trans (by rw [fI_I, if_neg (by omega), fI_I, if_neg (by omega)])))
      rw [fI_I, if_neg (by omega)]
      by_cases e : j = tp + i
      · rw [fI_I, if_pos ⟨rfl, e⟩]; unfold mfdd; rw [if_pos (by omega), show (j - tp) / 4 = 0 by omega, show (j - tp) % 4 = i % 4 by omega]; rfl
      · rw [fI_I, if_neg (by omega), hB j hj]; unfold mfdd; by_cases q : tp ≤ j ∧ j < tp + i
        · rw [if_pos q, if_pos (by omega)]
        · rw [if_neg q, if_neg (by omega)]
set_option maxRecDepth 20000 in
theorem lp_X10_feed {g : fGP} {d : Nat} {σ : fAH} {Q : fRes → fAH → Prop} {x : fXS} {a b c e4 e5 : Int32}  (Ms : fMs g σ) (ok : fOK x) (Ir : fIr σ x) (hz : fI σ 89 0 = nI 0) (ht : xt x + 20 ≤ 600) (h : ∀ σ', fSm fRfA σ σ' → fIr σ' (xFed x a b c e4 e5) → fI σ' 89 0 = nI 0 → Q (.inl (some (.int (nI (xt x + 20))))) σ') : fEv g (d) mX10_feed 5 [some (.ref 89), some (.int a), some (.int b), some (.int c), some (.int e4), some (.int e5), none, none] [] σ Q := by
  obtain ⟨D, ⟨S, T, sd, pn, P, rn, R⟩, B, tp, pl, im, Im⟩ := x
  have hD : fWD D := ok.1
  have hW : fWS D S := ok.2.1.1
  have hC : fWC D S := ok.2.1.2.1
  have hN : fWN S 0 0 := ok.2.1.2.2.1
  have Mr : fMr σ D S sd := Ir.1
  have Mt : fMt σ S T := Ir.2.1
  obtain ⟨t0, t1, t2, t3, t4, t5, t6⟩ := id hD.1
  have np := hW.n hD
  have n5 := hW.2.2.2.2
  have tp6 : tp ≤ 600 := ok.2.2.2.1
  have im3 : im ≤ 3 := ok.2.2.2.2.1
  have pn3 : pn ≤ 30 := ok.2.1.2.2.2.1
  have rn6 : rn ≤ 60 := ok.2.1.2.2.2.2.2.1
  have Rc : fRc σ (S, T, sd, pn, P, rn, R) := Ir.2.2.2.2.1
  have w52 := hW.1
  have ht : tp + 20 ≤ 600 := ht
  show fEv g (d) mX10_feed 5 [some (.ref 89), some (.int a), some (.int b), some (.int c), some (.int e4), some (.int e5), none, none] [] σ Q
  refine e_aload_n dX10_feed_5 rfl rfl ?_
  refine e_getI dX10_feed_6 fl_RX10_79 (Ms.s 89 rfl) (Ms.n (by decide)) rfl ?_
  refine e_int (nI tp) Ir.2.2.1.2.2.2.1 ?_
  refine e_bipush (nI 20) dX10_feed_9 (by decide) ?_
  refine e_iadd dX10_feed_11 ?_
  refine e_int (nI (tp + 20)) (nI_add tp 20) ?_
  refine e_sipush (nI 600) dX10_feed_12 (by decide) ?_
  refine e_icmp_le 20 dX10_feed_15 (by decide) (fun _ => ?_) (fun c => absurd ((nI_le' (by omega) (by omega)).mpr (by omega)) c)
  refine e_iconst (nI 0) dX10_feed_20 (by decide) ?_
  refine e_istore (L1 := [some (.ref 89), some (.int a), some (.int b), some (.int c), some (.int e4), some (.int e5), some (.int (nI 0)), none]) dX10_feed_21 (by decide) rfl ?_
  exact l_X10_feed ht 20 0 σ _ (by omega) Ms (fun j hj => (Ir.2.2.2.1 j hj).trans (congrArg nI (if_neg (by omega)).symm)) Ir.2.2.1.2.2.2.1 (fun σ' Sm' p1 p2 p3 => h σ' (Sm'.to (fun a q => by unfold fRfA; omega)) (Ir.tape ok Sm' (fun a q => q) p1 p2 (fun j hj => p3 j (by simp only [List.mem_cons, List.not_mem_nil, or_false] at hj; omega))) ((p3 0 (by decide)).trans hz))
set_option maxRecDepth 20000 in
theorem t_X10_feed {g : fGP} {d : Nat} {σ : fAH} {Q : fRes → fAH → Prop} {x : fXS} {a b c e4 e5 : Int32}  (Ms : fMs g σ) (ok : fOK x) (Ir : fIr σ x) (ht : xt x + 20 ≤ 600) (h : ∀ σ', fSm fRfA σ σ' → fIr σ' (xFed x a b c e4 e5) → fI σ' 89 0 = nI 0 → Q (.inl (some (.int (nI (xt x + 20))))) σ') : fEv g (d) mX10_feed 0 (fent [.ref 89, .int a, .int b, .int c, .int e4, .int e5] 8) [] σ Q := by
  have S9 : fSm (fun a => a = 89) σ (fsI σ 89 0 (nI 0)) := fSm_I rfl
  show fEv g (d) mX10_feed 0 [some (.ref 89), some (.int a), some (.int b), some (.int c), some (.int e4), some (.int e5), none, none] [] σ Q
  refine e_aload_n dX10_feed_0 rfl rfl ?_
  refine e_iconst (nI 0) dX10_feed_1 (by decide) ?_
  refine e_putI dX10_feed_2 fl_RX10_76 (Ms.s 89 rfl) (Ms.n (by decide)) rfl rfl ?_
  exact lp_X10_feed (Ms.sm S9) ok (Ir.f0 ok S9 (fun a (q : a = 89) => Or.inl (by omega)) (fun j hj => by simp only [List.mem_cons, List.not_mem_nil, or_false] at hj; rw [fI_I, if_neg (by omega)])) (by rw [fI_I, if_pos ⟨rfl, rfl⟩]) ht (fun σ' Sm' => h σ' ((S9.to (fun a (q : a = 89) => by unfold fRfA; omega)).tr Sm'))
