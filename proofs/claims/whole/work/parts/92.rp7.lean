/-- what stands was put aside and taken back -/
theorem fIr.back {A : Nat → Prop} {σ σ1 : fAH} {x : fXS} (h : fIr σ x) (ok : fOK x) (s : fSm A σ σ1) (na : ∀ a, A a → a = 89 ∨ a = 197 ∨ (199 ≤ a ∧ a < 219)) (hf : ∀ j, j ∈ [1, 3, 21, 22, 23, 24, 31, 33] → fI σ1 89 j = fI σ 89 j) (hM : fMr σ1 (xD x) (iS (xI x)) (iq (xI x))) : fIr σ1 x := by
  have k : ∀ a, ¬ (a = 89 ∨ a = 197 ∨ (199 ≤ a ∧ a < 219)) → ∀ j, fI σ1 a j = fI σ a j := fun a ha j => s.i (fun q => ha (na _ q)) j
  exact h.cur (i := xI x) ok s (fun a q => by have := na _ q; omega) (fun j hj => hf j (by simp only [List.mem_cons, List.not_mem_nil, or_false] at hj ⊢; omega)) hM (h.2.1.cg ok.1 ok.2.1.1 (k _ (by omega)) (fun r hr => k _ (by omega))) (h.2.2.2.2.1.cg ok.2.1.2.2.2.2.2.1 (hf 22 (by decide)) (hf 23 (by decide)) (k _ (by omega)) (fun r hr => k _ (by omega)))
theorem gsc {c v m w : Nat} (hc : 0 < c) : (if w = 0 then (c * v) / Nat.gcd (c * v) (c * m) else (c * m) / Nat.gcd (c * v) (c * m)) = if w = 0 then v / Nat.gcd v m else m / Nat.gcd v m := by
  rw [Nat.gcd_mul_left, Nat.mul_div_mul_left _ _ hc, Nat.mul_div_mul_left _ _ hc]
theorem p4_6 {m : Nat} (h : m ≤ 6) : 4 ^ (6 - m) * (8 * 4 ^ m) = 32768 := by
  rcases (show m = 0 ∨ m = 1 ∨ m = 2 ∨ m = 3 ∨ m = 4 ∨ m = 5 ∨ m = 6 by omega) with e | e | e | e | e | e | e <;> rw [e] <;> decide
set_option maxRecDepth 20000 in
theorem lp_X10_tonight {g : fGP} {d : Nat} {σ : fAH} {Q : fRes → fAH → Prop} {x : fXS}  (Ms : fMs g σ) (ok : fOK x) (Ir : fIr σ x) (hz : fI σ 89 0 = nI 0) (hn : (iS (xI x)) 155 < 30) (h : ∀ σ', fSm fRfA σ σ' → fIr σ' x → fI σ' 89 0 = nI 0 → Q (.inl (some (.int (nI (mft (xD x) (iS (xI x))).2)))) σ') : fEv g (d + 39) mX10_tonight 5 [some (.ref 89)] [] σ Q := by
  obtain ⟨D, ⟨S, T, sd, pn, P, rn, R⟩, B, tp, pl, im, Im⟩ := x
  have hD : fWD D := ok.1
  have hW : fWS D S := ok.2.1.1
  have hC : fWC D S := ok.2.1.2.1
  have hN : fWN S 0 0 := ok.2.1.2.2.1
  have Mr : fMr σ D S sd := Ir.1
  have Mt : fMt σ S T := Ir.2.1
  obtain ⟨t0, t1, t2, t3, t4, t5, t6⟩ := id hD.1
  have np := hW.n hD
  have n5 := hW.2.2.2.2
  have tp6 : tp ≤ 600 := ok.2.2.2.1
  have im3 : im ≤ 3 := ok.2.2.2.2.1
  have pn3 : pn ≤ 30 := ok.2.1.2.2.2.1
  have rn6 : rn ≤ 60 := ok.2.1.2.2.2.2.2.1
  have Rc : fRc σ (S, T, sd, pn, P, rn, R) := Ir.2.2.2.2.1
  have w52 := hW.1
  have hn : S 155 < 30 := hn
  show fEv g (d + 39) mX10_tonight 5 [some (.ref 89)] [] σ Q
  refine e_aload_n dX10_tonight_5 rfl rfl ?_
  refine e_aload_n dX10_tonight_6 rfl rfl ?_
  refine e_callV (k := 89) [] dX10_tonight_7 cc_X10_isOver lk_RX10_224 im_X10_isOver se_X10_isOver (by decide) (Ms.s 89 rfl) (Ms.n (by decide)) rfl (Nat.le_of_ble_eq_true rfl) (Nat.le_of_ble_eq_true rfl) ?_
  refine t_X10_isOverF Ms Mr hD hW hn (fK_i ?_)
  show fEv g _ mX10_tonight 10 [some (.ref 89)] [.int (nI 0), .ref 89] σ Q
  refine e_iconst (nI 1) dX10_tonight_10 (by decide) ?_
  refine e_callV (k := 89) [.int (nI 0), .int (nI 1)] dX10_tonight_11 cc_X10_bad lk_RX10_148 im_X10_bad se_X10_bad (by decide) (Ms.s 89 rfl) (Ms.n (by decide)) rfl (Nat.le_of_ble_eq_true rfl) (Nat.le_of_ble_eq_true rfl) ?_
  refine t_X10_bad0 Ms hz (by decide) (fK_i ?_)
  show fEv g _ mX10_tonight 14 [some (.ref 89)] [.int (nI 0)] σ Q
  refine e_if_eq 19 dX10_tonight_14 (by decide) (fun _ => ?_) (fun c => absurd c (by decide))
  refine e_aload_n dX10_tonight_19 rfl rfl ?_
  refine e_callV (k := 89) [] dX10_tonight_20 cc_X10_findTonight lk_RX10_298 im_X10_findTonight se_X10_findTonight (by decide) (Ms.s 89 rfl) (Ms.n (by decide)) rfl (Nat.le_of_ble_eq_true rfl) (Nat.le_of_ble_eq_true rfl) ?_
  refine t_X10_findTonight (dp := 0) Ms Mr hD hW hC hn hN Ir.2.2.1.2.1 Ir.2.2.1.1 (by omega) (fun σ1 Sm1 Mr1 k1 h33 h34 hJ1 => fK_i ?_)
  show fEv g _ mX10_tonight 23 [some (.ref 89)] [.long (ob (mft D S).1)] σ1 Q
  have Ms1 := Ms.sm Sm1
  have Ir1 := Ir.back ok Sm1 (fun a q => by unfold fBA at q; omega) (fun j hj => by simp only [List.mem_cons, List.not_mem_nil, or_false] at hj; by_cases e : j = 33; rw [e, h33, Ir.2.2.1.2.2.1]; exact k1 j e (by omega)) Mr1
  have hz1 := (k1 0 (by decide) (by decide)).trans hz
  refine e_pop2L dX10_tonight_23 rfl ?_
  refine e_aload_n dX10_tonight_24 rfl rfl ?_
  refine e_getI dX10_tonight_25 fl_RX10_295 (Ms1.s 89 rfl) (Ms1.n (by decide)) rfl ?_
  refine e_int (nI ((mft D S).2)) h34 ?_
  exact e_ireturn .int dX10_tonight_28 rfl rfl (h σ1 (Sm1.to (fun a q => by unfold fBA at q; unfold fRfA; omega)) Ir1 hz1)
set_option maxRecDepth 20000 in
theorem t_X10_tonight {g : fGP} {d : Nat} {σ : fAH} {Q : fRes → fAH → Prop} {x : fXS}  (Ms : fMs g σ) (ok : fOK x) (Ir : fIr σ x) (hn : (iS (xI x)) 155 < 30) (h : ∀ σ', fSm fRfA σ σ' → fIr σ' x → fI σ' 89 0 = nI 0 → Q (.inl (some (.int (nI (mft (xD x) (iS (xI x))).2)))) σ') : fEv g (d + 39) mX10_tonight 0 (fent [.ref 89] 1) [] σ Q := by
  have S9 : fSm (fun a => a = 89) σ (fsI σ 89 0 (nI 0)) := fSm_I rfl
  show fEv g (d + 39) mX10_tonight 0 [some (.ref 89)] [] σ Q
  refine e_aload_n dX10_tonight_0 rfl rfl ?_
  refine e_iconst (nI 0) dX10_tonight_1 (by decide) ?_
  refine e_putI dX10_tonight_2 fl_RX10_76 (Ms.s 89 rfl) (Ms.n (by decide)) rfl rfl ?_
  exact lp_X10_tonight (Ms.sm S9) ok (Ir.f0 ok S9 (fun a (q : a = 89) => Or.inl (by omega)) (fun j hj => by simp only [List.mem_cons, List.not_mem_nil, or_false] at hj; rw [fI_I, if_neg (by omega)])) (by rw [fI_I, if_pos ⟨rfl, rfl⟩]) hn (fun σ' Sm' => h σ' ((S9.to (fun a (q : a = 89) => by unfold fRfA; omega)).tr Sm'))
set_option maxRecDepth 20000 in
theorem lp_X10_tonightE {g : fGP} {d : Nat} {σ : fAH} {Q : fRes → fAH → Prop} {x : fXS}  (Ms : fMs g σ) (ok : fOK x) (Ir : fIr σ x) (hz : fI σ 89 0 = nI 0) (hn : ¬ (iS (xI x)) 155 < 30) (h : ∀ σ', fSm fRfA σ σ' → fIr σ' x → fI σ' 89 0 = nI 1 → Q (.inl (some (.int (nI 0)))) σ') : fEv g (d + 1) mX10_tonight 5 [some (.ref 89)] [] σ Q := by
  obtain ⟨D, ⟨S, T, sd, pn, P, rn, R⟩, B, tp, pl, im, Im⟩ := x
  have hD : fWD D := ok.1
  have hW : fWS D S := ok.2.1.1
  have hC : fWC D S := ok.2.1.2.1
  have hN : fWN S 0 0 := ok.2.1.2.2.1
  have Mr : fMr σ D S sd := Ir.1
  have Mt : fMt σ S T := Ir.2.1
  obtain ⟨t0, t1, t2, t3, t4, t5, t6⟩ := id hD.1
  have np := hW.n hD
  have n5 := hW.2.2.2.2
  have tp6 : tp ≤ 600 := ok.2.2.2.1
  have im3 : im ≤ 3 := ok.2.2.2.2.1
  have pn3 : pn ≤ 30 := ok.2.1.2.2.2.1
  have rn6 : rn ≤ 60 := ok.2.1.2.2.2.2.2.1
  have Rc : fRc σ (S, T, sd, pn, P, rn, R) := Ir.2.2.2.2.1
  have w52 := hW.1
  show fEv g (d + 1) mX10_tonight 5 [some (.ref 89)] [] σ Q
  refine e_aload_n dX10_tonight_5 rfl rfl ?_
  refine e_aload_n dX10_tonight_6 rfl rfl ?_
  refine e_callV (k := 89) [] dX10_tonight_7 cc_X10_isOver lk_RX10_224 im_X10_isOver se_X10_isOver (by decide) (Ms.s 89 rfl) (Ms.n (by decide)) rfl (Nat.le_of_ble_eq_true rfl) (Nat.le_of_ble_eq_true rfl) ?_
  refine t_X10_isOverT Ms Mr hD hW hn (fK_i ?_)
  show fEv g _ mX10_tonight 10 [some (.ref 89)] [.int (nI 1), .ref 89] σ Q
  refine e_iconst (nI 1) dX10_tonight_10 (by decide) ?_
  refine e_callV (k := 89) [.int (nI 1), .int (nI 1)] dX10_tonight_11 cc_X10_bad lk_RX10_148 im_X10_bad se_X10_bad (by decide) (Ms.s 89 rfl) (Ms.n (by decide)) rfl (Nat.le_of_ble_eq_true rfl) (Nat.le_of_ble_eq_true rfl) ?_
  refine t_X10_bad1 Ms hz (by decide) (fK_i ?_)
  show fEv g _ mX10_tonight 14 [some (.ref 89)] [.int (nI 1)] (fsI σ 89 0 (nI 1)) Q
  refine e_if_eq 19 dX10_tonight_14 (by decide) (fun c => absurd c (by decide)) (fun _ => ?_)
  refine e_iconst (nI 0) dX10_tonight_17 (by decide) ?_
  exact e_ireturn .int dX10_tonight_18 rfl rfl (h _ (fSm_I (by unfold fRfA; omega)) (Ir.f0 ok (A := fun a => a = 89) (fSm_I rfl) (fun a (q : a = 89) => Or.inl (by omega)) (fun j hj => by simp only [List.mem_cons, List.not_mem_nil, or_false] at hj; rw [fI_I, if_neg (by omega)])) (by rw [fI_I, if_pos ⟨rfl, rfl⟩]))
set_option maxRecDepth 20000 in
theorem t_X10_tonightE {g : fGP} {d : Nat} {σ : fAH} {Q : fRes → fAH → Prop} {x : fXS}  (Ms : fMs g σ) (ok : fOK x) (Ir : fIr σ x) (hn : ¬ (iS (xI x)) 155 < 30) (h : ∀ σ', fSm fRfA σ σ' → fIr σ' x → fI σ' 89 0 = nI 1 → Q (.inl (some (.int (nI 0)))) σ') : fEv g (d + 1) mX10_tonight 0 (fent [.ref 89] 1) [] σ Q := by
  have S9 : fSm (fun a => a = 89) σ (fsI σ 89 0 (nI 0)) := fSm_I rfl
  show fEv g (d + 1) mX10_tonight 0 [some (.ref 89)] [] σ Q
  refine e_aload_n dX10_tonight_0 rfl rfl ?_
  refine e_iconst (nI 0) dX10_tonight_1 (by decide) ?_
  refine e_putI dX10_tonight_2 fl_RX10_76 (Ms.s 89 rfl) (Ms.n (by decide)) rfl rfl ?_
  exact lp_X10_tonightE (Ms.sm S9) ok (Ir.f0 ok S9 (fun a (q : a = 89) => Or.inl (by omega)) (fun j hj => by simp only [List.mem_cons, List.not_mem_nil, or_false] at hj; rw [fI_I, if_neg (by omega)])) (by rw [fI_I, if_pos ⟨rfl, rfl⟩]) hn (fun σ' Sm' => h σ' ((S9.to (fun a (q : a = 89) => by unfold fRfA; omega)).tr Sm'))
set_option maxRecDepth 20000 in
theorem lp_X10_worth {g : fGP} {d : Nat} {σ : fAH} {Q : fRes → fAH → Prop} {x : fXS} {w : Nat}  (Ms : fMs g σ) (ok : fOK x) (Ir : fIr σ x) (hz : fI σ 89 0 = nI 0) (hw : w ≤ 1) (hn : (iS (xI x)) 155 < 30) (h : ∀ σ', fSm fRfA σ σ' → fIr σ' x → fI σ' 89 0 = nI 0 → Q (.inl (some (.long (vWor (xD x) (iS (xI x)) w)))) σ') : fEv g (d + 39) mX10_worth 5 [some (.ref 89), some (.int (nI w))] [] σ Q := by
  obtain ⟨D, ⟨S, T, sd, pn, P, rn, R⟩, B, tp, pl, im, Im⟩ := x
  have hD : fWD D := ok.1
  have hW : fWS D S := ok.2.1.1
  have hC : fWC D S := ok.2.1.2.1
  have hN : fWN S 0 0 := ok.2.1.2.2.1
  have Mr : fMr σ D S sd := Ir.1
  have Mt : fMt σ S T := Ir.2.1
  obtain ⟨t0, t1, t2, t3, t4, t5, t6⟩ := id hD.1
  have np := hW.n hD
  have n5 := hW.2.2.2.2
  have tp6 : tp ≤ 600 := ok.2.2.2.1
  have im3 : im ≤ 3 := ok.2.2.2.2.1
  have pn3 : pn ≤ 30 := ok.2.1.2.2.2.1
  have rn6 : rn ≤ 60 := ok.2.1.2.2.2.2.2.1
  have Rc : fRc σ (S, T, sd, pn, P, rn, R) := Ir.2.2.2.2.1
  have w52 := hW.1
  have hn : S 155 < 30 := hn
  obtain ⟨v9, hv9⟩ := mft_some (S := S) hD
  have vl := mft_le hD hW hC hn v9 hv9
  show fEv g (d + 39) mX10_worth 5 [some (.ref 89), some (.int (nI w))] [] σ Q
  refine e_aload_n dX10_worth_5 rfl rfl ?_
  refine e_iload_n dX10_worth_6 rfl rfl ?_
  refine e_iconst (nI 0) dX10_worth_7 (by decide) ?_
  refine e_iconst (nI 1) dX10_worth_8 (by decide) ?_
  refine e_callS [.int (nI w), .int (nI 0), .int (nI 1)] dX10_worth_9 cc_X10_in lk_RX10_110 st_X10_in in_RX10 rfl (Nat.le_of_ble_eq_true rfl) (Nat.le_of_ble_eq_true rfl) ?_
  refine t_X10_inT ⟨(nI_le' (by omega) (by omega)).mpr (by omega), (nI_le' (by omega) (by omega)).mpr (by omega)⟩ (fK_i ?_)
  show fEv g _ mX10_worth 12 [some (.ref 89), some (.int (nI w))] [.int (nI 1), .ref 89] σ Q
  refine e_if_ne 19 dX10_worth_12 (by decide) (fun _ => ?_) (fun c => absurd c (by decide))
  refine e_iconst (nI 0) dX10_worth_19 (by decide) ?_
  refine e_iconst (nI 1) dX10_worth_20 (by decide) ?_
  refine e_callV (k := 89) [.int (nI 0), .int (nI 1)] dX10_worth_21 cc_X10_bad lk_RX10_148 im_X10_bad se_X10_bad (by decide) (Ms.s 89 rfl) (Ms.n (by decide)) rfl (Nat.le_of_ble_eq_true rfl) (Nat.le_of_ble_eq_true rfl) ?_
  refine t_X10_bad0 Ms hz (by decide) (fK_i ?_)
  show fEv g _ mX10_worth 24 [some (.ref 89), some (.int (nI w))] [.int (nI 0)] σ Q
  refine e_if_ne 39 dX10_worth_24 (by decide) (fun c => absurd c (by decide)) (fun _ => ?_)
  refine e_aload_n dX10_worth_27 rfl rfl ?_
  refine e_aload_n dX10_worth_28 rfl rfl ?_
  refine e_callV (k := 89) [] dX10_worth_29 cc_X10_isOver lk_RX10_224 im_X10_isOver se_X10_isOver (by decide) (Ms.s 89 rfl) (Ms.n (by decide)) rfl (Nat.le_of_ble_eq_true rfl) (Nat.le_of_ble_eq_true rfl) ?_
  refine t_X10_isOverF Ms Mr hD hW hn (fK_i ?_)
  show fEv g _ mX10_worth 32 [some (.ref 89), some (.int (nI w))] [.int (nI 0), .ref 89] σ Q
  refine e_iconst (nI 2) dX10_worth_32 (by decide) ?_
  refine e_callV (k := 89) [.int (nI 0), .int (nI 2)] dX10_worth_33 cc_X10_bad lk_RX10_148 im_X10_bad se_X10_bad (by decide) (Ms.s 89 rfl) (Ms.n (by decide)) rfl (Nat.le_of_ble_eq_true rfl) (Nat.le_of_ble_eq_true rfl) ?_
  refine t_X10_bad0 Ms hz (by decide) (fK_i ?_)
  show fEv g _ mX10_worth 36 [some (.ref 89), some (.int (nI w))] [.int (nI 0)] σ Q
  refine e_if_eq 41 dX10_worth_36 (by decide) (fun _ => ?_) (fun c => absurd c (by decide))
  refine e_aload_n dX10_worth_41 rfl rfl ?_
  refine e_callV (k := 89) [] dX10_worth_42 cc_X10_findTonight lk_RX10_298 im_X10_findTonight se_X10_findTonight (by decide) (Ms.s 89 rfl) (Ms.n (by decide)) rfl (Nat.le_of_ble_eq_true rfl) (Nat.le_of_ble_eq_true rfl) ?_
  refine t_X10_findTonight (dp := 0) Ms Mr hD hW hC hn hN Ir.2.2.1.2.1 Ir.2.2.1.1 (by omega) (fun σ1 Sm1 Mr1 k1 h33 h34 hJ1 => fK_i ?_)
  show fEv g _ mX10_worth 45 [some (.ref 89), some (.int (nI w))] [.long (ob (mft D S).1)] σ1 Q
  have Ms1 := Ms.sm Sm1
  have Ir1 := Ir.back ok Sm1 (fun a q => by unfold fBA at q; omega) (fun j hj => by simp only [List.mem_cons, List.not_mem_nil, or_false] at hj; by_cases e : j = 33; rw [e, h33, Ir.2.2.1.2.2.1]; exact k1 j e (by omega)) Mr1
  have hz1 := (k1 0 (by decide) (by decide)).trans hz
  refine e_long (nL v9) (by rw [hv9]; rfl) ?_
  refine e_ldc2 (262144) dX10_worth_45 kc_RX10_301 ?_
  refine e_long (nL 262144) rfl ?_
  refine e_iload_n dX10_worth_48 rfl rfl ?_
  refine e_callS [.long (nL v9), .long (nL 262144), .int (nI w)] dX10_worth_49 cc_X10_least lk_RX10_303 st_X10_least in_RX10 rfl (Nat.le_of_ble_eq_true rfl) (Nat.le_of_ble_eq_true rfl) ?_
  refine t_X10_least (by omega) (by omega) (by omega) (by omega) (fK_i ?_)
  show fEv g _ mX10_worth 52 [some (.ref 89), some (.int (nI w))] [.long (nL (if w = 0 then v9 / Nat.gcd v9 262144 else 262144 / Nat.gcd v9 262144))] σ1 Q
  have h9 : Q (.inl (some (.long (vWor D S w)))) σ1 := h σ1 (Sm1.to (fun a q => by unfold fBA at q; unfold fRfA; omega)) Ir1 hz1
  unfold vWor at h9
  rw [hv9, show (1073741824 : Nat) = 4096 * 262144 by decide, Option.getD_some, gsc (by decide)] at h9
  exact e_lreturn dX10_worth_52 rfl h9
set_option maxRecDepth 20000 in
theorem t_X10_worth {g : fGP} {d : Nat} {σ : fAH} {Q : fRes → fAH → Prop} {x : fXS} {w : Nat}  (Ms : fMs g σ) (ok : fOK x) (Ir : fIr σ x) (hw : w ≤ 1) (hn : (iS (xI x)) 155 < 30) (h : ∀ σ', fSm fRfA σ σ' → fIr σ' x → fI σ' 89 0 = nI 0 → Q (.inl (some (.long (vWor (xD x) (iS (xI x)) w)))) σ') : fEv g (d + 39) mX10_worth 0 (fent [.ref 89, .int (nI w)] 2) [] σ Q := by
  have S9 : fSm (fun a => a = 89) σ (fsI σ 89 0 (nI 0)) := fSm_I rfl
  show fEv g (d + 39) mX10_worth 0 [some (.ref 89), some (.int (nI w))] [] σ Q
  refine e_aload_n dX10_worth_0 rfl rfl ?_
  refine e_iconst (nI 0) dX10_worth_1 (by decide) ?_
  refine e_putI dX10_worth_2 fl_RX10_76 (Ms.s 89 rfl) (Ms.n (by decide)) rfl rfl ?_
  exact lp_X10_worth (Ms.sm S9) ok (Ir.f0 ok S9 (fun a (q : a = 89) => Or.inl (by omega)) (fun j hj => by simp only [List.mem_cons, List.not_mem_nil, or_false] at hj; rw [fI_I, if_neg (by omega)])) (by rw [fI_I, if_pos ⟨rfl, rfl⟩]) hw hn (fun σ' Sm' => h σ' ((S9.to (fun a (q : a = 89) => by unfold fRfA; omega)).tr Sm'))
set_option maxRecDepth 20000 in
theorem lp_X10_worthE1 {g : fGP} {d : Nat} {σ : fAH} {Q : fRes → fAH → Prop} {x : fXS} {b : Int32}  (Ms : fMs g σ) (ok : fOK x) (Ir : fIr σ x) (hz : fI σ 89 0 = nI 0) (hv : ¬ (nI 0 ≤ b ∧ b ≤ nI 1)) (h : ∀ σ', fSm fRfA σ σ' → fIr σ' x → fI σ' 89 0 = nI 1 → Q (.inl (some (.long (0)))) σ') : fEv g (d + 1) mX10_worth 5 [some (.ref 89), some (.int b)] [] σ Q := by
  obtain ⟨D, ⟨S, T, sd, pn, P, rn, R⟩, B, tp, pl, im, Im⟩ := x
  have hD : fWD D := ok.1
  have hW : fWS D S := ok.2.1.1
  have hC : fWC D S := ok.2.1.2.1
  have hN : fWN S 0 0 := ok.2.1.2.2.1
  have Mr : fMr σ D S sd := Ir.1
  have Mt : fMt σ S T := Ir.2.1
  obtain ⟨t0, t1, t2, t3, t4, t5, t6⟩ := id hD.1
  have np := hW.n hD
  have n5 := hW.2.2.2.2
  have tp6 : tp ≤ 600 := ok.2.2.2.1
  have im3 : im ≤ 3 := ok.2.2.2.2.1
  have pn3 : pn ≤ 30 := ok.2.1.2.2.2.1
  have rn6 : rn ≤ 60 := ok.2.1.2.2.2.2.2.1
  have Rc : fRc σ (S, T, sd, pn, P, rn, R) := Ir.2.2.2.2.1
  have w52 := hW.1
  show fEv g (d + 1) mX10_worth 5 [some (.ref 89), some (.int b)] [] σ Q
  refine e_aload_n dX10_worth_5 rfl rfl ?_
  refine e_iload_n dX10_worth_6 rfl rfl ?_
  refine e_iconst (nI 0) dX10_worth_7 (by decide) ?_
  refine e_iconst (nI 1) dX10_worth_8 (by decide) ?_
  refine e_callS [.int b, .int (nI 0), .int (nI 1)] dX10_worth_9 cc_X10_in lk_RX10_110 st_X10_in in_RX10 rfl (Nat.le_of_ble_eq_true rfl) (Nat.le_of_ble_eq_true rfl) ?_
  refine t_X10_inF hv (fK_i ?_)
  show fEv g _ mX10_worth 12 [some (.ref 89), some (.int b)] [.int (nI 0), .ref 89] σ Q
  refine e_if_ne 19 dX10_worth_12 (by decide) (fun c => absurd c (by decide)) (fun _ => ?_)
  refine e_iconst (nI 1) dX10_worth_15 (by decide) ?_
  refine e_goto 20 dX10_worth_16 (by decide) ?_
  refine e_iconst (nI 1) dX10_worth_20 (by decide) ?_
  refine e_callV (k := 89) [.int (nI 1), .int (nI 1)] dX10_worth_21 cc_X10_bad lk_RX10_148 im_X10_bad se_X10_bad (by decide) (Ms.s 89 rfl) (Ms.n (by decide)) rfl (Nat.le_of_ble_eq_true rfl) (Nat.le_of_ble_eq_true rfl) ?_
  refine t_X10_bad1 Ms hz (by decide) (fK_i ?_)
  show fEv g _ mX10_worth 24 [some (.ref 89), some (.int b)] [.int (nI 1)] (fsI σ 89 0 (nI 1)) Q
  refine e_if_ne 39 dX10_worth_24 (by decide) (fun _ => ?_) (fun c => absurd c (by decide))
  refine e_lconst 0 dX10_worth_39 (by decide) ?_
  exact e_lreturn dX10_worth_40 rfl (h _ (fSm_I (by unfold fRfA; omega)) (Ir.f0 ok (A := fun a => a = 89) (fSm_I rfl) (fun a (q : a = 89) => Or.inl (by omega)) (fun j hj => by simp only [List.mem_cons, List.not_mem_nil, or_false] at hj; rw [fI_I, if_neg (by omega)])) (by rw [fI_I, if_pos ⟨rfl, rfl⟩]))
set_option maxRecDepth 20000 in
theorem t_X10_worthE1 {g : fGP} {d : Nat} {σ : fAH} {Q : fRes → fAH → Prop} {x : fXS} {b : Int32}  (Ms : fMs g σ) (ok : fOK x) (Ir : fIr σ x) (hv : ¬ (nI 0 ≤ b ∧ b ≤ nI 1)) (h : ∀ σ', fSm fRfA σ σ' → fIr σ' x → fI σ' 89 0 = nI 1 → Q (.inl (some (.long (0)))) σ') : fEv g (d + 1) mX10_worth 0 (fent [.ref 89, .int b] 2) [] σ Q := by
  have S9 : fSm (fun a => a = 89) σ (fsI σ 89 0 (nI 0)) := fSm_I rfl
  show fEv g (d + 1) mX10_worth 0 [some (.ref 89), some (.int b)] [] σ Q
  refine e_aload_n dX10_worth_0 rfl rfl ?_
  refine e_iconst (nI 0) dX10_worth_1 (by decide) ?_
  refine e_putI dX10_worth_2 fl_RX10_76 (Ms.s 89 rfl) (Ms.n (by decide)) rfl rfl ?_
  exact lp_X10_worthE1 (Ms.sm S9) ok (Ir.f0 ok S9 (fun a (q : a = 89) => Or.inl (by omega)) (fun j hj => by simp only [List.mem_cons, List.not_mem_nil, or_false] at hj; rw [fI_I, if_neg (by omega)])) (by rw [fI_I, if_pos ⟨rfl, rfl⟩]) hv (fun σ' Sm' => h σ' ((S9.to (fun a (q : a = 89) => by unfold fRfA; omega)).tr Sm'))
set_option maxRecDepth 20000 in
theorem lp_X10_worthE2 {g : fGP} {d : Nat} {σ : fAH} {Q : fRes → fAH → Prop} {x : fXS} {w : Nat}  (Ms : fMs g σ) (ok : fOK x) (Ir : fIr σ x) (hz : fI σ 89 0 = nI 0) (hw : w ≤ 1) (hn : ¬ (iS (xI x)) 155 < 30) (h : ∀ σ', fSm fRfA σ σ' → fIr σ' x → fI σ' 89 0 = nI 2 → Q (.inl (some (.long (0)))) σ') : fEv g (d + 1) mX10_worth 5 [some (.ref 89), some (.int (nI w))] [] σ Q := by
  obtain ⟨D, ⟨S, T, sd, pn, P, rn, R⟩, B, tp, pl, im, Im⟩ := x
  have hD : fWD D := ok.1
  have hW : fWS D S := ok.2.1.1
  have hC : fWC D S := ok.2.1.2.1
  have hN : fWN S 0 0 := ok.2.1.2.2.1
  have Mr : fMr σ D S sd := Ir.1
  have Mt : fMt σ S T := Ir.2.1
  obtain ⟨t0, t1, t2, t3, t4, t5, t6⟩ := id hD.1
  have np := hW.n hD
  have n5 := hW.2.2.2.2
  have tp6 : tp ≤ 600 := ok.2.2.2.1
  have im3 : im ≤ 3 := ok.2.2.2.2.1
  have pn3 : pn ≤ 30 := ok.2.1.2.2.2.1
  have rn6 : rn ≤ 60 := ok.2.1.2.2.2.2.2.1
  have Rc : fRc σ (S, T, sd, pn, P, rn, R) := Ir.2.2.2.2.1
  have w52 := hW.1
  show fEv g (d + 1) mX10_worth 5 [some (.ref 89), some (.int (nI w))] [] σ Q
  refine e_aload_n dX10_worth_5 rfl rfl ?_
  refine e_iload_n dX10_worth_6 rfl rfl ?_
  refine e_iconst (nI 0) dX10_worth_7 (by decide) ?_
  refine e_iconst (nI 1) dX10_worth_8 (by decide) ?_
  refine e_callS [.int (nI w), .int (nI 0), .int (nI 1)] dX10_worth_9 cc_X10_in lk_RX10_110 st_X10_in in_RX10 rfl (Nat.le_of_ble_eq_true rfl) (Nat.le_of_ble_eq_true rfl) ?_
  refine t_X10_inT ⟨(nI_le' (by omega) (by omega)).mpr (by omega), (nI_le' (by omega) (by omega)).mpr (by omega)⟩ (fK_i ?_)
  show fEv g _ mX10_worth 12 [some (.ref 89), some (.int (nI w))] [.int (nI 1), .ref 89] σ Q
  refine e_if_ne 19 dX10_worth_12 (by decide) (fun _ => ?_) (fun c => absurd c (by decide))
  refine e_iconst (nI 0) dX10_worth_19 (by decide) ?_
  refine e_iconst (nI 1) dX10_worth_20 (by decide) ?_
  refine e_callV (k := 89) [.int (nI 0), .int (nI 1)] dX10_worth_21 cc_X10_bad lk_RX10_148 im_X10_bad se_X10_bad (by decide) (Ms.s 89 rfl) (Ms.n (by decide)) rfl (Nat.le_of_ble_eq_true rfl) (Nat.le_of_ble_eq_true rfl) ?_
  refine t_X10_bad0 Ms hz (by decide) (fK_i ?_)
  show fEv g _ mX10_worth 24 [some (.ref 89), some (.int (nI w))] [.int (nI 0)] σ Q
  refine e_if_ne 39 dX10_worth_24 (by decide) (fun c => absurd c (by decide)) (fun _ => ?_)
  refine e_aload_n dX10_worth_27 rfl rfl ?_
  refine e_aload_n dX10_worth_28 rfl rfl ?_
  refine e_callV (k := 89) [] dX10_worth_29 cc_X10_isOver lk_RX10_224 im_X10_isOver se_X10_isOver (by decide) (Ms.s 89 rfl) (Ms.n (by decide)) rfl (Nat.le_of_ble_eq_true rfl) (Nat.le_of_ble_eq_true rfl) ?_
  refine t_X10_isOverT Ms Mr hD hW hn (fK_i ?_)
  show fEv g _ mX10_worth 32 [some (.ref 89), some (.int (nI w))] [.int (nI 1), .ref 89] σ Q
  refine e_iconst (nI 2) dX10_worth_32 (by decide) ?_
  refine e_callV (k := 89) [.int (nI 1), .int (nI 2)] dX10_worth_33 cc_X10_bad lk_RX10_148 im_X10_bad se_X10_bad (by decide) (Ms.s 89 rfl) (Ms.n (by decide)) rfl (Nat.le_of_ble_eq_true rfl) (Nat.le_of_ble_eq_true rfl) ?_
  refine t_X10_bad1 Ms hz (by decide) (fK_i ?_)
  show fEv g _ mX10_worth 36 [some (.ref 89), some (.int (nI w))] [.int (nI 1)] (fsI σ 89 0 (nI 2)) Q
  refine e_if_eq 41 dX10_worth_36 (by decide) (fun c => absurd c (by decide)) (fun _ => ?_)
  refine e_lconst 0 dX10_worth_39 (by decide) ?_
  exact e_lreturn dX10_worth_40 rfl (h _ (fSm_I (by unfold fRfA; omega)) (Ir.f0 ok (A := fun a => a = 89) (fSm_I rfl) (fun a (q : a = 89) => Or.inl (by omega)) (fun j hj => by simp only [List.mem_cons, List.not_mem_nil, or_false] at hj; rw [fI_I, if_neg (by omega)])) (by rw [fI_I, if_pos ⟨rfl, rfl⟩]))
set_option maxRecDepth 20000 in
theorem t_X10_worthE2 {g : fGP} {d : Nat} {σ : fAH} {Q : fRes → fAH → Prop} {x : fXS} {w : Nat}  (Ms : fMs g σ) (ok : fOK x) (Ir : fIr σ x) (hw : w ≤ 1) (hn : ¬ (iS (xI x)) 155 < 30) (h : ∀ σ', fSm fRfA σ σ' → fIr σ' x → fI σ' 89 0 = nI 2 → Q (.inl (some (.long (0)))) σ') : fEv g (d + 1) mX10_worth 0 (fent [.ref 89, .int (nI w)] 2) [] σ Q := by
  have S9 : fSm (fun a => a = 89) σ (fsI σ 89 0 (nI 0)) := fSm_I rfl
  show fEv g (d + 1) mX10_worth 0 [some (.ref 89), some (.int (nI w))] [] σ Q
  refine e_aload_n dX10_worth_0 rfl rfl ?_
  refine e_iconst (nI 0) dX10_worth_1 (by decide) ?_
  refine e_putI dX10_worth_2 fl_RX10_76 (Ms.s 89 rfl) (Ms.n (by decide)) rfl rfl ?_
  exact lp_X10_worthE2 (Ms.sm S9) ok (Ir.f0 ok S9 (fun a (q : a = 89) => Or.inl (by omega)) (fun j hj => by simp only [List.mem_cons, List.not_mem_nil, or_false] at hj; rw [fI_I, if_neg (by omega)])) (by rw [fI_I, if_pos ⟨rfl, rfl⟩]) hw hn (fun σ' Sm' => h σ' ((S9.to (fun a (q : a = 89) => by unfold fRfA; omega)).tr Sm'))
set_option maxRecDepth 20000 in
theorem lp_X10_now {g : fGP} {d : Nat} {σ : fAH} {Q : fRes → fAH → Prop} {x : fXS} {f w : Nat}  (Ms : fMs g σ) (ok : fOK x) (Ir : fIr σ x) (hz : fI σ 89 0 = nI 0) (hf : f < 4096) (hv1 : nI f &&& (nI (mfa (mal (xD x) (iS (xI x))) 12 (dT (xD x) 1) 0 0) ^^^ (-1)) = 0) (hv2 : mon f 12 0 ≤ dT (xD x) 3) (hfz : ∀ j, dT (xD x) 1 ≤ j → f / 2 ^ j % 2 = 0) (h6 : mon f 12 0 ≤ 6) (hw : w ≤ 1) (hn : (iS (xI x)) 155 < 30) (h : ∀ σ', fSm fRfA σ σ' → fIr σ' x → fI σ' 89 0 = nI 0 → Q (.inl (some (.long (vNow (xD x) (iS (xI x)) f w)))) σ') : fEv g (d + 18) mX10_now 5 [some (.ref 89), some (.int (nI f)), some (.int (nI w))] [] σ Q := by
  obtain ⟨D, ⟨S, T, sd, pn, P, rn, R⟩, B, tp, pl, im, Im⟩ := x
  have hD : fWD D := ok.1
  have hW : fWS D S := ok.2.1.1
  have hC : fWC D S := ok.2.1.2.1
  have hN : fWN S 0 0 := ok.2.1.2.2.1
  have Mr : fMr σ D S sd := Ir.1
  have Mt : fMt σ S T := Ir.2.1
  obtain ⟨t0, t1, t2, t3, t4, t5, t6⟩ := id hD.1
  have np := hW.n hD
  have n5 := hW.2.2.2.2
  have tp6 : tp ≤ 600 := ok.2.2.2.1
  have im3 : im ≤ 3 := ok.2.2.2.2.1
  have pn3 : pn ≤ 30 := ok.2.1.2.2.2.1
  have rn6 : rn ≤ 60 := ok.2.1.2.2.2.2.2.1
  have Rc : fRc σ (S, T, sd, pn, P, rn, R) := Ir.2.2.2.2.1
  have w52 := hW.1
  have hv1 : nI f &&& (nI (mfa (mal D S) 12 (dT D 1) 0 0) ^^^ (-1)) = 0 := hv1
  have hv2 : mon f 12 0 ≤ dT D 3 := hv2
  have hn : S 155 < 30 := hn
  have ml := mon_le (b := f) 12 0
  have cb := cSum_b hD hW hC hn hfz h6
  have q1 : 0 < 4 ^ (6 - mon f 12 0) := Nat.pow_pos (by decide)
  have q2 : mby D (lf0 D (S 151)) f S ≤ cSum D (lf0 D (S 151)) S f := Nat.le_mul_of_pos_left _ q1
  have q3 : 0 < 4 ^ (mon f 12 0) := Nat.pow_pos (by decide)
  have q4 : 4 ^ (mon f 12 0) ≤ 4 ^ 6 := Nat.pow_le_pow_right (by decide) h6
  have q5 : (4 : Nat) ^ 6 = 4096 := by decide
  show fEv g (d + 18) mX10_now 5 [some (.ref 89), some (.int (nI f)), some (.int (nI w))] [] σ Q
  refine e_aload_n dX10_now_5 rfl rfl ?_
  refine e_aload_n dX10_now_6 rfl rfl ?_
  refine e_iload_n dX10_now_7 rfl rfl ?_
  refine e_callV (k := 89) [.int (nI f)] dX10_now_8 cc_X10_isFill lk_RX10_221 im_X10_isFill se_X10_isFill (by decide) (Ms.s 89 rfl) (Ms.n (by decide)) rfl (Nat.le_of_ble_eq_true rfl) (Nat.le_of_ble_eq_true rfl) ?_
  refine t_X10_isFillT Ms Mr hD hW hf hv1 hv2 (fK_i ?_)
  show fEv g _ mX10_now 11 [some (.ref 89), some (.int (nI f)), some (.int (nI w))] [.int (nI 1), .ref 89] σ Q
  refine e_if_eq 32 dX10_now_11 (by decide) (fun c => absurd c (by decide)) (fun _ => ?_)
  refine e_iload_n dX10_now_14 rfl rfl ?_
  refine e_callS [.int (nI f)] dX10_now_15 cc_X10_ones lk_RX10_218 st_X10_ones in_RX10 rfl (Nat.le_of_ble_eq_true rfl) (Nat.le_of_ble_eq_true rfl) ?_
  refine t_X10_ones (by omega) (fK_i ?_)
  show fEv g _ mX10_now 18 [some (.ref 89), some (.int (nI f)), some (.int (nI w))] [.int (nI (mon f 12 0)), .ref 89] σ Q
  refine e_bipush (nI 6) dX10_now_18 (by decide) ?_
  refine e_icmp_gt 32 dX10_now_20 (by decide) (fun c => absurd c (fun q => absurd ((nI_lt' (by omega) (by omega)).mp q) (by omega))) (fun _ => ?_)
  refine e_iload_n dX10_now_23 rfl rfl ?_
  refine e_iconst (nI 0) dX10_now_24 (by decide) ?_
  refine e_iconst (nI 1) dX10_now_25 (by decide) ?_
  refine e_callS [.int (nI w), .int (nI 0), .int (nI 1)] dX10_now_26 cc_X10_in lk_RX10_110 st_X10_in in_RX10 rfl (Nat.le_of_ble_eq_true rfl) (Nat.le_of_ble_eq_true rfl) ?_
  refine t_X10_inT ⟨(nI_le' (by omega) (by omega)).mpr (by omega), (nI_le' (by omega) (by omega)).mpr (by omega)⟩ (fK_i ?_)
  show fEv g _ mX10_now 29 [some (.ref 89), some (.int (nI f)), some (.int (nI w))] [.int (nI 1), .ref 89] σ Q
  refine e_if_ne 36 dX10_now_29 (by decide) (fun _ => ?_) (fun c => absurd c (by decide))
  refine e_iconst (nI 0) dX10_now_36 (by decide) ?_
  refine e_iconst (nI 1) dX10_now_37 (by decide) ?_
  refine e_callV (k := 89) [.int (nI 0), .int (nI 1)] dX10_now_38 cc_X10_bad lk_RX10_148 im_X10_bad se_X10_bad (by decide) (Ms.s 89 rfl) (Ms.n (by decide)) rfl (Nat.le_of_ble_eq_true rfl) (Nat.le_of_ble_eq_true rfl) ?_
  refine t_X10_bad0 Ms hz (by decide) (fK_i ?_)
  show fEv g _ mX10_now 41 [some (.ref 89), some (.int (nI f)), some (.int (nI w))] [.int (nI 0)] σ Q
  refine e_if_ne 56 dX10_now_41 (by decide) (fun c => absurd c (by decide)) (fun _ => ?_)
  refine e_aload_n dX10_now_44 rfl rfl ?_
  refine e_aload_n dX10_now_45 rfl rfl ?_
  refine e_callV (k := 89) [] dX10_now_46 cc_X10_isOver lk_RX10_224 im_X10_isOver se_X10_isOver (by decide) (Ms.s 89 rfl) (Ms.n (by decide)) rfl (Nat.le_of_ble_eq_true rfl) (Nat.le_of_ble_eq_true rfl) ?_
  refine t_X10_isOverF Ms Mr hD hW hn (fK_i ?_)
  show fEv g _ mX10_now 49 [some (.ref 89), some (.int (nI f)), some (.int (nI w))] [.int (nI 0), .ref 89] σ Q
  refine e_iconst (nI 2) dX10_now_49 (by decide) ?_
  refine e_callV (k := 89) [.int (nI 0), .int (nI 2)] dX10_now_50 cc_X10_bad lk_RX10_148 im_X10_bad se_X10_bad (by decide) (Ms.s 89 rfl) (Ms.n (by decide)) rfl (Nat.le_of_ble_eq_true rfl) (Nat.le_of_ble_eq_true rfl) ?_
  refine t_X10_bad0 Ms hz (by decide) (fK_i ?_)
  show fEv g _ mX10_now 53 [some (.ref 89), some (.int (nI f)), some (.int (nI w))] [.int (nI 0)] σ Q
  refine e_if_eq 58 dX10_now_53 (by decide) (fun _ => ?_) (fun c => absurd c (by decide))
  refine e_aload_n dX10_now_58 rfl rfl ?_
  refine e_iload_n dX10_now_59 rfl rfl ?_
  refine e_callV (k := 89) [.int (nI f)] dX10_now_60 cc_X10_byOdds lk_RX10_286 im_X10_byOdds se_X10_byOdds (by decide) (Ms.s 89 rfl) (Ms.n (by decide)) rfl (Nat.le_of_ble_eq_true rfl) (Nat.le_of_ble_eq_true rfl) ?_
  refine t_X10_by0 (dp := 0) Ms Mr hD hW hC hn hN Ir.2.2.1.2.1 Ir.2.2.1.1 (by have := mon_le (b := f) (dT D 1) 0; omega) Ir.2.2.1.2.2.1 hf (fun σ1 Sm1 Mr1 k1 hJ1 => fK_i ?_)
  show fEv g _ mX10_now 63 [some (.ref 89), some (.int (nI f)), some (.int (nI w))] [.long (nL (mby D (lf0 D (S 151)) f S))] σ1 Q
  have Ms1 := Ms.sm Sm1
  have Ir1 := Ir.back ok Sm1 (fun a q => by unfold fBA at q; omega) (fun j _ => congrFun k1 j) Mr1
  have hz1 := (congrFun k1 0).trans hz
  refine e_ldc2 (8) dX10_now_63 kc_RX10_307 ?_
  refine e_long (nL 8) rfl ?_
  refine e_iload_n dX10_now_66 rfl rfl ?_
  refine e_callS [.int (nI f)] dX10_now_67 cc_X10_ones lk_RX10_218 st_X10_ones in_RX10 rfl (Nat.le_of_ble_eq_true rfl) (Nat.le_of_ble_eq_true rfl) ?_
  refine t_X10_ones (by omega) (fK_i ?_)
  show fEv g _ mX10_now 70 [some (.ref 89), some (.int (nI f)), some (.int (nI w))] [.int (nI (mon f 12 0)), .long (nL 8), .long (nL (mby D (lf0 D (S 151)) f S))] σ1 Q
  refine e_callS [.int (nI (mon f 12 0))] dX10_now_70 cc_X10_fours lk_RX10_290 st_X10_fours in_RX10 rfl (Nat.le_of_ble_eq_true rfl) (Nat.le_of_ble_eq_true rfl) ?_
  refine t_X10_fours (by omega) (fK_i ?_)
  show fEv g _ mX10_now 73 [some (.ref 89), some (.int (nI f)), some (.int (nI w))] [.long (nL (4 ^ (mon f 12 0))), .long (nL 8), .long (nL (mby D (lf0 D (S 151)) f S))] σ1 Q
  refine e_lmul dX10_now_73 ?_
  refine e_long (nL (8 * (4 ^ (mon f 12 0)))) (nL_mul 8 (4 ^ (mon f 12 0))) ?_
  refine e_iload_n dX10_now_74 rfl rfl ?_
  refine e_callS [.long (nL (mby D (lf0 D (S 151)) f S)), .long (nL (8 * (4 ^ (mon f 12 0)))), .int (nI w)] dX10_now_75 cc_X10_least lk_RX10_303 st_X10_least in_RX10 rfl (Nat.le_of_ble_eq_true rfl) (Nat.le_of_ble_eq_true rfl) ?_
  refine t_X10_least (by omega) (by omega) (by omega) (by omega) (fK_i ?_)
  show fEv g _ mX10_now 78 [some (.ref 89), some (.int (nI f)), some (.int (nI w))] [.long (nL (if w = 0 then (mby D (lf0 D (S 151)) f S) / Nat.gcd (mby D (lf0 D (S 151)) f S) (8 * (4 ^ (mon f 12 0))) else (8 * (4 ^ (mon f 12 0))) / Nat.gcd (mby D (lf0 D (S 151)) f S) (8 * (4 ^ (mon f 12 0)))))] σ1 Q
  have h9 : Q (.inl (some (.long (vNow D S f w)))) σ1 := h σ1 (Sm1.to (fun a q => by unfold fBA at q; unfold fRfA; omega)) Ir1 hz1
  unfold vNow at h9
  rw [← p4_6 h6, show cSum D (lf0 D (S 151)) S f = 4 ^ (6 - mon f 12 0) * mby D (lf0 D (S 151)) f S from rfl, gsc (Nat.pow_pos (by decide))] at h9
  exact e_lreturn dX10_now_78 rfl h9
set_option maxRecDepth 20000 in
theorem t_X10_now {g : fGP} {d : Nat} {σ : fAH} {Q : fRes → fAH → Prop} {x : fXS} {f w : Nat}  (Ms : fMs g σ) (ok : fOK x) (Ir : fIr σ x) (hf : f < 4096) (hv1 : nI f &&& (nI (mfa (mal (xD x) (iS (xI x))) 12 (dT (xD x) 1) 0 0) ^^^ (-1)) = 0) (hv2 : mon f 12 0 ≤ dT (xD x) 3) (hfz : ∀ j, dT (xD x) 1 ≤ j → f / 2 ^ j % 2 = 0) (h6 : mon f 12 0 ≤ 6) (hw : w ≤ 1) (hn : (iS (xI x)) 155 < 30) (h : ∀ σ', fSm fRfA σ σ' → fIr σ' x → fI σ' 89 0 = nI 0 → Q (.inl (some (.long (vNow (xD x) (iS (xI x)) f w)))) σ') : fEv g (d + 18) mX10_now 0 (fent [.ref 89, .int (nI f), .int (nI w)] 3) [] σ Q := by
  have S9 : fSm (fun a => a = 89) σ (fsI σ 89 0 (nI 0)) := fSm_I rfl
  show fEv g (d + 18) mX10_now 0 [some (.ref 89), some (.int (nI f)), some (.int (nI w))] [] σ Q
  refine e_aload_n dX10_now_0 rfl rfl ?_
  refine e_iconst (nI 0) dX10_now_1 (by decide) ?_
  refine e_putI dX10_now_2 fl_RX10_76 (Ms.s 89 rfl) (Ms.n (by decide)) rfl rfl ?_
  exact lp_X10_now (Ms.sm S9) ok (Ir.f0 ok S9 (fun a (q : a = 89) => Or.inl (by omega)) (fun j hj => by simp only [List.mem_cons, List.not_mem_nil, or_false] at hj; rw [fI_I, if_neg (by omega)])) (by rw [fI_I, if_pos ⟨rfl, rfl⟩]) hf hv1 hv2 hfz h6 hw hn (fun σ' Sm' => h σ' ((S9.to (fun a (q : a = 89) => by unfold fRfA; omega)).tr Sm'))
set_option maxRecDepth 20000 in
theorem lp_X10_nowE1 {g : fGP} {d : Nat} {σ : fAH} {Q : fRes → fAH → Prop} {x : fXS} {a b : Int32}  (Ms : fMs g σ) (ok : fOK x) (Ir : fIr σ x) (hz : fI σ 89 0 = nI 0) (hv1 : ¬ a &&& (nI (mfa (mal (xD x) (iS (xI x))) 12 (dT (xD x) 1) 0 0) ^^^ (-1)) = 0) (h : ∀ σ', fSm fRfA σ σ' → fIr σ' x → fI σ' 89 0 = nI 1 → Q (.inl (some (.long (0)))) σ') : fEv g (d + 5) mX10_now 5 [some (.ref 89), some (.int a), some (.int b)] [] σ Q := by
  obtain ⟨D, ⟨S, T, sd, pn, P, rn, R⟩, B, tp, pl, im, Im⟩ := x
  have hD : fWD D := ok.1
  have hW : fWS D S := ok.2.1.1
  have hC : fWC D S := ok.2.1.2.1
  have hN : fWN S 0 0 := ok.2.1.2.2.1
  have Mr : fMr σ D S sd := Ir.1
  have Mt : fMt σ S T := Ir.2.1
  obtain ⟨t0, t1, t2, t3, t4, t5, t6⟩ := id hD.1
  have np := hW.n hD
  have n5 := hW.2.2.2.2
  have tp6 : tp ≤ 600 := ok.2.2.2.1
  have im3 : im ≤ 3 := ok.2.2.2.2.1
  have pn3 : pn ≤ 30 := ok.2.1.2.2.2.1
  have rn6 : rn ≤ 60 := ok.2.1.2.2.2.2.2.1
  have Rc : fRc σ (S, T, sd, pn, P, rn, R) := Ir.2.2.2.2.1
  have w52 := hW.1
  show fEv g (d + 5) mX10_now 5 [some (.ref 89), some (.int a), some (.int b)] [] σ Q
  refine e_aload_n dX10_now_5 rfl rfl ?_
  refine e_aload_n dX10_now_6 rfl rfl ?_
  refine e_iload_n dX10_now_7 rfl rfl ?_
  refine e_callV (k := 89) [.int a] dX10_now_8 cc_X10_isFill lk_RX10_221 im_X10_isFill se_X10_isFill (by decide) (Ms.s 89 rfl) (Ms.n (by decide)) rfl (Nat.le_of_ble_eq_true rfl) (Nat.le_of_ble_eq_true rfl) ?_
  refine t_X10_isFillF1 Ms Mr hD hW hv1 (fK_i ?_)
  show fEv g _ mX10_now 11 [some (.ref 89), some (.int a), some (.int b)] [.int (nI 0), .ref 89] σ Q
  refine e_if_eq 32 dX10_now_11 (by decide) (fun _ => ?_) (fun c => absurd c (by decide))
  refine e_iconst (nI 1) dX10_now_32 (by decide) ?_
  refine e_goto 37 dX10_now_33 (by decide) ?_
  refine e_iconst (nI 1) dX10_now_37 (by decide) ?_
  refine e_callV (k := 89) [.int (nI 1), .int (nI 1)] dX10_now_38 cc_X10_bad lk_RX10_148 im_X10_bad se_X10_bad (by decide) (Ms.s 89 rfl) (Ms.n (by decide)) rfl (Nat.le_of_ble_eq_true rfl) (Nat.le_of_ble_eq_true rfl) ?_
  refine t_X10_bad1 Ms hz (by decide) (fK_i ?_)
  show fEv g _ mX10_now 41 [some (.ref 89), some (.int a), some (.int b)] [.int (nI 1)] (fsI σ 89 0 (nI 1)) Q
  refine e_if_ne 56 dX10_now_41 (by decide) (fun _ => ?_) (fun c => absurd c (by decide))
  refine e_lconst 0 dX10_now_56 (by decide) ?_
  exact e_lreturn dX10_now_57 rfl (h _ (fSm_I (by unfold fRfA; omega)) (Ir.f0 ok (A := fun a => a = 89) (fSm_I rfl) (fun a (q : a = 89) => Or.inl (by omega)) (fun j hj => by simp only [List.mem_cons, List.not_mem_nil, or_false] at hj; rw [fI_I, if_neg (by omega)])) (by rw [fI_I, if_pos ⟨rfl, rfl⟩]))
set_option maxRecDepth 20000 in
theorem t_X10_nowE1 {g : fGP} {d : Nat} {σ : fAH} {Q : fRes → fAH → Prop} {x : fXS} {a b : Int32}  (Ms : fMs g σ) (ok : fOK x) (Ir : fIr σ x) (hv1 : ¬ a &&& (nI (mfa (mal (xD x) (iS (xI x))) 12 (dT (xD x) 1) 0 0) ^^^ (-1)) = 0) (h : ∀ σ', fSm fRfA σ σ' → fIr σ' x → fI σ' 89 0 = nI 1 → Q (.inl (some (.long (0)))) σ') : fEv g (d + 5) mX10_now 0 (fent [.ref 89, .int a, .int b] 3) [] σ Q := by
  have S9 : fSm (fun a => a = 89) σ (fsI σ 89 0 (nI 0)) := fSm_I rfl
  show fEv g (d + 5) mX10_now 0 [some (.ref 89), some (.int a), some (.int b)] [] σ Q
  refine e_aload_n dX10_now_0 rfl rfl ?_
  refine e_iconst (nI 0) dX10_now_1 (by decide) ?_
  refine e_putI dX10_now_2 fl_RX10_76 (Ms.s 89 rfl) (Ms.n (by decide)) rfl rfl ?_
  exact lp_X10_nowE1 (Ms.sm S9) ok (Ir.f0 ok S9 (fun a (q : a = 89) => Or.inl (by omega)) (fun j hj => by simp only [List.mem_cons, List.not_mem_nil, or_false] at hj; rw [fI_I, if_neg (by omega)])) (by rw [fI_I, if_pos ⟨rfl, rfl⟩]) hv1 (fun σ' Sm' => h σ' ((S9.to (fun a (q : a = 89) => by unfold fRfA; omega)).tr Sm'))
set_option maxRecDepth 20000 in
theorem lp_X10_nowE2 {g : fGP} {d : Nat} {σ : fAH} {Q : fRes → fAH → Prop} {x : fXS} {f : Nat} {b : Int32}  (Ms : fMs g σ) (ok : fOK x) (Ir : fIr σ x) (hz : fI σ 89 0 = nI 0) (hf : f < 4096) (hv1 : nI f &&& (nI (mfa (mal (xD x) (iS (xI x))) 12 (dT (xD x) 1) 0 0) ^^^ (-1)) = 0) (hv2 : ¬ mon f 12 0 ≤ dT (xD x) 3) (h : ∀ σ', fSm fRfA σ σ' → fIr σ' x → fI σ' 89 0 = nI 1 → Q (.inl (some (.long (0)))) σ') : fEv g (d + 5) mX10_now 5 [some (.ref 89), some (.int (nI f)), some (.int b)] [] σ Q := by
  obtain ⟨D, ⟨S, T, sd, pn, P, rn, R⟩, B, tp, pl, im, Im⟩ := x
  have hD : fWD D := ok.1
  have hW : fWS D S := ok.2.1.1
  have hC : fWC D S := ok.2.1.2.1
  have hN : fWN S 0 0 := ok.2.1.2.2.1
  have Mr : fMr σ D S sd := Ir.1
  have Mt : fMt σ S T := Ir.2.1
  obtain ⟨t0, t1, t2, t3, t4, t5, t6⟩ := id hD.1
  have np := hW.n hD
  have n5 := hW.2.2.2.2
  have tp6 : tp ≤ 600 := ok.2.2.2.1
  have im3 : im ≤ 3 := ok.2.2.2.2.1
  have pn3 : pn ≤ 30 := ok.2.1.2.2.2.1
  have rn6 : rn ≤ 60 := ok.2.1.2.2.2.2.2.1
  have Rc : fRc σ (S, T, sd, pn, P, rn, R) := Ir.2.2.2.2.1
  have w52 := hW.1
  show fEv g (d + 5) mX10_now 5 [some (.ref 89), some (.int (nI f)), some (.int b)] [] σ Q
  refine e_aload_n dX10_now_5 rfl rfl ?_
  refine e_aload_n dX10_now_6 rfl rfl ?_
  refine e_iload_n dX10_now_7 rfl rfl ?_
  refine e_callV (k := 89) [.int (nI f)] dX10_now_8 cc_X10_isFill lk_RX10_221 im_X10_isFill se_X10_isFill (by decide) (Ms.s 89 rfl) (Ms.n (by decide)) rfl (Nat.le_of_ble_eq_true rfl) (Nat.le_of_ble_eq_true rfl) ?_
  refine t_X10_isFillF2 Ms Mr hD hW hf hv1 hv2 (fK_i ?_)
  show fEv g _ mX10_now 11 [some (.ref 89), some (.int (nI f)), some (.int b)] [.int (nI 0), .ref 89] σ Q
  refine e_if_eq 32 dX10_now_11 (by decide) (fun _ => ?_) (fun c => absurd c (by decide))
  refine e_iconst (nI 1) dX10_now_32 (by decide) ?_
  refine e_goto 37 dX10_now_33 (by decide) ?_
  refine e_iconst (nI 1) dX10_now_37 (by decide) ?_
  refine e_callV (k := 89) [.int (nI 1), .int (nI 1)] dX10_now_38 cc_X10_bad lk_RX10_148 im_X10_bad se_X10_bad (by decide) (Ms.s 89 rfl) (Ms.n (by decide)) rfl (Nat.le_of_ble_eq_true rfl) (Nat.le_of_ble_eq_true rfl) ?_
  refine t_X10_bad1 Ms hz (by decide) (fK_i ?_)
  show fEv g _ mX10_now 41 [some (.ref 89), some (.int (nI f)), some (.int b)] [.int (nI 1)] (fsI σ 89 0 (nI 1)) Q
  refine e_if_ne 56 dX10_now_41 (by decide) (fun _ => ?_) (fun c => absurd c (by decide))
  refine e_lconst 0 dX10_now_56 (by decide) ?_
  exact e_lreturn dX10_now_57 rfl (h _ (fSm_I (by unfold fRfA; omega)) (Ir.f0 ok (A := fun a => a = 89) (fSm_I rfl) (fun a (q : a = 89) => Or.inl (by omega)) (fun j hj => by simp only [List.mem_cons, List.not_mem_nil, or_false] at hj; rw [fI_I, if_neg (by omega)])) (by rw [fI_I, if_pos ⟨rfl, rfl⟩]))
set_option maxRecDepth 20000 in
theorem t_X10_nowE2 {g : fGP} {d : Nat} {σ : fAH} {Q : fRes → fAH → Prop} {x : fXS} {f : Nat} {b : Int32}  (Ms : fMs g σ) (ok : fOK x) (Ir : fIr σ x) (hf : f < 4096) (hv1 : nI f &&& (nI (mfa (mal (xD x) (iS (xI x))) 12 (dT (xD x) 1) 0 0) ^^^ (-1)) = 0) (hv2 : ¬ mon f 12 0 ≤ dT (xD x) 3) (h : ∀ σ', fSm fRfA σ σ' → fIr σ' x → fI σ' 89 0 = nI 1 → Q (.inl (some (.long (0)))) σ') : fEv g (d + 5) mX10_now 0 (fent [.ref 89, .int (nI f), .int b] 3) [] σ Q := by
  have S9 : fSm (fun a => a = 89) σ (fsI σ 89 0 (nI 0)) := fSm_I rfl
  show fEv g (d + 5) mX10_now 0 [some (.ref 89), some (.int (nI f)), some (.int b)] [] σ Q
  refine e_aload_n dX10_now_0 rfl rfl ?_
  refine e_iconst (nI 0) dX10_now_1 (by decide) ?_
  refine e_putI dX10_now_2 fl_RX10_76 (Ms.s 89 rfl) (Ms.n (by decide)) rfl rfl ?_
  exact lp_X10_nowE2 (Ms.sm S9) ok (Ir.f0 ok S9 (fun a (q : a = 89) => Or.inl (by omega)) (fun j hj => by simp only [List.mem_cons, List.not_mem_nil, or_false] at hj; rw [fI_I, if_neg (by omega)])) (by rw [fI_I, if_pos ⟨rfl, rfl⟩]) hf hv1 hv2 (fun σ' Sm' => h σ' ((S9.to (fun a (q : a = 89) => by unfold fRfA; omega)).tr Sm'))
set_option maxRecDepth 20000 in
theorem lp_X10_nowE3 {g : fGP} {d : Nat} {σ : fAH} {Q : fRes → fAH → Prop} {x : fXS} {f : Nat} {b : Int32}  (Ms : fMs g σ) (ok : fOK x) (Ir : fIr σ x) (hz : fI σ 89 0 = nI 0) (hf : f < 4096) (hv1 : nI f &&& (nI (mfa (mal (xD x) (iS (xI x))) 12 (dT (xD x) 1) 0 0) ^^^ (-1)) = 0) (hv2 : mon f 12 0 ≤ dT (xD x) 3) (hv : ¬ mon f 12 0 ≤ 6) (h : ∀ σ', fSm fRfA σ σ' → fIr σ' x → fI σ' 89 0 = nI 1 → Q (.inl (some (.long (0)))) σ') : fEv g (d + 5) mX10_now 5 [some (.ref 89), some (.int (nI f)), some (.int b)] [] σ Q := by
  obtain ⟨D, ⟨S, T, sd, pn, P, rn, R⟩, B, tp, pl, im, Im⟩ := x
  have hD : fWD D := ok.1
  have hW : fWS D S := ok.2.1.1
  have hC : fWC D S := ok.2.1.2.1
  have hN : fWN S 0 0 := ok.2.1.2.2.1
  have Mr : fMr σ D S sd := Ir.1
  have Mt : fMt σ S T := Ir.2.1
  obtain ⟨t0, t1, t2, t3, t4, t5, t6⟩ := id hD.1
  have np := hW.n hD
  have n5 := hW.2.2.2.2
  have tp6 : tp ≤ 600 := ok.2.2.2.1
  have im3 : im ≤ 3 := ok.2.2.2.2.1
  have pn3 : pn ≤ 30 := ok.2.1.2.2.2.1
  have rn6 : rn ≤ 60 := ok.2.1.2.2.2.2.2.1
  have Rc : fRc σ (S, T, sd, pn, P, rn, R) := Ir.2.2.2.2.1
  have w52 := hW.1
  have ml := mon_le (b := f) 12 0
  show fEv g (d + 5) mX10_now 5 [some (.ref 89), some (.int (nI f)), some (.int b)] [] σ Q
  refine e_aload_n dX10_now_5 rfl rfl ?_
  refine e_aload_n dX10_now_6 rfl rfl ?_
  refine e_iload_n dX10_now_7 rfl rfl ?_
  refine e_callV (k := 89) [.int (nI f)] dX10_now_8 cc_X10_isFill lk_RX10_221 im_X10_isFill se_X10_isFill (by decide) (Ms.s 89 rfl) (Ms.n (by decide)) rfl (Nat.le_of_ble_eq_true rfl) (Nat.le_of_ble_eq_true rfl) ?_
  refine t_X10_isFillT Ms Mr hD hW hf hv1 hv2 (fK_i ?_)
  show fEv g _ mX10_now 11 [some (.ref 89), some (.int (nI f)), some (.int b)] [.int (nI 1), .ref 89] σ Q
  refine e_if_eq 32 dX10_now_11 (by decide) (fun c => absurd c (by decide)) (fun _ => ?_)
  refine e_iload_n dX10_now_14 rfl rfl ?_
  refine e_callS [.int (nI f)] dX10_now_15 cc_X10_ones lk_RX10_218 st_X10_ones in_RX10 rfl (Nat.le_of_ble_eq_true rfl) (Nat.le_of_ble_eq_true rfl) ?_
  refine t_X10_ones (by omega) (fK_i ?_)
  show fEv g _ mX10_now 18 [some (.ref 89), some (.int (nI f)), some (.int b)] [.int (nI (mon f 12 0)), .ref 89] σ Q
  refine e_bipush (nI 6) dX10_now_18 (by decide) ?_
  refine e_icmp_gt 32 dX10_now_20 (by decide) (fun _ => ?_) (fun c => absurd ((nI_lt' (by omega) (by omega)).mpr (by omega)) c)
  refine e_iconst (nI 1) dX10_now_32 (by decide) ?_
  refine e_goto 37 dX10_now_33 (by decide) ?_
  refine e_iconst (nI 1) dX10_now_37 (by decide) ?_
  refine e_callV (k := 89) [.int (nI 1), .int (nI 1)] dX10_now_38 cc_X10_bad lk_RX10_148 im_X10_bad se_X10_bad (by decide) (Ms.s 89 rfl) (Ms.n (by decide)) rfl (Nat.le_of_ble_eq_true rfl) (Nat.le_of_ble_eq_true rfl) ?_
  refine t_X10_bad1 Ms hz (by decide) (fK_i ?_)
  show fEv g _ mX10_now 41 [some (.ref 89), some (.int (nI f)), some (.int b)] [.int (nI 1)] (fsI σ 89 0 (nI 1)) Q
  refine e_if_ne 56 dX10_now_41 (by decide) (fun _ => ?_) (fun c => absurd c (by decide))
  refine e_lconst 0 dX10_now_56 (by decide) ?_
  exact e_lreturn dX10_now_57 rfl (h _ (fSm_I (by unfold fRfA; omega)) (Ir.f0 ok (A := fun a => a = 89) (fSm_I rfl) (fun a (q : a = 89) => Or.inl (by omega)) (fun j hj => by simp only [List.mem_cons, List.not_mem_nil, or_false] at hj; rw [fI_I, if_neg (by omega)])) (by rw [fI_I, if_pos ⟨rfl, rfl⟩]))
set_option maxRecDepth 20000 in
theorem t_X10_nowE3 {g : fGP} {d : Nat} {σ : fAH} {Q : fRes → fAH → Prop} {x : fXS} {f : Nat} {b : Int32}  (Ms : fMs g σ) (ok : fOK x) (Ir : fIr σ x) (hf : f < 4096) (hv1 : nI f &&& (nI (mfa (mal (xD x) (iS (xI x))) 12 (dT (xD x) 1) 0 0) ^^^ (-1)) = 0) (hv2 : mon f 12 0 ≤ dT (xD x) 3) (hv : ¬ mon f 12 0 ≤ 6) (h : ∀ σ', fSm fRfA σ σ' → fIr σ' x → fI σ' 89 0 = nI 1 → Q (.inl (some (.long (0)))) σ') : fEv g (d + 5) mX10_now 0 (fent [.ref 89, .int (nI f), .int b] 3) [] σ Q := by
  have S9 : fSm (fun a => a = 89) σ (fsI σ 89 0 (nI 0)) := fSm_I rfl
  show fEv g (d + 5) mX10_now 0 [some (.ref 89), some (.int (nI f)), some (.int b)] [] σ Q
  refine e_aload_n dX10_now_0 rfl rfl ?_
  refine e_iconst (nI 0) dX10_now_1 (by decide) ?_
  refine e_putI dX10_now_2 fl_RX10_76 (Ms.s 89 rfl) (Ms.n (by decide)) rfl rfl ?_
  exact lp_X10_nowE3 (Ms.sm S9) ok (Ir.f0 ok S9 (fun a (q : a = 89) => Or.inl (by omega)) (fun j hj => by simp only [List.mem_cons, List.not_mem_nil, or_false] at hj; rw [fI_I, if_neg (by omega)])) (by rw [fI_I, if_pos ⟨rfl, rfl⟩]) hf hv1 hv2 hv (fun σ' Sm' => h σ' ((S9.to (fun a (q : a = 89) => by unfold fRfA; omega)).tr Sm'))
set_option maxRecDepth 20000 in
theorem lp_X10_nowE4 {g : fGP} {d : Nat} {σ : fAH} {Q : fRes → fAH → Prop} {x : fXS} {f : Nat} {b : Int32}  (Ms : fMs g σ) (ok : fOK x) (Ir : fIr σ x) (hz : fI σ 89 0 = nI 0) (hf : f < 4096) (hv1 : nI f &&& (nI (mfa (mal (xD x) (iS (xI x))) 12 (dT (xD x) 1) 0 0) ^^^ (-1)) = 0) (hv2 : mon f 12 0 ≤ dT (xD x) 3) (h6 : mon f 12 0 ≤ 6) (hv : ¬ (nI 0 ≤ b ∧ b ≤ nI 1)) (h : ∀ σ', fSm fRfA σ σ' → fIr σ' x → fI σ' 89 0 = nI 1 → Q (.inl (some (.long (0)))) σ') : fEv g (d + 5) mX10_now 5 [some (.ref 89), some (.int (nI f)), some (.int b)] [] σ Q := by
  obtain ⟨D, ⟨S, T, sd, pn, P, rn, R⟩, B, tp, pl, im, Im⟩ := x
  have hD : fWD D := ok.1
  have hW : fWS D S := ok.2.1.1
  have hC : fWC D S := ok.2.1.2.1
  have hN : fWN S 0 0 := ok.2.1.2.2.1
  have Mr : fMr σ D S sd := Ir.1
  have Mt : fMt σ S T := Ir.2.1
  obtain ⟨t0, t1, t2, t3, t4, t5, t6⟩ := id hD.1
  have np := hW.n hD
  have n5 := hW.2.2.2.2
  have tp6 : tp ≤ 600 := ok.2.2.2.1
  have im3 : im ≤ 3 := ok.2.2.2.2.1
  have pn3 : pn ≤ 30 := ok.2.1.2.2.2.1
  have rn6 : rn ≤ 60 := ok.2.1.2.2.2.2.2.1
  have Rc : fRc σ (S, T, sd, pn, P, rn, R) := Ir.2.2.2.2.1
  have w52 := hW.1
  have ml := mon_le (b := f) 12 0
  show fEv g (d + 5) mX10_now 5 [some (.ref 89), some (.int (nI f)), some (.int b)] [] σ Q
  refine e_aload_n dX10_now_5 rfl rfl ?_
  refine e_aload_n dX10_now_6 rfl rfl ?_
  refine e_iload_n dX10_now_7 rfl rfl ?_
  refine e_callV (k := 89) [.int (nI f)] dX10_now_8 cc_X10_isFill lk_RX10_221 im_X10_isFill se_X10_isFill (by decide) (Ms.s 89 rfl) (Ms.n (by decide)) rfl (Nat.le_of_ble_eq_true rfl) (Nat.le_of_ble_eq_true rfl) ?_
  refine t_X10_isFillT Ms Mr hD hW hf hv1 hv2 (fK_i ?_)
  show fEv g _ mX10_now 11 [some (.ref 89), some (.int (nI f)), some (.int b)] [.int (nI 1), .ref 89] σ Q
  refine e_if_eq 32 dX10_now_11 (by decide) (fun c => absurd c (by decide)) (fun _ => ?_)
  refine e_iload_n dX10_now_14 rfl rfl ?_
  refine e_callS [.int (nI f)] dX10_now_15 cc_X10_ones lk_RX10_218 st_X10_ones in_RX10 rfl (Nat.le_of_ble_eq_true rfl) (Nat.le_of_ble_eq_true rfl) ?_
  refine t_X10_ones (by omega) (fK_i ?_)
  show fEv g _ mX10_now 18 [some (.ref 89), some (.int (nI f)), some (.int b)] [.int (nI (mon f 12 0)), .ref 89] σ Q
  refine e_bipush (nI 6) dX10_now_18 (by decide) ?_
  refine e_icmp_gt 32 dX10_now_20 (by decide) (fun c => absurd c (fun q => absurd ((nI_lt' (by omega) (by omega)).mp q) (by omega))) (fun _ => ?_)
  refine e_iload_n dX10_now_23 rfl rfl ?_
  refine e_iconst (nI 0) dX10_now_24 (by decide) ?_
  refine e_iconst (nI 1) dX10_now_25 (by decide) ?_
  refine e_callS [.int b, .int (nI 0), .int (nI 1)] dX10_now_26 cc_X10_in lk_RX10_110 st_X10_in in_RX10 rfl (Nat.le_of_ble_eq_true rfl) (Nat.le_of_ble_eq_true rfl) ?_
  refine t_X10_inF hv (fK_i ?_)
  show fEv g _ mX10_now 29 [some (.ref 89), some (.int (nI f)), some (.int b)] [.int (nI 0), .ref 89] σ Q
  refine e_if_ne 36 dX10_now_29 (by decide) (fun c => absurd c (by decide)) (fun _ => ?_)
  refine e_iconst (nI 1) dX10_now_32 (by decide) ?_
  refine e_goto 37 dX10_now_33 (by decide) ?_
  refine e_iconst (nI 1) dX10_now_37 (by decide) ?_
  refine e_callV (k := 89) [.int (nI 1), .int (nI 1)] dX10_now_38 cc_X10_bad lk_RX10_148 im_X10_bad se_X10_bad (by decide) (Ms.s 89 rfl) (Ms.n (by decide)) rfl (Nat.le_of_ble_eq_true rfl) (Nat.le_of_ble_eq_true rfl) ?_
  refine t_X10_bad1 Ms hz (by decide) (fK_i ?_)
  show fEv g _ mX10_now 41 [some (.ref 89), some (.int (nI f)), some (.int b)] [.int (nI 1)] (fsI σ 89 0 (nI 1)) Q
  refine e_if_ne 56 dX10_now_41 (by decide) (fun _ => ?_) (fun c => absurd c (by decide))
  refine e_lconst 0 dX10_now_56 (by decide) ?_
  exact e_lreturn dX10_now_57 rfl (h _ (fSm_I (by unfold fRfA; omega)) (Ir.f0 ok (A := fun a => a = 89) (fSm_I rfl) (fun a (q : a = 89) => Or.inl (by omega)) (fun j hj => by simp only [List.mem_cons, List.not_mem_nil, or_false] at hj; rw [fI_I, if_neg (by omega)])) (by rw [fI_I, if_pos ⟨rfl, rfl⟩]))
set_option maxRecDepth 20000 in
theorem t_X10_nowE4 {g : fGP} {d : Nat} {σ : fAH} {Q : fRes → fAH → Prop} {x : fXS} {f : Nat} {b : Int32}  (Ms : fMs g σ) (ok : fOK x) (Ir : fIr σ x) (hf : f < 4096) (hv1 : nI f &&& (nI (mfa (mal (xD x) (iS (xI x))) 12 (dT (xD x) 1) 0 0) ^^^ (-1)) = 0) (hv2 : mon f 12 0 ≤ dT (xD x) 3) (h6 : mon f 12 0 ≤ 6) (hv : ¬ (nI 0 ≤ b ∧ b ≤ nI 1)) (h : ∀ σ', fSm fRfA σ σ' → fIr σ' x → fI σ' 89 0 = nI 1 → Q (.inl (some (.long (0)))) σ') : fEv g (d + 5) mX10_now 0 (fent [.ref 89, .int (nI f), .int b] 3) [] σ Q := by
  have S9 : fSm (fun a => a = 89) σ (fsI σ 89 0 (nI 0)) := fSm_I rfl
  show fEv g (d + 5) mX10_now 0 [some (.ref 89), some (.int (nI f)), some (.int b)] [] σ Q
  refine e_aload_n dX10_now_0 rfl rfl ?_
  refine e_iconst (nI 0) dX10_now_1 (by decide) ?_
  refine e_putI dX10_now_2 fl_RX10_76 (Ms.s 89 rfl) (Ms.n (by decide)) rfl rfl ?_
  exact lp_X10_nowE4 (Ms.sm S9) ok (Ir.f0 ok S9 (fun a (q : a = 89) => Or.inl (by omega)) (fun j hj => by simp only [List.mem_cons, List.not_mem_nil, or_false] at hj; rw [fI_I, if_neg (by omega)])) (by rw [fI_I, if_pos ⟨rfl, rfl⟩]) hf hv1 hv2 h6 hv (fun σ' Sm' => h σ' ((S9.to (fun a (q : a = 89) => by unfold fRfA; omega)).tr Sm'))
set_option maxRecDepth 20000 in
theorem lp_X10_nowE5 {g : fGP} {d : Nat} {σ : fAH} {Q : fRes → fAH → Prop} {x : fXS} {f w : Nat}  (Ms : fMs g σ) (ok : fOK x) (Ir : fIr σ x) (hz : fI σ 89 0 = nI 0) (hf : f < 4096) (hv1 : nI f &&& (nI (mfa (mal (xD x) (iS (xI x))) 12 (dT (xD x) 1) 0 0) ^^^ (-1)) = 0) (hv2 : mon f 12 0 ≤ dT (xD x) 3) (h6 : mon f 12 0 ≤ 6) (hw : w ≤ 1) (hn : ¬ (iS (xI x)) 155 < 30) (h : ∀ σ', fSm fRfA σ σ' → fIr σ' x → fI σ' 89 0 = nI 2 → Q (.inl (some (.long (0)))) σ') : fEv g (d + 5) mX10_now 5 [some (.ref 89), some (.int (nI f)), some (.int (nI w))] [] σ Q := by
  obtain ⟨D, ⟨S, T, sd, pn, P, rn, R⟩, B, tp, pl, im, Im⟩ := x
  have hD : fWD D := ok.1
  have hW : fWS D S := ok.2.1.1
  have hC : fWC D S := ok.2.1.2.1
  have hN : fWN S 0 0 := ok.2.1.2.2.1
  have Mr : fMr σ D S sd := Ir.1
  have Mt : fMt σ S T := Ir.2.1
  obtain ⟨t0, t1, t2, t3, t4, t5, t6⟩ := id hD.1
  have np := hW.n hD
  have n5 := hW.2.2.2.2
  have tp6 : tp ≤ 600 := ok.2.2.2.1
  have im3 : im ≤ 3 := ok.2.2.2.2.1
  have pn3 : pn ≤ 30 := ok.2.1.2.2.2.1
  have rn6 : rn ≤ 60 := ok.2.1.2.2.2.2.2.1
  have Rc : fRc σ (S, T, sd, pn, P, rn, R) := Ir.2.2.2.2.1
  have w52 := hW.1
  have ml := mon_le (b := f) 12 0
  show fEv g (d + 5) mX10_now 5 [some (.ref 89), some (.int (nI f)), some (.int (nI w))] [] σ Q
  refine e_aload_n dX10_now_5 rfl rfl ?_
  refine e_aload_n dX10_now_6 rfl rfl ?_
  refine e_iload_n dX10_now_7 rfl rfl ?_
  refine e_callV (k := 89) [.int (nI f)] dX10_now_8 cc_X10_isFill lk_RX10_221 im_X10_isFill se_X10_isFill (by decide) (Ms.s 89 rfl) (Ms.n (by decide)) rfl (Nat.le_of_ble_eq_true rfl) (Nat.le_of_ble_eq_true rfl) ?_
  refine t_X10_isFillT Ms Mr hD hW hf hv1 hv2 (fK_i ?_)
  show fEv g _ mX10_now 11 [some (.ref 89), some (.int (nI f)), some (.int (nI w))] [.int (nI 1), .ref 89] σ Q
  refine e_if_eq 32 dX10_now_11 (by decide) (fun c => absurd c (by decide)) (fun _ => ?_)
  refine e_iload_n dX10_now_14 rfl rfl ?_
  refine e_callS [.int (nI f)] dX10_now_15 cc_X10_ones lk_RX10_218 st_X10_ones in_RX10 rfl (Nat.le_of_ble_eq_true rfl) (Nat.le_of_ble_eq_true rfl) ?_
  refine t_X10_ones (by omega) (fK_i ?_)
  show fEv g _ mX10_now 18 [some (.ref 89), some (.int (nI f)), some (.int (nI w))] [.int (nI (mon f 12 0)), .ref 89] σ Q
  refine e_bipush (nI 6) dX10_now_18 (by decide) ?_
  refine e_icmp_gt 32 dX10_now_20 (by decide) (fun c => absurd c (fun q => absurd ((nI_lt' (by omega) (by omega)).mp q) (by omega))) (fun _ => ?_)
  refine e_iload_n dX10_now_23 rfl rfl ?_
  refine e_iconst (nI 0) dX10_now_24 (by decide) ?_
  refine e_iconst (nI 1) dX10_now_25 (by decide) ?_
  refine e_callS [.int (nI w), .int (nI 0), .int (nI 1)] dX10_now_26 cc_X10_in lk_RX10_110 st_X10_in in_RX10 rfl (Nat.le_of_ble_eq_true rfl) (Nat.le_of_ble_eq_true rfl) ?_
  refine t_X10_inT ⟨(nI_le' (by omega) (by omega)).mpr (by omega), (nI_le' (by omega) (by omega)).mpr (by omega)⟩ (fK_i ?_)
  show fEv g _ mX10_now 29 [some (.ref 89), some (.int (nI f)), some (.int (nI w))] [.int (nI 1), .ref 89] σ Q
  refine e_if_ne 36 dX10_now_29 (by decide) (fun _ => ?_) (fun c => absurd c (by decide))
  refine e_iconst (nI 0) dX10_now_36 (by decide) ?_
  refine e_iconst (nI 1) dX10_now_37 (by decide) ?_
  refine e_callV (k := 89) [.int (nI 0), .int (nI 1)] dX10_now_38 cc_X10_bad lk_RX10_148 im_X10_bad se_X10_bad (by decide) (Ms.s 89 rfl) (Ms.n (by decide)) rfl (Nat.le_of_ble_eq_true rfl) (Nat.le_of_ble_eq_true rfl) ?_
  refine t_X10_bad0 Ms hz (by decide) (fK_i ?_)
  show fEv g _ mX10_now 41 [some (.ref 89), some (.int (nI f)), some (.int (nI w))] [.int (nI 0)] σ Q
  refine e_if_ne 56 dX10_now_41 (by decide) (fun c => absurd c (by decide)) (fun _ => ?_)
  refine e_aload_n dX10_now_44 rfl rfl ?_
  refine e_aload_n dX10_now_45 rfl rfl ?_
  refine e_callV (k := 89) [] dX10_now_46 cc_X10_isOver lk_RX10_224 im_X10_isOver se_X10_isOver (by decide) (Ms.s 89 rfl) (Ms.n (by decide)) rfl (Nat.le_of_ble_eq_true rfl) (Nat.le_of_ble_eq_true rfl) ?_
  refine t_X10_isOverT Ms Mr hD hW hn (fK_i ?_)
  show fEv g _ mX10_now 49 [some (.ref 89), some (.int (nI f)), some (.int (nI w))] [.int (nI 1), .ref 89] σ Q
  refine e_iconst (nI 2) dX10_now_49 (by decide) ?_
  refine e_callV (k := 89) [.int (nI 1), .int (nI 2)] dX10_now_50 cc_X10_bad lk_RX10_148 im_X10_bad se_X10_bad (by decide) (Ms.s 89 rfl) (Ms.n (by decide)) rfl (Nat.le_of_ble_eq_true rfl) (Nat.le_of_ble_eq_true rfl) ?_
  refine t_X10_bad1 Ms hz (by decide) (fK_i ?_)
  show fEv g _ mX10_now 53 [some (.ref 89), some (.int (nI f)), some (.int (nI w))] [.int (nI 1)] (fsI σ 89 0 (nI 2)) Q
  refine e_if_eq 58 dX10_now_53 (by decide) (fun c => absurd c (by decide)) (fun _ => ?_)
  refine e_lconst 0 dX10_now_56 (by decide) ?_
  exact e_lreturn dX10_now_57 rfl (h _ (fSm_I (by unfold fRfA; omega)) (Ir.f0 ok (A := fun a => a = 89) (fSm_I rfl) (fun a (q : a = 89) => Or.inl (by omega)) (fun j hj => by simp only [List.mem_cons, List.not_mem_nil, or_false] at hj; rw [fI_I, if_neg (by omega)])) (by rw [fI_I, if_pos ⟨rfl, rfl⟩]))
set_option maxRecDepth 20000 in
theorem t_X10_nowE5 {g : fGP} {d : Nat} {σ : fAH} {Q : fRes → fAH → Prop} {x : fXS} {f w : Nat}  (Ms : fMs g σ) (ok : fOK x) (Ir : fIr σ x) (hf : f < 4096) (hv1 : nI f &&& (nI (mfa (mal (xD x) (iS (xI x))) 12 (dT (xD x) 1) 0 0) ^^^ (-1)) = 0) (hv2 : mon f 12 0 ≤ dT (xD x) 3) (h6 : mon f 12 0 ≤ 6) (hw : w ≤ 1) (hn : ¬ (iS (xI x)) 155 < 30) (h : ∀ σ', fSm fRfA σ σ' → fIr σ' x → fI σ' 89 0 = nI 2 → Q (.inl (some (.long (0)))) σ') : fEv g (d + 5) mX10_now 0 (fent [.ref 89, .int (nI f), .int (nI w)] 3) [] σ Q := by
  have S9 : fSm (fun a => a = 89) σ (fsI σ 89 0 (nI 0)) := fSm_I rfl
  show fEv g (d + 5) mX10_now 0 [some (.ref 89), some (.int (nI f)), some (.int (nI w))] [] σ Q
  refine e_aload_n dX10_now_0 rfl rfl ?_
  refine e_iconst (nI 0) dX10_now_1 (by decide) ?_
  refine e_putI dX10_now_2 fl_RX10_76 (Ms.s 89 rfl) (Ms.n (by decide)) rfl rfl ?_
  exact lp_X10_nowE5 (Ms.sm S9) ok (Ir.f0 ok S9 (fun a (q : a = 89) => Or.inl (by omega)) (fun j hj => by simp only [List.mem_cons, List.not_mem_nil, or_false] at hj; rw [fI_I, if_neg (by omega)])) (by rw [fI_I, if_pos ⟨rfl, rfl⟩]) hf hv1 hv2 h6 hw hn (fun σ' Sm' => h σ' ((S9.to (fun a (q : a = 89) => by unfold fRfA; omega)).tr Sm'))
