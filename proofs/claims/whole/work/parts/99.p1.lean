theorem cl_RL_13 : Cond.classLink RL 13 "java/lang/IllegalArgumentException" ∈ lw_tbl := List.mem_of_getElem? (i := 623) (by decide +kernel)
theorem ca_RL_13 : Cond.castable "java/lang/IllegalArgumentException" "java/lang/IllegalArgumentException" ∈ lw_tbl := List.mem_of_getElem? (i := 630) (by decide +kernel)
theorem cl_RL_22 : Cond.classLink RL 22 "java/util/NoSuchElementException" ∈ lw_tbl := List.mem_of_getElem? (i := 851) (by decide +kernel)
theorem ca_RL_22 : Cond.castable "java/util/NoSuchElementException" "java/util/NoSuchElementException" ∈ lw_tbl := List.mem_of_getElem? (i := 862) (by decide +kernel)
theorem cl_RL_30 : Cond.classLink RL 30 "java/lang/IndexOutOfBoundsException" ∈ lw_tbl := List.mem_of_getElem? (i := 905) (by decide +kernel)
theorem ca_RL_30 : Cond.castable "java/lang/IndexOutOfBoundsException" "java/lang/IndexOutOfBoundsException" ∈ lw_tbl := List.mem_of_getElem? (i := 912) (by decide +kernel)
theorem cl_RL_38 : Cond.classLink RL 38 "java/lang/IllegalStateException" ∈ lw_tbl := List.mem_of_getElem? (i := 936) (by decide +kernel)
theorem ca_RL_38 : Cond.castable "java/lang/IllegalStateException" "java/lang/IllegalStateException" ∈ lw_tbl := List.mem_of_getElem? (i := 959) (by decide +kernel)
set_option maxRecDepth 20000 in
theorem t_L_quarry {g : fGP} {d : Nat} {σ : fAH} {Q : fRes → fAH → Prop} {x : fXS} {n : Nat} (Ms : fMs g σ) (ok : fOK x) (Ic : fIc σ x) (hn : n ≤ xt x) (okx : fOK (xQ n x)) (h : ∀ σ', fSm fClB σ σ' → fIc σ' (xQ n x) → fJ σ' 300 0 = ((xQv n x : Int32)).toInt64 → Q (.inl (some (.int (nI 0)))) σ') : fEv g (d + 9) mL_quarry 0 (fent [.ref 0, .int (nI n), .ref 300] 4) [] σ Q := by
  show fEv g (d + 9) mL_quarry 0 [some (.ref 0), some (.int (nI n)), some (.ref 300), none] [] σ Q
  refine e_aload_n dL_quarry_0 rfl rfl ?_
  refine e_iconst (nI 0) dL_quarry_1 (by decide) ?_
  refine e_aload_n dL_quarry_2 rfl rfl ?_
  refine e_iload_n dL_quarry_3 rfl rfl ?_
  refine e_callV (k := 0) [.int (nI n)] dL_quarry_4 cc_X9_quarry lk_RL_7 im_X9_quarry se_X9_quarry (by decide) (Ms.s 0 rfl) (Ms.n (by decide)) rfl (Nat.le_of_ble_eq_true rfl) (Nat.le_of_ble_eq_true rfl) ?_
  refine t_X9_quarry Ms ok Ic hn (fun σ1 Sm1 Ic1 => fK_i ?_)
  have Ms1 := Ms.sm Sm1
  show fEv g _ mL_quarry 7 [some (.ref 0), some (.int (nI n)), some (.ref 300), none] [.int (xQv n x), .int (nI 0), .ref 300] σ1 Q
  refine e_i2l dL_quarry_7 ?_
  refine e_lastore 0 dL_quarry_8 (Ms1.s 300 rfl) (Ms1.n (by decide)) rfl (by omega) (by decide) ?_
  refine e_goto 15 dL_quarry_9 (by decide) ?_
  refine e_iconst (nI 0) dL_quarry_15 (by decide) ?_
  exact e_ireturn .int dL_quarry_16 rfl rfl (h _ ((Sm1.to (fun a (q : a < 89) => Or.inl q)).tr (fSm_J (A := fClB) (Or.inr rfl))) (Ic1.out okx) (by rw [fJ_J, if_pos ⟨rfl, rfl⟩]))
set_option maxRecDepth 20000 in
theorem t_L_quarryE {g : fGP} {d : Nat} {σ : fAH} {Q : fRes → fAH → Prop} {x : fXS} {a : Int32} (Ms : fMs g σ) (ok : fOK x) (Ic : fIc σ x) (hv : ¬ (nI 0 ≤ a ∧ a ≤ nI (xt x))) (rm : fnx σ + fgb σ + 1 ≤ 601024 ∧ fsu σ + 6 ≤ 7293034) (h : Q (.inl (some (.int (nI 1)))) (fthr σ)) : fEv g (d + 1) mL_quarry 0 (fent [.ref 0, .int a, .ref 300] 4) [] σ Q := by
  show fEv g (d + 1) mL_quarry 0 [some (.ref 0), some (.int a), some (.ref 300), none] [] σ Q
  refine e_aload_n dL_quarry_0 rfl rfl ?_
  refine e_iconst (nI 0) dL_quarry_1 (by decide) ?_
  refine e_aload_n dL_quarry_2 rfl rfl ?_
  refine e_iload_n dL_quarry_3 rfl rfl ?_
  refine e_callV (k := 0) [.int a] dL_quarry_4 cc_X9_quarry lk_RL_7 im_X9_quarry se_X9_quarry (by decide) (Ms.s 0 rfl) (Ms.n (by decide)) rfl (Nat.le_of_ble_eq_true rfl) (Nat.le_of_ble_eq_true rfl) ?_
  refine t_X9_quarryE Ms ok Ic hv rm ?_
  refine t_catch (k := 3) (len := 1) (nm := "") [] (0, 9, 12, 13) [] rfl (fun z hz => absurd hz (List.not_mem_nil)) ⟨by decide, by decide⟩ (by decide) cl_RL_13 ca_RL_13 (by decide) (Or.inl ⟨3, rfl, dL_quarry_12, rfl⟩) rfl ?_
  show fEv g _ mL_quarry 13 [some (.ref 0), some (.int a), some (.ref 300), none] [] (fthr σ) Q
  refine e_iconst (nI 1) dL_quarry_13 (by decide) ?_
  exact e_ireturn .int dL_quarry_14 rfl rfl h
set_option maxRecDepth 20000 in
theorem t_L_told {g : fGP} {d : Nat} {σ : fAH} {Q : fRes → fAH → Prop} {x : fXS} {w : Nat} (Ms : fMs g σ) (ok : fOK x) (Ic : fIc σ x) (hw : w < 8) (h : ∀ σ', fSm fClB σ σ' → fIc σ' x → fJ σ' 300 0 = ((vTold (xD x) (iS (xI x)) w : Int32)).toInt64 → Q (.inl (some (.int (nI 0)))) σ') : fEv g (d + 1) mL_told 0 (fent [.ref 0, .int (nI w), .ref 300] 4) [] σ Q := by
  show fEv g (d + 1) mL_told 0 [some (.ref 0), some (.int (nI w)), some (.ref 300), none] [] σ Q
  refine e_aload_n dL_told_0 rfl rfl ?_
  refine e_iconst (nI 0) dL_told_1 (by decide) ?_
  refine e_aload_n dL_told_2 rfl rfl ?_
  refine e_iload_n dL_told_3 rfl rfl ?_
  refine e_callV (k := 0) [.int (nI w)] dL_told_4 cc_X9_told lk_RL_15 im_X9_told se_X9_told (by decide) (Ms.s 0 rfl) (Ms.n (by decide)) rfl (Nat.le_of_ble_eq_true rfl) (Nat.le_of_ble_eq_true rfl) ?_
  refine t_X9_told Ms ok Ic hw (fK_i ?_)
  show fEv g _ mL_told 7 [some (.ref 0), some (.int (nI w)), some (.ref 300), none] [.int (vTold (xD x) (iS (xI x)) w), .int (nI 0), .ref 300] σ Q
  refine e_i2l dL_told_7 ?_
  refine e_lastore 0 dL_told_8 (Ms.s 300 rfl) (Ms.n (by decide)) rfl (by omega) (by decide) ?_
  refine e_goto 15 dL_told_9 (by decide) ?_
  refine e_iconst (nI 0) dL_told_15 (by decide) ?_
  exact e_ireturn .int dL_told_16 rfl rfl (h _ ((fSm_J (A := fClB) (Or.inr rfl))) (Ic.out ok) (by rw [fJ_J, if_pos ⟨rfl, rfl⟩]))
set_option maxRecDepth 20000 in
theorem t_L_toldE {g : fGP} {d : Nat} {σ : fAH} {Q : fRes → fAH → Prop} {x : fXS} {a : Int32} (Ms : fMs g σ) (ok : fOK x) (Ic : fIc σ x) (hv : ¬ (nI 0 ≤ a ∧ a ≤ nI 7)) (rm : fnx σ + fgb σ + 1 ≤ 601024 ∧ fsu σ + 6 ≤ 7293034) (h : Q (.inl (some (.int (nI 1)))) (fthr σ)) : fEv g (d + 1) mL_told 0 (fent [.ref 0, .int a, .ref 300] 4) [] σ Q := by
  show fEv g (d + 1) mL_told 0 [some (.ref 0), some (.int a), some (.ref 300), none] [] σ Q
  refine e_aload_n dL_told_0 rfl rfl ?_
  refine e_iconst (nI 0) dL_told_1 (by decide) ?_
  refine e_aload_n dL_told_2 rfl rfl ?_
  refine e_iload_n dL_told_3 rfl rfl ?_
  refine e_callV (k := 0) [.int a] dL_told_4 cc_X9_told lk_RL_15 im_X9_told se_X9_told (by decide) (Ms.s 0 rfl) (Ms.n (by decide)) rfl (Nat.le_of_ble_eq_true rfl) (Nat.le_of_ble_eq_true rfl) ?_
  refine t_X9_toldE Ms ok Ic hv rm ?_
  refine t_catch (k := 3) (len := 1) (nm := "") [] (0, 9, 12, 13) [] rfl (fun z hz => absurd hz (List.not_mem_nil)) ⟨by decide, by decide⟩ (by decide) cl_RL_13 ca_RL_13 (by decide) (Or.inl ⟨3, rfl, dL_told_12, rfl⟩) rfl ?_
  show fEv g _ mL_told 13 [some (.ref 0), some (.int a), some (.ref 300), none] [] (fthr σ) Q
  refine e_iconst (nI 1) dL_told_13 (by decide) ?_
  exact e_ireturn .int dL_told_14 rfl rfl h
set_option maxRecDepth 20000 in
theorem t_L_slot {g : fGP} {d : Nat} {σ : fAH} {Q : fRes → fAH → Prop} {x : fXS} {k w : Nat} (Ms : fMs g σ) (ok : fOK x) (Ic : fIc σ x) (hk : k < dT (xD x) 1) (hw : w < 8) (h : ∀ σ', fSm fClB σ σ' → fIc σ' x → fJ σ' 300 0 = ((vSlot (xD x) (iS (xI x)) k w : Int32)).toInt64 → Q (.inl (some (.int (nI 0)))) σ') : fEv g (d + 4) mL_slot 0 (fent [.ref 0, .int (nI k), .int (nI w), .ref 300] 5) [] σ Q := by
  show fEv g (d + 4) mL_slot 0 [some (.ref 0), some (.int (nI k)), some (.int (nI w)), some (.ref 300), none] [] σ Q
  refine e_aload_n dL_slot_0 rfl rfl ?_
  refine e_iconst (nI 0) dL_slot_1 (by decide) ?_
  refine e_aload_n dL_slot_2 rfl rfl ?_
  refine e_iload_n dL_slot_3 rfl rfl ?_
  refine e_iload_n dL_slot_4 rfl rfl ?_
  refine e_callV (k := 0) [.int (nI k), .int (nI w)] dL_slot_5 cc_X9_slot lk_RL_18 im_X9_slot se_X9_slot (by decide) (Ms.s 0 rfl) (Ms.n (by decide)) rfl (Nat.le_of_ble_eq_true rfl) (Nat.le_of_ble_eq_true rfl) ?_
  refine t_X9_slot Ms ok Ic hk hw (fK_i ?_)
  show fEv g _ mL_slot 8 [some (.ref 0), some (.int (nI k)), some (.int (nI w)), some (.ref 300), none] [.int (vSlot (xD x) (iS (xI x)) k w), .int (nI 0), .ref 300] σ Q
  refine e_i2l dL_slot_8 ?_
  refine e_lastore 0 dL_slot_9 (Ms.s 300 rfl) (Ms.n (by decide)) rfl (by omega) (by decide) ?_
  refine e_goto 21 dL_slot_10 (by decide) ?_
  refine e_iconst (nI 0) dL_slot_21 (by decide) ?_
  exact e_ireturn .int dL_slot_22 rfl rfl (h _ ((fSm_J (A := fClB) (Or.inr rfl))) (Ic.out ok) (by rw [fJ_J, if_pos ⟨rfl, rfl⟩]))
set_option maxRecDepth 20000 in
theorem t_L_slotE1 {g : fGP} {d : Nat} {σ : fAH} {Q : fRes → fAH → Prop} {x : fXS} {a b : Int32} (Ms : fMs g σ) (ok : fOK x) (Ic : fIc σ x) (hv : ¬ (nI 0 ≤ a ∧ a < nI (dT (xD x) 1))) (rm : fnx σ + fgb σ + 1 ≤ 601024 ∧ fsu σ + 6 ≤ 7293034) (h : Q (.inl (some (.int (nI 1)))) (fthr σ)) : fEv g (d + 2) mL_slot 0 (fent [.ref 0, .int a, .int b, .ref 300] 5) [] σ Q := by
  show fEv g (d + 2) mL_slot 0 [some (.ref 0), some (.int a), some (.int b), some (.ref 300), none] [] σ Q
  refine e_aload_n dL_slot_0 rfl rfl ?_
  refine e_iconst (nI 0) dL_slot_1 (by decide) ?_
  refine e_aload_n dL_slot_2 rfl rfl ?_
  refine e_iload_n dL_slot_3 rfl rfl ?_
  refine e_iload_n dL_slot_4 rfl rfl ?_
  refine e_callV (k := 0) [.int a, .int b] dL_slot_5 cc_X9_slot lk_RL_18 im_X9_slot se_X9_slot (by decide) (Ms.s 0 rfl) (Ms.n (by decide)) rfl (Nat.le_of_ble_eq_true rfl) (Nat.le_of_ble_eq_true rfl) ?_
  refine t_X9_slotE1 Ms ok Ic hv rm ?_
  refine t_catch (k := 4) (len := 2) (nm := "") [] (0, 10, 13, 22) [(0, 10, 17, 13)] rfl (fun z hz => absurd hz (List.not_mem_nil)) ⟨by decide, by decide⟩ (by decide) cl_RL_22 ca_RL_22 (by decide) (Or.inr ⟨dL_slot_13, rfl⟩) rfl ?_
  show fEv g _ mL_slot 15 [some (.ref 0), some (.int a), some (.int b), some (.ref 300), none] [] (fthr σ) Q
  refine e_iconst (nI 1) dL_slot_15 (by decide) ?_
  exact e_ireturn .int dL_slot_16 rfl rfl h
set_option maxRecDepth 20000 in
theorem t_L_slotE2 {g : fGP} {d : Nat} {σ : fAH} {Q : fRes → fAH → Prop} {x : fXS} {k : Nat} {b : Int32} (Ms : fMs g σ) (ok : fOK x) (Ic : fIc σ x) (hk : k < dT (xD x) 1) (hv : ¬ (nI 0 ≤ b ∧ b ≤ nI 7)) (rm : fnx σ + fgb σ + 1 ≤ 601024 ∧ fsu σ + 6 ≤ 7293034) (h : Q (.inl (some (.int (nI 2)))) (fthr σ)) : fEv g (d + 2) mL_slot 0 (fent [.ref 0, .int (nI k), .int b, .ref 300] 5) [] σ Q := by
  show fEv g (d + 2) mL_slot 0 [some (.ref 0), some (.int (nI k)), some (.int b), some (.ref 300), none] [] σ Q
  refine e_aload_n dL_slot_0 rfl rfl ?_
  refine e_iconst (nI 0) dL_slot_1 (by decide) ?_
  refine e_aload_n dL_slot_2 rfl rfl ?_
  refine e_iload_n dL_slot_3 rfl rfl ?_
  refine e_iload_n dL_slot_4 rfl rfl ?_
  refine e_callV (k := 0) [.int (nI k), .int b] dL_slot_5 cc_X9_slot lk_RL_18 im_X9_slot se_X9_slot (by decide) (Ms.s 0 rfl) (Ms.n (by decide)) rfl (Nat.le_of_ble_eq_true rfl) (Nat.le_of_ble_eq_true rfl) ?_
  refine t_X9_slotE2 Ms ok Ic hk hv rm ?_
  refine t_catch (k := 4) (len := 2) (nm := "") [(0, 10, 13, 22)] (0, 10, 17, 13) [] rfl (fun z hz => by rw [List.mem_singleton] at hz; subst hz; exact ⟨"java/util/NoSuchElementException", by decide, cl_RL_22, List.mem_of_getElem? (i := 0) rfl⟩) ⟨by decide, by decide⟩ (by decide) cl_RL_13 ca_RL_13 (by decide) (Or.inr ⟨dL_slot_17, rfl⟩) rfl ?_
  show fEv g _ mL_slot 19 [some (.ref 0), some (.int (nI k)), some (.int b), some (.ref 300), none] [] (fthr σ) Q
  refine e_iconst (nI 2) dL_slot_19 (by decide) ?_
  exact e_ireturn .int dL_slot_20 rfl rfl h
set_option maxRecDepth 20000 in
theorem t_L_order {g : fGP} {d : Nat} {σ : fAH} {Q : fRes → fAH → Prop} {x : fXS} {k w : Nat} (Ms : fMs g σ) (ok : fOK x) (Ic : fIc σ x) (hk : k < dT (xD x) 2) (hw : w < 6) (h : ∀ σ', fSm fClB σ σ' → fIc σ' x → fJ σ' 300 0 = ((vOrd (xD x) (iS (xI x)) k w : Int32)).toInt64 → Q (.inl (some (.int (nI 0)))) σ') : fEv g (d + 2) mL_order 0 (fent [.ref 0, .int (nI k), .int (nI w), .ref 300] 5) [] σ Q := by
  show fEv g (d + 2) mL_order 0 [some (.ref 0), some (.int (nI k)), some (.int (nI w)), some (.ref 300), none] [] σ Q
  refine e_aload_n dL_order_0 rfl rfl ?_
  refine e_iconst (nI 0) dL_order_1 (by decide) ?_
  refine e_aload_n dL_order_2 rfl rfl ?_
  refine e_iload_n dL_order_3 rfl rfl ?_
  refine e_iload_n dL_order_4 rfl rfl ?_
  refine e_callV (k := 0) [.int (nI k), .int (nI w)] dL_order_5 cc_X9_order lk_RL_24 im_X9_order se_X9_order (by decide) (Ms.s 0 rfl) (Ms.n (by decide)) rfl (Nat.le_of_ble_eq_true rfl) (Nat.le_of_ble_eq_true rfl) ?_
  refine t_X9_order Ms ok Ic hk hw (fK_i ?_)
  show fEv g _ mL_order 8 [some (.ref 0), some (.int (nI k)), some (.int (nI w)), some (.ref 300), none] [.int (vOrd (xD x) (iS (xI x)) k w), .int (nI 0), .ref 300] σ Q
  refine e_i2l dL_order_8 ?_
  refine e_lastore 0 dL_order_9 (Ms.s 300 rfl) (Ms.n (by decide)) rfl (by omega) (by decide) ?_
  refine e_goto 21 dL_order_10 (by decide) ?_
  refine e_iconst (nI 0) dL_order_21 (by decide) ?_
  exact e_ireturn .int dL_order_22 rfl rfl (h _ ((fSm_J (A := fClB) (Or.inr rfl))) (Ic.out ok) (by rw [fJ_J, if_pos ⟨rfl, rfl⟩]))
set_option maxRecDepth 20000 in
theorem t_L_orderE1 {g : fGP} {d : Nat} {σ : fAH} {Q : fRes → fAH → Prop} {x : fXS} {a b : Int32} (Ms : fMs g σ) (ok : fOK x) (Ic : fIc σ x) (hv : ¬ (nI 0 ≤ a ∧ a < nI (dT (xD x) 2))) (rm : fnx σ + fgb σ + 1 ≤ 601024 ∧ fsu σ + 6 ≤ 7293034) (h : Q (.inl (some (.int (nI 1)))) (fthr σ)) : fEv g (d + 2) mL_order 0 (fent [.ref 0, .int a, .int b, .ref 300] 5) [] σ Q := by
  show fEv g (d + 2) mL_order 0 [some (.ref 0), some (.int a), some (.int b), some (.ref 300), none] [] σ Q
  refine e_aload_n dL_order_0 rfl rfl ?_
  refine e_iconst (nI 0) dL_order_1 (by decide) ?_
  refine e_aload_n dL_order_2 rfl rfl ?_
  refine e_iload_n dL_order_3 rfl rfl ?_
  refine e_iload_n dL_order_4 rfl rfl ?_
  refine e_callV (k := 0) [.int a, .int b] dL_order_5 cc_X9_order lk_RL_24 im_X9_order se_X9_order (by decide) (Ms.s 0 rfl) (Ms.n (by decide)) rfl (Nat.le_of_ble_eq_true rfl) (Nat.le_of_ble_eq_true rfl) ?_
  refine t_X9_orderE1 Ms ok Ic hv rm ?_
  refine t_catch (k := 4) (len := 2) (nm := "") [] (0, 10, 13, 22) [(0, 10, 17, 13)] rfl (fun z hz => absurd hz (List.not_mem_nil)) ⟨by decide, by decide⟩ (by decide) cl_RL_22 ca_RL_22 (by decide) (Or.inr ⟨dL_order_13, rfl⟩) rfl ?_
  show fEv g _ mL_order 15 [some (.ref 0), some (.int a), some (.int b), some (.ref 300), none] [] (fthr σ) Q
  refine e_iconst (nI 1) dL_order_15 (by decide) ?_
  exact e_ireturn .int dL_order_16 rfl rfl h
set_option maxRecDepth 20000 in
theorem t_L_orderE2 {g : fGP} {d : Nat} {σ : fAH} {Q : fRes → fAH → Prop} {x : fXS} {k : Nat} {b : Int32} (Ms : fMs g σ) (ok : fOK x) (Ic : fIc σ x) (hk : k < dT (xD x) 2) (hv : ¬ (nI 0 ≤ b ∧ b ≤ nI 5)) (rm : fnx σ + fgb σ + 1 ≤ 601024 ∧ fsu σ + 6 ≤ 7293034) (h : Q (.inl (some (.int (nI 2)))) (fthr σ)) : fEv g (d + 2) mL_order 0 (fent [.ref 0, .int (nI k), .int b, .ref 300] 5) [] σ Q := by
  show fEv g (d + 2) mL_order 0 [some (.ref 0), some (.int (nI k)), some (.int b), some (.ref 300), none] [] σ Q
  refine e_aload_n dL_order_0 rfl rfl ?_
  refine e_iconst (nI 0) dL_order_1 (by decide) ?_
  refine e_aload_n dL_order_2 rfl rfl ?_
  refine e_iload_n dL_order_3 rfl rfl ?_
  refine e_iload_n dL_order_4 rfl rfl ?_
  refine e_callV (k := 0) [.int (nI k), .int b] dL_order_5 cc_X9_order lk_RL_24 im_X9_order se_X9_order (by decide) (Ms.s 0 rfl) (Ms.n (by decide)) rfl (Nat.le_of_ble_eq_true rfl) (Nat.le_of_ble_eq_true rfl) ?_
  refine t_X9_orderE2 Ms ok Ic hk hv rm ?_
  refine t_catch (k := 4) (len := 2) (nm := "") [(0, 10, 13, 22)] (0, 10, 17, 13) [] rfl (fun z hz => by rw [List.mem_singleton] at hz; subst hz; exact ⟨"java/util/NoSuchElementException", by decide, cl_RL_22, List.mem_of_getElem? (i := 0) rfl⟩) ⟨by decide, by decide⟩ (by decide) cl_RL_13 ca_RL_13 (by decide) (Or.inr ⟨dL_order_17, rfl⟩) rfl ?_
  show fEv g _ mL_order 19 [some (.ref 0), some (.int (nI k)), some (.int b), some (.ref 300), none] [] (fthr σ) Q
  refine e_iconst (nI 2) dL_order_19 (by decide) ?_
  exact e_ireturn .int dL_order_20 rfl rfl h
set_option maxRecDepth 20000 in
theorem t_L_piece {g : fGP} {d : Nat} {σ : fAH} {Q : fRes → fAH → Prop} {x : fXS} {k w : Nat} (Ms : fMs g σ) (ok : fOK x) (Ic : fIc σ x) (hk : k < (iS (xI x)) 120) (hw : w < 6) (h : ∀ σ', fSm fClB σ σ' → fIc σ' x → fJ σ' 300 0 = ((nI ((iS (xI x)) (k * 6 + w)) : Int32)).toInt64 → Q (.inl (some (.int (nI 0)))) σ') : fEv g (d + 2) mL_piece 0 (fent [.ref 0, .int (nI k), .int (nI w), .ref 300] 5) [] σ Q := by
  show fEv g (d + 2) mL_piece 0 [some (.ref 0), some (.int (nI k)), some (.int (nI w)), some (.ref 300), none] [] σ Q
  refine e_aload_n dL_piece_0 rfl rfl ?_
  refine e_iconst (nI 0) dL_piece_1 (by decide) ?_
  refine e_aload_n dL_piece_2 rfl rfl ?_
  refine e_iload_n dL_piece_3 rfl rfl ?_
  refine e_iload_n dL_piece_4 rfl rfl ?_
  refine e_callV (k := 0) [.int (nI k), .int (nI w)] dL_piece_5 cc_X9_piece lk_RL_27 im_X9_piece se_X9_piece (by decide) (Ms.s 0 rfl) (Ms.n (by decide)) rfl (Nat.le_of_ble_eq_true rfl) (Nat.le_of_ble_eq_true rfl) ?_
  refine t_X9_piece Ms ok Ic hk hw (fK_i ?_)
  show fEv g _ mL_piece 8 [some (.ref 0), some (.int (nI k)), some (.int (nI w)), some (.ref 300), none] [.int (nI ((iS (xI x)) (k * 6 + w))), .int (nI 0), .ref 300] σ Q
  refine e_i2l dL_piece_8 ?_
  refine e_lastore 0 dL_piece_9 (Ms.s 300 rfl) (Ms.n (by decide)) rfl (by omega) (by decide) ?_
  refine e_goto 21 dL_piece_10 (by decide) ?_
  refine e_iconst (nI 0) dL_piece_21 (by decide) ?_
  exact e_ireturn .int dL_piece_22 rfl rfl (h _ ((fSm_J (A := fClB) (Or.inr rfl))) (Ic.out ok) (by rw [fJ_J, if_pos ⟨rfl, rfl⟩]))
set_option maxRecDepth 20000 in
theorem t_L_pieceE1 {g : fGP} {d : Nat} {σ : fAH} {Q : fRes → fAH → Prop} {x : fXS} {a b : Int32} (Ms : fMs g σ) (ok : fOK x) (Ic : fIc σ x) (hv : ¬ (nI 0 ≤ a ∧ a < nI ((iS (xI x)) 120))) (rm : fnx σ + fgb σ + 1 ≤ 601024 ∧ fsu σ + 6 ≤ 7293034) (h : Q (.inl (some (.int (nI 1)))) (fthr σ)) : fEv g (d + 2) mL_piece 0 (fent [.ref 0, .int a, .int b, .ref 300] 5) [] σ Q := by
  show fEv g (d + 2) mL_piece 0 [some (.ref 0), some (.int a), some (.int b), some (.ref 300), none] [] σ Q
  refine e_aload_n dL_piece_0 rfl rfl ?_
  refine e_iconst (nI 0) dL_piece_1 (by decide) ?_
  refine e_aload_n dL_piece_2 rfl rfl ?_
  refine e_iload_n dL_piece_3 rfl rfl ?_
  refine e_iload_n dL_piece_4 rfl rfl ?_
  refine e_callV (k := 0) [.int a, .int b] dL_piece_5 cc_X9_piece lk_RL_27 im_X9_piece se_X9_piece (by decide) (Ms.s 0 rfl) (Ms.n (by decide)) rfl (Nat.le_of_ble_eq_true rfl) (Nat.le_of_ble_eq_true rfl) ?_
  refine t_X9_pieceE1 Ms ok Ic hv rm ?_
  refine t_catch (k := 4) (len := 2) (nm := "") [] (0, 10, 13, 30) [(0, 10, 17, 13)] rfl (fun z hz => absurd hz (List.not_mem_nil)) ⟨by decide, by decide⟩ (by decide) cl_RL_30 ca_RL_30 (by decide) (Or.inr ⟨dL_piece_13, rfl⟩) rfl ?_
  show fEv g _ mL_piece 15 [some (.ref 0), some (.int a), some (.int b), some (.ref 300), none] [] (fthr σ) Q
  refine e_iconst (nI 1) dL_piece_15 (by decide) ?_
  exact e_ireturn .int dL_piece_16 rfl rfl h
set_option maxRecDepth 20000 in
theorem t_L_pieceE2 {g : fGP} {d : Nat} {σ : fAH} {Q : fRes → fAH → Prop} {x : fXS} {k : Nat} {b : Int32} (Ms : fMs g σ) (ok : fOK x) (Ic : fIc σ x) (hk : k < (iS (xI x)) 120) (hv : ¬ (nI 0 ≤ b ∧ b ≤ nI 5)) (rm : fnx σ + fgb σ + 1 ≤ 601024 ∧ fsu σ + 6 ≤ 7293034) (h : Q (.inl (some (.int (nI 2)))) (fthr σ)) : fEv g (d + 2) mL_piece 0 (fent [.ref 0, .int (nI k), .int b, .ref 300] 5) [] σ Q := by
  show fEv g (d + 2) mL_piece 0 [some (.ref 0), some (.int (nI k)), some (.int b), some (.ref 300), none] [] σ Q
  refine e_aload_n dL_piece_0 rfl rfl ?_
  refine e_iconst (nI 0) dL_piece_1 (by decide) ?_
  refine e_aload_n dL_piece_2 rfl rfl ?_
  refine e_iload_n dL_piece_3 rfl rfl ?_
  refine e_iload_n dL_piece_4 rfl rfl ?_
  refine e_callV (k := 0) [.int (nI k), .int b] dL_piece_5 cc_X9_piece lk_RL_27 im_X9_piece se_X9_piece (by decide) (Ms.s 0 rfl) (Ms.n (by decide)) rfl (Nat.le_of_ble_eq_true rfl) (Nat.le_of_ble_eq_true rfl) ?_
  refine t_X9_pieceE2 Ms ok Ic hk hv rm ?_
  refine t_catch (k := 4) (len := 2) (nm := "") [(0, 10, 13, 30)] (0, 10, 17, 13) [] rfl (fun z hz => by rw [List.mem_singleton] at hz; subst hz; exact ⟨"java/lang/IndexOutOfBoundsException", by decide, cl_RL_30, List.mem_of_getElem? (i := 1) rfl⟩) ⟨by decide, by decide⟩ (by decide) cl_RL_13 ca_RL_13 (by decide) (Or.inr ⟨dL_piece_17, rfl⟩) rfl ?_
  show fEv g _ mL_piece 19 [some (.ref 0), some (.int (nI k)), some (.int b), some (.ref 300), none] [] (fthr σ) Q
  refine e_iconst (nI 2) dL_piece_19 (by decide) ?_
  exact e_ireturn .int dL_piece_20 rfl rfl h
set_option maxRecDepth 20000 in
theorem t_L_odds {g : fGP} {d : Nat} {σ : fAH} {Q : fRes → fAH → Prop} {x : fXS} {t k : Nat} (Ms : fMs g σ) (ok : fOK x) (Ic : fIc σ x) (ht : t < 30) (hk : 1 ≤ k ∧ k ≤ 9) (h : ∀ σ', fSm fClB σ σ' → fIc σ' x → fJ σ' 300 0 = ((nI (moc (xD x) t (10 - k) k 0) : Int32)).toInt64 → Q (.inl (some (.int (nI 0)))) σ') : fEv g (d + 2) mL_odds 0 (fent [.ref 0, .int (nI t), .int (nI k), .ref 300] 5) [] σ Q := by
  show fEv g (d + 2) mL_odds 0 [some (.ref 0), some (.int (nI t)), some (.int (nI k)), some (.ref 300), none] [] σ Q
  refine e_aload_n dL_odds_0 rfl rfl ?_
  refine e_iconst (nI 0) dL_odds_1 (by decide) ?_
  refine e_aload_n dL_odds_2 rfl rfl ?_
  refine e_iload_n dL_odds_3 rfl rfl ?_
  refine e_iload_n dL_odds_4 rfl rfl ?_
  refine e_callV (k := 0) [.int (nI t), .int (nI k)] dL_odds_5 cc_X9_odds lk_RL_32 im_X9_odds se_X9_odds (by decide) (Ms.s 0 rfl) (Ms.n (by decide)) rfl (Nat.le_of_ble_eq_true rfl) (Nat.le_of_ble_eq_true rfl) ?_
  refine t_X9_odds Ms ok Ic ht hk (fK_i ?_)
  show fEv g _ mL_odds 8 [some (.ref 0), some (.int (nI t)), some (.int (nI k)), some (.ref 300), none] [.int (nI (moc (xD x) t (10 - k) k 0)), .int (nI 0), .ref 300] σ Q
  refine e_i2l dL_odds_8 ?_
  refine e_lastore 0 dL_odds_9 (Ms.s 300 rfl) (Ms.n (by decide)) rfl (by omega) (by decide) ?_
  refine e_goto 17 dL_odds_10 (by decide) ?_
  refine e_iconst (nI 0) dL_odds_17 (by decide) ?_
  exact e_ireturn .int dL_odds_18 rfl rfl (h _ ((fSm_J (A := fClB) (Or.inr rfl))) (Ic.out ok) (by rw [fJ_J, if_pos ⟨rfl, rfl⟩]))
set_option maxRecDepth 20000 in
theorem t_L_oddsE1 {g : fGP} {d : Nat} {σ : fAH} {Q : fRes → fAH → Prop} {x : fXS} {a b : Int32} (Ms : fMs g σ) (ok : fOK x) (Ic : fIc σ x) (hv : ¬ (nI 0 ≤ a ∧ a ≤ nI 29)) (rm : fnx σ + fgb σ + 1 ≤ 601024 ∧ fsu σ + 6 ≤ 7293034) (h : Q (.inl (some (.int (nI 1)))) (fthr σ)) : fEv g (d + 2) mL_odds 0 (fent [.ref 0, .int a, .int b, .ref 300] 5) [] σ Q := by
  show fEv g (d + 2) mL_odds 0 [some (.ref 0), some (.int a), some (.int b), some (.ref 300), none] [] σ Q
  refine e_aload_n dL_odds_0 rfl rfl ?_
  refine e_iconst (nI 0) dL_odds_1 (by decide) ?_
  refine e_aload_n dL_odds_2 rfl rfl ?_
  refine e_iload_n dL_odds_3 rfl rfl ?_
  refine e_iload_n dL_odds_4 rfl rfl ?_
  refine e_callV (k := 0) [.int a, .int b] dL_odds_5 cc_X9_odds lk_RL_32 im_X9_odds se_X9_odds (by decide) (Ms.s 0 rfl) (Ms.n (by decide)) rfl (Nat.le_of_ble_eq_true rfl) (Nat.le_of_ble_eq_true rfl) ?_
  refine t_X9_oddsE1 Ms ok Ic hv rm ?_
  refine t_catch (k := 4) (len := 2) (nm := "") [] (0, 10, 13, 13) [] rfl (fun z hz => absurd hz (List.not_mem_nil)) ⟨by decide, by decide⟩ (by decide) cl_RL_13 ca_RL_13 (by decide) (Or.inr ⟨dL_odds_13, rfl⟩) rfl ?_
  show fEv g _ mL_odds 15 [some (.ref 0), some (.int a), some (.int b), some (.ref 300), none] [] (fthr σ) Q
  refine e_iconst (nI 1) dL_odds_15 (by decide) ?_
  exact e_ireturn .int dL_odds_16 rfl rfl h
set_option maxRecDepth 20000 in
theorem t_L_oddsE2 {g : fGP} {d : Nat} {σ : fAH} {Q : fRes → fAH → Prop} {x : fXS} {t : Nat} {b : Int32} (Ms : fMs g σ) (ok : fOK x) (Ic : fIc σ x) (ht : t < 30) (hv : ¬ (nI 1 ≤ b ∧ b ≤ nI 9)) (rm : fnx σ + fgb σ + 1 ≤ 601024 ∧ fsu σ + 6 ≤ 7293034) (h : Q (.inl (some (.int (nI 1)))) (fthr σ)) : fEv g (d + 2) mL_odds 0 (fent [.ref 0, .int (nI t), .int b, .ref 300] 5) [] σ Q := by
  show fEv g (d + 2) mL_odds 0 [some (.ref 0), some (.int (nI t)), some (.int b), some (.ref 300), none] [] σ Q
  refine e_aload_n dL_odds_0 rfl rfl ?_
  refine e_iconst (nI 0) dL_odds_1 (by decide) ?_
  refine e_aload_n dL_odds_2 rfl rfl ?_
  refine e_iload_n dL_odds_3 rfl rfl ?_
  refine e_iload_n dL_odds_4 rfl rfl ?_
  refine e_callV (k := 0) [.int (nI t), .int b] dL_odds_5 cc_X9_odds lk_RL_32 im_X9_odds se_X9_odds (by decide) (Ms.s 0 rfl) (Ms.n (by decide)) rfl (Nat.le_of_ble_eq_true rfl) (Nat.le_of_ble_eq_true rfl) ?_
  refine t_X9_oddsE2 Ms ok Ic ht hv rm ?_
  refine t_catch (k := 4) (len := 2) (nm := "") [] (0, 10, 13, 13) [] rfl (fun z hz => absurd hz (List.not_mem_nil)) ⟨by decide, by decide⟩ (by decide) cl_RL_13 ca_RL_13 (by decide) (Or.inr ⟨dL_odds_13, rfl⟩) rfl ?_
  show fEv g _ mL_odds 15 [some (.ref 0), some (.int (nI t)), some (.int b), some (.ref 300), none] [] (fthr σ) Q
  refine e_iconst (nI 1) dL_odds_15 (by decide) ?_
  exact e_ireturn .int dL_odds_16 rfl rfl h
set_option maxRecDepth 20000 in
theorem t_L_night {g : fGP} {d : Nat} {σ : fAH} {Q : fRes → fAH → Prop} {x : fXS} {f c : Nat} (Ms : fMs g σ) (ok : fOK x) (Ic : fIc σ x) (hf : f < 4096) (hv1 : nI f &&& (nI (mfa (mal (xD x) (iS (xI x))) 12 (dT (xD x) 1) 0 0) ^^^ (-1)) = 0) (hv2 : mon f 12 0 ≤ dT (xD x) 3) (hn : (iS (xI x)) 155 < 30) (hc : c ≤ 9) (okx : fOK ((xN f c x (iq (xI x))))) (h : ∀ σ', fSm fClB σ σ' → fIc σ' ((xN f c x (iq (xI x)))) → fJ σ' 300 0 = ((nI ((mgo ldr (xD x) f c ((iS (xI x)), (iT (xI x)), iq (xI x))).1 152) - nI ((iS (xI x)) 152) : Int32)).toInt64 → Q (.inl (some (.int (nI 0)))) σ') : fEv g (d + 6) mL_night 0 (fent [.ref 0, .int (nI f), .int (nI c), .ref 300] 5) [] σ Q := by
  show fEv g (d + 6) mL_night 0 [some (.ref 0), some (.int (nI f)), some (.int (nI c)), some (.ref 300), none] [] σ Q
  refine e_aload_n dL_night_0 rfl rfl ?_
  refine e_iconst (nI 0) dL_night_1 (by decide) ?_
  refine e_aload_n dL_night_2 rfl rfl ?_
  refine e_iload_n dL_night_3 rfl rfl ?_
  refine e_iload_n dL_night_4 rfl rfl ?_
  refine e_callV (k := 0) [.int (nI f), .int (nI c)] dL_night_5 cc_X9_night lk_RL_35 im_X9_night se_X9_night (by decide) (Ms.s 0 rfl) (Ms.n (by decide)) rfl (Nat.le_of_ble_eq_true rfl) (Nat.le_of_ble_eq_true rfl) ?_
  refine t_X9_night Ms ok Ic hf hv1 hv2 hn hc (fun σ1 Sm1 Ic1 => fK_i ?_)
  have Ms1 := Ms.sm Sm1
  show fEv g _ mL_night 8 [some (.ref 0), some (.int (nI f)), some (.int (nI c)), some (.ref 300), none] [.int (nI ((mgo ldr (xD x) f c ((iS (xI x)), (iT (xI x)), iq (xI x))).1 152) - nI ((iS (xI x)) 152)), .int (nI 0), .ref 300] σ1 Q
  refine e_i2l dL_night_8 ?_
  refine e_lastore 0 dL_night_9 (Ms1.s 300 rfl) (Ms1.n (by decide)) rfl (by omega) (by decide) ?_
  refine e_goto 21 dL_night_10 (by decide) ?_
  refine e_iconst (nI 0) dL_night_21 (by decide) ?_
  exact e_ireturn .int dL_night_22 rfl rfl (h _ ((Sm1.to (fun a (q : a < 89) => Or.inl q)).tr (fSm_J (A := fClB) (Or.inr rfl))) (Ic1.out okx) (by rw [fJ_J, if_pos ⟨rfl, rfl⟩]))
set_option maxRecDepth 20000 in
theorem t_L_nightD {g : fGP} {d : Nat} {σ : fAH} {Q : fRes → fAH → Prop} {x : fXS} {f : Nat} (Ms : fMs g σ) (ok : fOK x) (Ic : fIc σ x) (hf : f < 4096) (hv1 : nI f &&& (nI (mfa (mal (xD x) (iS (xI x))) 12 (dT (xD x) 1) 0 0) ^^^ (-1)) = 0) (hv2 : mon f 12 0 ≤ dT (xD x) 3) (hn : (iS (xI x)) 155 < 30) (okx : fOK ((xN f (mdc (xD x) (iS (xI x)) (iq (xI x))).1 x (mdc (xD x) (iS (xI x)) (iq (xI x))).2))) (h : ∀ σ', fSm fClB σ σ' → fIc σ' ((xN f (mdc (xD x) (iS (xI x)) (iq (xI x))).1 x (mdc (xD x) (iS (xI x)) (iq (xI x))).2)) → fJ σ' 300 0 = ((nI ((mgo ldr (xD x) f (mdc (xD x) (iS (xI x)) (iq (xI x))).1 ((iS (xI x)), (iT (xI x)), (mdc (xD x) (iS (xI x)) (iq (xI x))).2)).1 152) - nI ((iS (xI x)) 152) : Int32)).toInt64 → Q (.inl (some (.int (nI 0)))) σ') : fEv g (d + 6) mL_night 0 (fent [.ref 0, .int (nI f), .int (((-1))), .ref 300] 5) [] σ Q := by
  show fEv g (d + 6) mL_night 0 [some (.ref 0), some (.int (nI f)), some (.int (((-1)))), some (.ref 300), none] [] σ Q
  refine e_aload_n dL_night_0 rfl rfl ?_
  refine e_iconst (nI 0) dL_night_1 (by decide) ?_
  refine e_aload_n dL_night_2 rfl rfl ?_
  refine e_iload_n dL_night_3 rfl rfl ?_
  refine e_iload_n dL_night_4 rfl rfl ?_
  refine e_callV (k := 0) [.int (nI f), .int (((-1)))] dL_night_5 cc_X9_night lk_RL_35 im_X9_night se_X9_night (by decide) (Ms.s 0 rfl) (Ms.n (by decide)) rfl (Nat.le_of_ble_eq_true rfl) (Nat.le_of_ble_eq_true rfl) ?_
  refine t_X9_nightD Ms ok Ic hf hv1 hv2 hn (fun σ1 Sm1 Ic1 => fK_i ?_)
  have Ms1 := Ms.sm Sm1
  show fEv g _ mL_night 8 [some (.ref 0), some (.int (nI f)), some (.int (((-1)))), some (.ref 300), none] [.int (nI ((mgo ldr (xD x) f (mdc (xD x) (iS (xI x)) (iq (xI x))).1 ((iS (xI x)), (iT (xI x)), (mdc (xD x) (iS (xI x)) (iq (xI x))).2)).1 152) - nI ((iS (xI x)) 152)), .int (nI 0), .ref 300] σ1 Q
  refine e_i2l dL_night_8 ?_
  refine e_lastore 0 dL_night_9 (Ms1.s 300 rfl) (Ms1.n (by decide)) rfl (by omega) (by decide) ?_
  refine e_goto 21 dL_night_10 (by decide) ?_
  refine e_iconst (nI 0) dL_night_21 (by decide) ?_
  exact e_ireturn .int dL_night_22 rfl rfl (h _ ((Sm1.to (fun a (q : a < 89) => Or.inl q)).tr (fSm_J (A := fClB) (Or.inr rfl))) (Ic1.out okx) (by rw [fJ_J, if_pos ⟨rfl, rfl⟩]))
set_option maxRecDepth 20000 in
theorem t_L_nightE1 {g : fGP} {d : Nat} {σ : fAH} {Q : fRes → fAH → Prop} {x : fXS} {a b : Int32} (Ms : fMs g σ) (ok : fOK x) (Ic : fIc σ x) (hv1 : ¬ a &&& (nI (mfa (mal (xD x) (iS (xI x))) 12 (dT (xD x) 1) 0 0) ^^^ (-1)) = 0) (rm : fnx σ + fgb σ + 1 ≤ 601024 ∧ fsu σ + 6 ≤ 7293034) (h : Q (.inl (some (.int (nI 1)))) (fthr σ)) : fEv g (d + 6) mL_night 0 (fent [.ref 0, .int a, .int b, .ref 300] 5) [] σ Q := by
  show fEv g (d + 6) mL_night 0 [some (.ref 0), some (.int a), some (.int b), some (.ref 300), none] [] σ Q
  refine e_aload_n dL_night_0 rfl rfl ?_
  refine e_iconst (nI 0) dL_night_1 (by decide) ?_
  refine e_aload_n dL_night_2 rfl rfl ?_
  refine e_iload_n dL_night_3 rfl rfl ?_
  refine e_iload_n dL_night_4 rfl rfl ?_
  refine e_callV (k := 0) [.int a, .int b] dL_night_5 cc_X9_night lk_RL_35 im_X9_night se_X9_night (by decide) (Ms.s 0 rfl) (Ms.n (by decide)) rfl (Nat.le_of_ble_eq_true rfl) (Nat.le_of_ble_eq_true rfl) ?_
  refine t_X9_nightE1 Ms ok Ic hv1 rm ?_
  refine t_catch (k := 4) (len := 2) (nm := "") [] (0, 10, 13, 13) [(0, 10, 17, 38)] rfl (fun z hz => absurd hz (List.not_mem_nil)) ⟨by decide, by decide⟩ (by decide) cl_RL_13 ca_RL_13 (by decide) (Or.inr ⟨dL_night_13, rfl⟩) rfl ?_
  show fEv g _ mL_night 15 [some (.ref 0), some (.int a), some (.int b), some (.ref 300), none] [] (fthr σ) Q
  refine e_iconst (nI 1) dL_night_15 (by decide) ?_
  exact e_ireturn .int dL_night_16 rfl rfl h
set_option maxRecDepth 20000 in
theorem t_L_nightE2 {g : fGP} {d : Nat} {σ : fAH} {Q : fRes → fAH → Prop} {x : fXS} {f : Nat} {b : Int32} (Ms : fMs g σ) (ok : fOK x) (Ic : fIc σ x) (hf : f < 4096) (hv1 : nI f &&& (nI (mfa (mal (xD x) (iS (xI x))) 12 (dT (xD x) 1) 0 0) ^^^ (-1)) = 0) (hv2 : ¬ mon f 12 0 ≤ dT (xD x) 3) (rm : fnx σ + fgb σ + 1 ≤ 601024 ∧ fsu σ + 6 ≤ 7293034) (h : Q (.inl (some (.int (nI 1)))) (fthr σ)) : fEv g (d + 6) mL_night 0 (fent [.ref 0, .int (nI f), .int b, .ref 300] 5) [] σ Q := by
  show fEv g (d + 6) mL_night 0 [some (.ref 0), some (.int (nI f)), some (.int b), some (.ref 300), none] [] σ Q
  refine e_aload_n dL_night_0 rfl rfl ?_
  refine e_iconst (nI 0) dL_night_1 (by decide) ?_
  refine e_aload_n dL_night_2 rfl rfl ?_
  refine e_iload_n dL_night_3 rfl rfl ?_
  refine e_iload_n dL_night_4 rfl rfl ?_
  refine e_callV (k := 0) [.int (nI f), .int b] dL_night_5 cc_X9_night lk_RL_35 im_X9_night se_X9_night (by decide) (Ms.s 0 rfl) (Ms.n (by decide)) rfl (Nat.le_of_ble_eq_true rfl) (Nat.le_of_ble_eq_true rfl) ?_
  refine t_X9_nightE2 Ms ok Ic hf hv1 hv2 rm ?_
  refine t_catch (k := 4) (len := 2) (nm := "") [] (0, 10, 13, 13) [(0, 10, 17, 38)] rfl (fun z hz => absurd hz (List.not_mem_nil)) ⟨by decide, by decide⟩ (by decide) cl_RL_13 ca_RL_13 (by decide) (Or.inr ⟨dL_night_13, rfl⟩) rfl ?_
  show fEv g _ mL_night 15 [some (.ref 0), some (.int (nI f)), some (.int b), some (.ref 300), none] [] (fthr σ) Q
  refine e_iconst (nI 1) dL_night_15 (by decide) ?_
  exact e_ireturn .int dL_night_16 rfl rfl h
set_option maxRecDepth 20000 in
theorem t_L_nightE3 {g : fGP} {d : Nat} {σ : fAH} {Q : fRes → fAH → Prop} {x : fXS} {f : Nat} {b : Int32} (Ms : fMs g σ) (ok : fOK x) (Ic : fIc σ x) (hf : f < 4096) (hv1 : nI f &&& (nI (mfa (mal (xD x) (iS (xI x))) 12 (dT (xD x) 1) 0 0) ^^^ (-1)) = 0) (hv2 : mon f 12 0 ≤ dT (xD x) 3) (hv : ¬ (-1 ≤ b ∧ b ≤ nI 9)) (rm : fnx σ + fgb σ + 1 ≤ 601024 ∧ fsu σ + 6 ≤ 7293034) (h : Q (.inl (some (.int (nI 1)))) (fthr σ)) : fEv g (d + 6) mL_night 0 (fent [.ref 0, .int (nI f), .int b, .ref 300] 5) [] σ Q := by
  show fEv g (d + 6) mL_night 0 [some (.ref 0), some (.int (nI f)), some (.int b), some (.ref 300), none] [] σ Q
  refine e_aload_n dL_night_0 rfl rfl ?_
  refine e_iconst (nI 0) dL_night_1 (by decide) ?_
  refine e_aload_n dL_night_2 rfl rfl ?_
  refine e_iload_n dL_night_3 rfl rfl ?_
  refine e_iload_n dL_night_4 rfl rfl ?_
  refine e_callV (k := 0) [.int (nI f), .int b] dL_night_5 cc_X9_night lk_RL_35 im_X9_night se_X9_night (by decide) (Ms.s 0 rfl) (Ms.n (by decide)) rfl (Nat.le_of_ble_eq_true rfl) (Nat.le_of_ble_eq_true rfl) ?_
  refine t_X9_nightE3 Ms ok Ic hf hv1 hv2 hv rm ?_
  refine t_catch (k := 4) (len := 2) (nm := "") [] (0, 10, 13, 13) [(0, 10, 17, 38)] rfl (fun z hz => absurd hz (List.not_mem_nil)) ⟨by decide, by decide⟩ (by decide) cl_RL_13 ca_RL_13 (by decide) (Or.inr ⟨dL_night_13, rfl⟩) rfl ?_
  show fEv g _ mL_night 15 [some (.ref 0), some (.int (nI f)), some (.int b), some (.ref 300), none] [] (fthr σ) Q
  refine e_iconst (nI 1) dL_night_15 (by decide) ?_
  exact e_ireturn .int dL_night_16 rfl rfl h
set_option maxRecDepth 20000 in
theorem t_L_nightE4 {g : fGP} {d : Nat} {σ : fAH} {Q : fRes → fAH → Prop} {x : fXS} {f : Nat} {b : Int32} (Ms : fMs g σ) (ok : fOK x) (Ic : fIc σ x) (hf : f < 4096) (hv1 : nI f &&& (nI (mfa (mal (xD x) (iS (xI x))) 12 (dT (xD x) 1) 0 0) ^^^ (-1)) = 0) (hv2 : mon f 12 0 ≤ dT (xD x) 3) (hv : -1 ≤ b ∧ b ≤ nI 9) (hn : ¬ (iS (xI x)) 155 < 30) (rm : fnx σ + fgb σ + 1 ≤ 601024 ∧ fsu σ + 6 ≤ 7293034) (h : Q (.inl (some (.int (nI 2)))) (fthr σ)) : fEv g (d + 6) mL_night 0 (fent [.ref 0, .int (nI f), .int b, .ref 300] 5) [] σ Q := by
  show fEv g (d + 6) mL_night 0 [some (.ref 0), some (.int (nI f)), some (.int b), some (.ref 300), none] [] σ Q
  refine e_aload_n dL_night_0 rfl rfl ?_
  refine e_iconst (nI 0) dL_night_1 (by decide) ?_
  refine e_aload_n dL_night_2 rfl rfl ?_
  refine e_iload_n dL_night_3 rfl rfl ?_
  refine e_iload_n dL_night_4 rfl rfl ?_
  refine e_callV (k := 0) [.int (nI f), .int b] dL_night_5 cc_X9_night lk_RL_35 im_X9_night se_X9_night (by decide) (Ms.s 0 rfl) (Ms.n (by decide)) rfl (Nat.le_of_ble_eq_true rfl) (Nat.le_of_ble_eq_true rfl) ?_
  refine t_X9_nightE4 Ms ok Ic hf hv1 hv2 hv hn rm ?_
  refine t_catch (k := 4) (len := 2) (nm := "") [(0, 10, 13, 13)] (0, 10, 17, 38) [] rfl (fun z hz => by rw [List.mem_singleton] at hz; subst hz; exact ⟨"java/lang/IllegalArgumentException", by decide, cl_RL_13, List.mem_of_getElem? (i := 2) rfl⟩) ⟨by decide, by decide⟩ (by decide) cl_RL_38 ca_RL_38 (by decide) (Or.inr ⟨dL_night_17, rfl⟩) rfl ?_
  show fEv g _ mL_night 19 [some (.ref 0), some (.int (nI f)), some (.int b), some (.ref 300), none] [] (fthr σ) Q
  refine e_iconst (nI 2) dL_night_19 (by decide) ?_
  exact e_ireturn .int dL_night_20 rfl rfl h
set_option maxRecDepth 20000 in
theorem t_L_sums {g : fGP} {d : Nat} {σ : fAH} {Q : fRes → fAH → Prop} {x : fXS} {w : Nat} (Ms : fMs g σ) (ok : fOK x) (Ic : fIc σ x) (hw : w < 8) (h : ∀ σ', fSm fClB σ σ' → fIc σ' x → fJ σ' 300 0 = ((vSum (xD x) (iS (xI x)) w : Int32)).toInt64 → Q (.inl (some (.int (nI 0)))) σ') : fEv g (d + 4) mL_sums 0 (fent [.ref 0, .int (nI w), .ref 300] 4) [] σ Q := by
  show fEv g (d + 4) mL_sums 0 [some (.ref 0), some (.int (nI w)), some (.ref 300), none] [] σ Q
  refine e_aload_n dL_sums_0 rfl rfl ?_
  refine e_iconst (nI 0) dL_sums_1 (by decide) ?_
  refine e_aload_n dL_sums_2 rfl rfl ?_
  refine e_iload_n dL_sums_3 rfl rfl ?_
  refine e_callV (k := 0) [.int (nI w)] dL_sums_4 cc_X9_sums lk_RL_40 im_X9_sums se_X9_sums (by decide) (Ms.s 0 rfl) (Ms.n (by decide)) rfl (Nat.le_of_ble_eq_true rfl) (Nat.le_of_ble_eq_true rfl) ?_
  refine t_X9_sums Ms ok Ic hw (fK_i ?_)
  show fEv g _ mL_sums 7 [some (.ref 0), some (.int (nI w)), some (.ref 300), none] [.int (vSum (xD x) (iS (xI x)) w), .int (nI 0), .ref 300] σ Q
  refine e_i2l dL_sums_7 ?_
  refine e_lastore 0 dL_sums_8 (Ms.s 300 rfl) (Ms.n (by decide)) rfl (by omega) (by decide) ?_
  refine e_goto 15 dL_sums_9 (by decide) ?_
  refine e_iconst (nI 0) dL_sums_15 (by decide) ?_
  exact e_ireturn .int dL_sums_16 rfl rfl (h _ ((fSm_J (A := fClB) (Or.inr rfl))) (Ic.out ok) (by rw [fJ_J, if_pos ⟨rfl, rfl⟩]))
set_option maxRecDepth 20000 in
theorem t_L_sumsE {g : fGP} {d : Nat} {σ : fAH} {Q : fRes → fAH → Prop} {x : fXS} {a : Int32} (Ms : fMs g σ) (ok : fOK x) (Ic : fIc σ x) (hv : ¬ (nI 0 ≤ a ∧ a ≤ nI 7)) (rm : fnx σ + fgb σ + 1 ≤ 601024 ∧ fsu σ + 6 ≤ 7293034) (h : Q (.inl (some (.int (nI 1)))) (fthr σ)) : fEv g (d + 1) mL_sums 0 (fent [.ref 0, .int a, .ref 300] 4) [] σ Q := by
  show fEv g (d + 1) mL_sums 0 [some (.ref 0), some (.int a), some (.ref 300), none] [] σ Q
  refine e_aload_n dL_sums_0 rfl rfl ?_
  refine e_iconst (nI 0) dL_sums_1 (by decide) ?_
  refine e_aload_n dL_sums_2 rfl rfl ?_
  refine e_iload_n dL_sums_3 rfl rfl ?_
  refine e_callV (k := 0) [.int a] dL_sums_4 cc_X9_sums lk_RL_40 im_X9_sums se_X9_sums (by decide) (Ms.s 0 rfl) (Ms.n (by decide)) rfl (Nat.le_of_ble_eq_true rfl) (Nat.le_of_ble_eq_true rfl) ?_
  refine t_X9_sumsE Ms ok Ic hv rm ?_
  refine t_catch (k := 3) (len := 1) (nm := "") [] (0, 9, 12, 13) [] rfl (fun z hz => absurd hz (List.not_mem_nil)) ⟨by decide, by decide⟩ (by decide) cl_RL_13 ca_RL_13 (by decide) (Or.inl ⟨3, rfl, dL_sums_12, rfl⟩) rfl ?_
  show fEv g _ mL_sums 13 [some (.ref 0), some (.int a), some (.ref 300), none] [] (fthr σ) Q
  refine e_iconst (nI 1) dL_sums_13 (by decide) ?_
  exact e_ireturn .int dL_sums_14 rfl rfl h
set_option maxRecDepth 20000 in
theorem t_L_trace {g : fGP} {d : Nat} {σ : fAH} {Q : fRes → fAH → Prop} {x : fXS} {k w : Nat} (Ms : fMs g σ) (ok : fOK x) (Ic : fIc σ x) (hk : k < (iS (xI x)) 152) (hw : w < 4) (h : ∀ σ', fSm fClB σ σ' → fIc σ' x → fJ σ' 300 0 = (((iT (xI x)) (k * 4 + w) : Int32)).toInt64 → Q (.inl (some (.int (nI 0)))) σ') : fEv g (d + 2) mL_trace 0 (fent [.ref 0, .int (nI k), .int (nI w), .ref 300] 5) [] σ Q := by
  show fEv g (d + 2) mL_trace 0 [some (.ref 0), some (.int (nI k)), some (.int (nI w)), some (.ref 300), none] [] σ Q
  refine e_aload_n dL_trace_0 rfl rfl ?_
  refine e_iconst (nI 0) dL_trace_1 (by decide) ?_
  refine e_aload_n dL_trace_2 rfl rfl ?_
  refine e_iload_n dL_trace_3 rfl rfl ?_
  refine e_iload_n dL_trace_4 rfl rfl ?_
  refine e_callV (k := 0) [.int (nI k), .int (nI w)] dL_trace_5 cc_X9_trace lk_RL_43 im_X9_trace se_X9_trace (by decide) (Ms.s 0 rfl) (Ms.n (by decide)) rfl (Nat.le_of_ble_eq_true rfl) (Nat.le_of_ble_eq_true rfl) ?_
  refine t_X9_trace Ms ok Ic hk hw (fK_i ?_)
  show fEv g _ mL_trace 8 [some (.ref 0), some (.int (nI k)), some (.int (nI w)), some (.ref 300), none] [.int ((iT (xI x)) (k * 4 + w)), .int (nI 0), .ref 300] σ Q
  refine e_i2l dL_trace_8 ?_
  refine e_lastore 0 dL_trace_9 (Ms.s 300 rfl) (Ms.n (by decide)) rfl (by omega) (by decide) ?_
  refine e_goto 17 dL_trace_10 (by decide) ?_
  refine e_iconst (nI 0) dL_trace_17 (by decide) ?_
  exact e_ireturn .int dL_trace_18 rfl rfl (h _ ((fSm_J (A := fClB) (Or.inr rfl))) (Ic.out ok) (by rw [fJ_J, if_pos ⟨rfl, rfl⟩]))
set_option maxRecDepth 20000 in
theorem t_L_traceE {g : fGP} {d : Nat} {σ : fAH} {Q : fRes → fAH → Prop} {x : fXS} {a b : Int32} (Ms : fMs g σ) (ok : fOK x) (Ic : fIc σ x) (hv : ¬ (nI 0 ≤ b ∧ b ≤ nI 3)) (rm : fnx σ + fgb σ + 1 ≤ 601024 ∧ fsu σ + 6 ≤ 7293034) (h : Q (.inl (some (.int (nI 1)))) (fthr σ)) : fEv g (d + 2) mL_trace 0 (fent [.ref 0, .int a, .int b, .ref 300] 5) [] σ Q := by
  show fEv g (d + 2) mL_trace 0 [some (.ref 0), some (.int a), some (.int b), some (.ref 300), none] [] σ Q
  refine e_aload_n dL_trace_0 rfl rfl ?_
  refine e_iconst (nI 0) dL_trace_1 (by decide) ?_
  refine e_aload_n dL_trace_2 rfl rfl ?_
  refine e_iload_n dL_trace_3 rfl rfl ?_
  refine e_iload_n dL_trace_4 rfl rfl ?_
  refine e_callV (k := 0) [.int a, .int b] dL_trace_5 cc_X9_trace lk_RL_43 im_X9_trace se_X9_trace (by decide) (Ms.s 0 rfl) (Ms.n (by decide)) rfl (Nat.le_of_ble_eq_true rfl) (Nat.le_of_ble_eq_true rfl) ?_
  refine t_X9_traceE Ms ok Ic hv rm ?_
  refine t_catch (k := 4) (len := 2) (nm := "") [] (0, 10, 13, 13) [] rfl (fun z hz => absurd hz (List.not_mem_nil)) ⟨by decide, by decide⟩ (by decide) cl_RL_13 ca_RL_13 (by decide) (Or.inr ⟨dL_trace_13, rfl⟩) rfl ?_
  show fEv g _ mL_trace 15 [some (.ref 0), some (.int a), some (.int b), some (.ref 300), none] [] (fthr σ) Q
  refine e_iconst (nI 1) dL_trace_15 (by decide) ?_
  exact e_ireturn .int dL_trace_16 rfl rfl h
set_option maxRecDepth 20000 in
theorem t_L_traceN {g : fGP} {d : Nat} {σ : fAH} {Q : fRes → fAH → Prop} {x : fXS} {a : Int32} {w : Nat} (Ms : fMs g σ) (ok : fOK x) (Ic : fIc σ x) (hv : ¬ (nI 0 ≤ a ∧ a < nI ((iS (xI x)) 152))) (hw : w < 4) (h : ∀ σ', fSm fClB σ σ' → fIc σ' x → fJ σ' 300 0 = ((-2 : Int32)).toInt64 → Q (.inl (some (.int (nI 0)))) σ') : fEv g (d + 2) mL_trace 0 (fent [.ref 0, .int a, .int (nI w), .ref 300] 5) [] σ Q := by
  show fEv g (d + 2) mL_trace 0 [some (.ref 0), some (.int a), some (.int (nI w)), some (.ref 300), none] [] σ Q
  refine e_aload_n dL_trace_0 rfl rfl ?_
  refine e_iconst (nI 0) dL_trace_1 (by decide) ?_
  refine e_aload_n dL_trace_2 rfl rfl ?_
  refine e_iload_n dL_trace_3 rfl rfl ?_
  refine e_iload_n dL_trace_4 rfl rfl ?_
  refine e_callV (k := 0) [.int a, .int (nI w)] dL_trace_5 cc_X9_trace lk_RL_43 im_X9_trace se_X9_trace (by decide) (Ms.s 0 rfl) (Ms.n (by decide)) rfl (Nat.le_of_ble_eq_true rfl) (Nat.le_of_ble_eq_true rfl) ?_
  refine t_X9_traceN Ms ok Ic hv hw (fK_i ?_)
  show fEv g _ mL_trace 8 [some (.ref 0), some (.int a), some (.int (nI w)), some (.ref 300), none] [.int (-2), .int (nI 0), .ref 300] σ Q
  refine e_i2l dL_trace_8 ?_
  refine e_lastore 0 dL_trace_9 (Ms.s 300 rfl) (Ms.n (by decide)) rfl (by omega) (by decide) ?_
  refine e_goto 17 dL_trace_10 (by decide) ?_
  refine e_iconst (nI 0) dL_trace_17 (by decide) ?_
  exact e_ireturn .int dL_trace_18 rfl rfl (h _ ((fSm_J (A := fClB) (Or.inr rfl))) (Ic.out ok) (by rw [fJ_J, if_pos ⟨rfl, rfl⟩]))
set_option maxRecDepth 20000 in
theorem t_L_left {g : fGP} {d : Nat} {σ : fAH} {Q : fRes → fAH → Prop} {x : fXS} {k w pt : Nat} (Ms : fMs g σ) (ok : fOK x) (Ic : fIc σ x) (hk : k < dT (xD x) 1) (hw : w ≤ 2) (hp : pt ≤ 1) (h : ∀ σ', fSm fClB σ σ' → fIc σ' x → fJ σ' 300 0 = ((vLeft (xD x) (iS (xI x)) k w pt : Int32)).toInt64 → Q (.inl (some (.int (nI 0)))) σ') : fEv g (d + 5) mL_left 0 (fent [.ref 0, .int (nI k), .int (nI w), .int (nI pt), .ref 300] 6) [] σ Q := by
  show fEv g (d + 5) mL_left 0 [some (.ref 0), some (.int (nI k)), some (.int (nI w)), some (.int (nI pt)), some (.ref 300), none] [] σ Q
  refine e_aload dL_left_0 rfl ?_
  refine e_iconst (nI 0) dL_left_2 (by decide) ?_
  refine e_aload_n dL_left_3 rfl rfl ?_
  refine e_iload_n dL_left_4 rfl rfl ?_
  refine e_iload_n dL_left_5 rfl rfl ?_
  refine e_iload_n dL_left_6 rfl rfl ?_
  refine e_callV (k := 0) [.int (nI k), .int (nI w), .int (nI pt)] dL_left_7 cc_X9_left lk_RL_46 im_X9_left se_X9_left (by decide) (Ms.s 0 rfl) (Ms.n (by decide)) rfl (Nat.le_of_ble_eq_true rfl) (Nat.le_of_ble_eq_true rfl) ?_
  refine t_X9_left Ms ok Ic hk hw hp (fK_i ?_)
  show fEv g _ mL_left 10 [some (.ref 0), some (.int (nI k)), some (.int (nI w)), some (.int (nI pt)), some (.ref 300), none] [.int (vLeft (xD x) (iS (xI x)) k w pt), .int (nI 0), .ref 300] σ Q
  refine e_i2l dL_left_10 ?_
  refine e_lastore 0 dL_left_11 (Ms.s 300 rfl) (Ms.n (by decide)) rfl (by omega) (by decide) ?_
  refine e_goto 23 dL_left_12 (by decide) ?_
  refine e_iconst (nI 0) dL_left_23 (by decide) ?_
  exact e_ireturn .int dL_left_24 rfl rfl (h _ ((fSm_J (A := fClB) (Or.inr rfl))) (Ic.out ok) (by rw [fJ_J, if_pos ⟨rfl, rfl⟩]))
set_option maxRecDepth 20000 in
theorem t_L_leftE1 {g : fGP} {d : Nat} {σ : fAH} {Q : fRes → fAH → Prop} {x : fXS} {a b c : Int32} (Ms : fMs g σ) (ok : fOK x) (Ic : fIc σ x) (hv : ¬ (nI 0 ≤ a ∧ a < nI (dT (xD x) 1))) (rm : fnx σ + fgb σ + 1 ≤ 601024 ∧ fsu σ + 6 ≤ 7293034) (h : Q (.inl (some (.int (nI 1)))) (fthr σ)) : fEv g (d + 2) mL_left 0 (fent [.ref 0, .int a, .int b, .int c, .ref 300] 6) [] σ Q := by
  show fEv g (d + 2) mL_left 0 [some (.ref 0), some (.int a), some (.int b), some (.int c), some (.ref 300), none] [] σ Q
  refine e_aload dL_left_0 rfl ?_
  refine e_iconst (nI 0) dL_left_2 (by decide) ?_
  refine e_aload_n dL_left_3 rfl rfl ?_
  refine e_iload_n dL_left_4 rfl rfl ?_
  refine e_iload_n dL_left_5 rfl rfl ?_
  refine e_iload_n dL_left_6 rfl rfl ?_
  refine e_callV (k := 0) [.int a, .int b, .int c] dL_left_7 cc_X9_left lk_RL_46 im_X9_left se_X9_left (by decide) (Ms.s 0 rfl) (Ms.n (by decide)) rfl (Nat.le_of_ble_eq_true rfl) (Nat.le_of_ble_eq_true rfl) ?_
  refine t_X9_leftE1 Ms ok Ic hv rm ?_
  refine t_catch (k := 5) (len := 2) (nm := "") [] (0, 12, 15, 22) [(0, 12, 19, 13)] rfl (fun z hz => absurd hz (List.not_mem_nil)) ⟨by decide, by decide⟩ (by decide) cl_RL_22 ca_RL_22 (by decide) (Or.inr ⟨dL_left_15, rfl⟩) rfl ?_
  show fEv g _ mL_left 17 [some (.ref 0), some (.int a), some (.int b), some (.int c), some (.ref 300), none] [] (fthr σ) Q
  refine e_iconst (nI 1) dL_left_17 (by decide) ?_
  exact e_ireturn .int dL_left_18 rfl rfl h
set_option maxRecDepth 20000 in
theorem t_L_leftE2 {g : fGP} {d : Nat} {σ : fAH} {Q : fRes → fAH → Prop} {x : fXS} {k : Nat} {b c : Int32} (Ms : fMs g σ) (ok : fOK x) (Ic : fIc σ x) (hk : k < dT (xD x) 1) (hv : ¬ (nI 0 ≤ b ∧ b ≤ nI 2)) (rm : fnx σ + fgb σ + 1 ≤ 601024 ∧ fsu σ + 6 ≤ 7293034) (h : Q (.inl (some (.int (nI 2)))) (fthr σ)) : fEv g (d + 2) mL_left 0 (fent [.ref 0, .int (nI k), .int b, .int c, .ref 300] 6) [] σ Q := by
  show fEv g (d + 2) mL_left 0 [some (.ref 0), some (.int (nI k)), some (.int b), some (.int c), some (.ref 300), none] [] σ Q
  refine e_aload dL_left_0 rfl ?_
  refine e_iconst (nI 0) dL_left_2 (by decide) ?_
  refine e_aload_n dL_left_3 rfl rfl ?_
  refine e_iload_n dL_left_4 rfl rfl ?_
  refine e_iload_n dL_left_5 rfl rfl ?_
  refine e_iload_n dL_left_6 rfl rfl ?_
  refine e_callV (k := 0) [.int (nI k), .int b, .int c] dL_left_7 cc_X9_left lk_RL_46 im_X9_left se_X9_left (by decide) (Ms.s 0 rfl) (Ms.n (by decide)) rfl (Nat.le_of_ble_eq_true rfl) (Nat.le_of_ble_eq_true rfl) ?_
  refine t_X9_leftE2 Ms ok Ic hk hv rm ?_
  refine t_catch (k := 5) (len := 2) (nm := "") [(0, 12, 15, 22)] (0, 12, 19, 13) [] rfl (fun z hz => by rw [List.mem_singleton] at hz; subst hz; exact ⟨"java/util/NoSuchElementException", by decide, cl_RL_22, List.mem_of_getElem? (i := 0) rfl⟩) ⟨by decide, by decide⟩ (by decide) cl_RL_13 ca_RL_13 (by decide) (Or.inr ⟨dL_left_19, rfl⟩) rfl ?_
  show fEv g _ mL_left 21 [some (.ref 0), some (.int (nI k)), some (.int b), some (.int c), some (.ref 300), none] [] (fthr σ) Q
  refine e_iconst (nI 2) dL_left_21 (by decide) ?_
  exact e_ireturn .int dL_left_22 rfl rfl h
set_option maxRecDepth 20000 in
theorem t_L_leftE3 {g : fGP} {d : Nat} {σ : fAH} {Q : fRes → fAH → Prop} {x : fXS} {k w : Nat} {c : Int32} (Ms : fMs g σ) (ok : fOK x) (Ic : fIc σ x) (hk : k < dT (xD x) 1) (hw : w ≤ 2) (hv : ¬ (nI 0 ≤ c ∧ c ≤ nI 1)) (rm : fnx σ + fgb σ + 1 ≤ 601024 ∧ fsu σ + 6 ≤ 7293034) (h : Q (.inl (some (.int (nI 2)))) (fthr σ)) : fEv g (d + 2) mL_left 0 (fent [.ref 0, .int (nI k), .int (nI w), .int c, .ref 300] 6) [] σ Q := by
  show fEv g (d + 2) mL_left 0 [some (.ref 0), some (.int (nI k)), some (.int (nI w)), some (.int c), some (.ref 300), none] [] σ Q
  refine e_aload dL_left_0 rfl ?_
  refine e_iconst (nI 0) dL_left_2 (by decide) ?_
  refine e_aload_n dL_left_3 rfl rfl ?_
  refine e_iload_n dL_left_4 rfl rfl ?_
  refine e_iload_n dL_left_5 rfl rfl ?_
  refine e_iload_n dL_left_6 rfl rfl ?_
  refine e_callV (k := 0) [.int (nI k), .int (nI w), .int c] dL_left_7 cc_X9_left lk_RL_46 im_X9_left se_X9_left (by decide) (Ms.s 0 rfl) (Ms.n (by decide)) rfl (Nat.le_of_ble_eq_true rfl) (Nat.le_of_ble_eq_true rfl) ?_
  refine t_X9_leftE3 Ms ok Ic hk hw hv rm ?_
  refine t_catch (k := 5) (len := 2) (nm := "") [(0, 12, 15, 22)] (0, 12, 19, 13) [] rfl (fun z hz => by rw [List.mem_singleton] at hz; subst hz; exact ⟨"java/util/NoSuchElementException", by decide, cl_RL_22, List.mem_of_getElem? (i := 0) rfl⟩) ⟨by decide, by decide⟩ (by decide) cl_RL_13 ca_RL_13 (by decide) (Or.inr ⟨dL_left_19, rfl⟩) rfl ?_
  show fEv g _ mL_left 21 [some (.ref 0), some (.int (nI k)), some (.int (nI w)), some (.int c), some (.ref 300), none] [] (fthr σ) Q
  refine e_iconst (nI 2) dL_left_21 (by decide) ?_
  exact e_ireturn .int dL_left_22 rfl rfl h
set_option maxRecDepth 20000 in
theorem t_L_fits {g : fGP} {d : Nat} {σ : fAH} {Q : fRes → fAH → Prop} {x : fXS} {k w pt : Nat} (Ms : fMs g σ) (ok : fOK x) (Ic : fIc σ x) (hk : k < dT (xD x) 1) (hw : w ≤ 2) (hp : pt ≤ 1) (h : ∀ σ', fSm fClB σ σ' → fIc σ' x → fJ σ' 300 0 = ((vFit (xD x) (iS (xI x)) k w pt : Int32)).toInt64 → Q (.inl (some (.int (nI 0)))) σ') : fEv g (d + 5) mL_fits 0 (fent [.ref 0, .int (nI k), .int (nI w), .int (nI pt), .ref 300] 6) [] σ Q := by
  show fEv g (d + 5) mL_fits 0 [some (.ref 0), some (.int (nI k)), some (.int (nI w)), some (.int (nI pt)), some (.ref 300), none] [] σ Q
  refine e_aload dL_fits_0 rfl ?_
  refine e_iconst (nI 0) dL_fits_2 (by decide) ?_
  refine e_aload_n dL_fits_3 rfl rfl ?_
  refine e_iload_n dL_fits_4 rfl rfl ?_
  refine e_iload_n dL_fits_5 rfl rfl ?_
  refine e_iload_n dL_fits_6 rfl rfl ?_
  refine e_callV (k := 0) [.int (nI k), .int (nI w), .int (nI pt)] dL_fits_7 cc_X9_fits lk_RL_50 im_X9_fits se_X9_fits (by decide) (Ms.s 0 rfl) (Ms.n (by decide)) rfl (Nat.le_of_ble_eq_true rfl) (Nat.le_of_ble_eq_true rfl) ?_
  refine t_X9_fits Ms ok Ic hk hw hp (fK_i ?_)
  show fEv g _ mL_fits 10 [some (.ref 0), some (.int (nI k)), some (.int (nI w)), some (.int (nI pt)), some (.ref 300), none] [.int (vFit (xD x) (iS (xI x)) k w pt), .int (nI 0), .ref 300] σ Q
  refine e_i2l dL_fits_10 ?_
  refine e_lastore 0 dL_fits_11 (Ms.s 300 rfl) (Ms.n (by decide)) rfl (by omega) (by decide) ?_
  refine e_goto 23 dL_fits_12 (by decide) ?_
  refine e_iconst (nI 0) dL_fits_23 (by decide) ?_
  exact e_ireturn .int dL_fits_24 rfl rfl (h _ ((fSm_J (A := fClB) (Or.inr rfl))) (Ic.out ok) (by rw [fJ_J, if_pos ⟨rfl, rfl⟩]))
set_option maxRecDepth 20000 in
theorem t_L_fitsE1 {g : fGP} {d : Nat} {σ : fAH} {Q : fRes → fAH → Prop} {x : fXS} {a b c : Int32} (Ms : fMs g σ) (ok : fOK x) (Ic : fIc σ x) (hv : ¬ (nI 0 ≤ a ∧ a < nI (dT (xD x) 1))) (rm : fnx σ + fgb σ + 1 ≤ 601024 ∧ fsu σ + 6 ≤ 7293034) (h : Q (.inl (some (.int (nI 1)))) (fthr σ)) : fEv g (d + 2) mL_fits 0 (fent [.ref 0, .int a, .int b, .int c, .ref 300] 6) [] σ Q := by
  show fEv g (d + 2) mL_fits 0 [some (.ref 0), some (.int a), some (.int b), some (.int c), some (.ref 300), none] [] σ Q
  refine e_aload dL_fits_0 rfl ?_
  refine e_iconst (nI 0) dL_fits_2 (by decide) ?_
  refine e_aload_n dL_fits_3 rfl rfl ?_
  refine e_iload_n dL_fits_4 rfl rfl ?_
  refine e_iload_n dL_fits_5 rfl rfl ?_
  refine e_iload_n dL_fits_6 rfl rfl ?_
  refine e_callV (k := 0) [.int a, .int b, .int c] dL_fits_7 cc_X9_fits lk_RL_50 im_X9_fits se_X9_fits (by decide) (Ms.s 0 rfl) (Ms.n (by decide)) rfl (Nat.le_of_ble_eq_true rfl) (Nat.le_of_ble_eq_true rfl) ?_
  refine t_X9_fitsE1 Ms ok Ic hv rm ?_
  refine t_catch (k := 5) (len := 2) (nm := "") [] (0, 12, 15, 22) [(0, 12, 19, 13)] rfl (fun z hz => absurd hz (List.not_mem_nil)) ⟨by decide, by decide⟩ (by decide) cl_RL_22 ca_RL_22 (by decide) (Or.inr ⟨dL_fits_15, rfl⟩) rfl ?_
  show fEv g _ mL_fits 17 [some (.ref 0), some (.int a), some (.int b), some (.int c), some (.ref 300), none] [] (fthr σ) Q
  refine e_iconst (nI 1) dL_fits_17 (by decide) ?_
  exact e_ireturn .int dL_fits_18 rfl rfl h
set_option maxRecDepth 20000 in
theorem t_L_fitsE2 {g : fGP} {d : Nat} {σ : fAH} {Q : fRes → fAH → Prop} {x : fXS} {k : Nat} {b c : Int32} (Ms : fMs g σ) (ok : fOK x) (Ic : fIc σ x) (hk : k < dT (xD x) 1) (hv : ¬ (nI 0 ≤ b ∧ b ≤ nI 2)) (rm : fnx σ + fgb σ + 1 ≤ 601024 ∧ fsu σ + 6 ≤ 7293034) (h : Q (.inl (some (.int (nI 2)))) (fthr σ)) : fEv g (d + 2) mL_fits 0 (fent [.ref 0, .int (nI k), .int b, .int c, .ref 300] 6) [] σ Q := by
  show fEv g (d + 2) mL_fits 0 [some (.ref 0), some (.int (nI k)), some (.int b), some (.int c), some (.ref 300), none] [] σ Q
  refine e_aload dL_fits_0 rfl ?_
  refine e_iconst (nI 0) dL_fits_2 (by decide) ?_
  refine e_aload_n dL_fits_3 rfl rfl ?_
  refine e_iload_n dL_fits_4 rfl rfl ?_
  refine e_iload_n dL_fits_5 rfl rfl ?_
  refine e_iload_n dL_fits_6 rfl rfl ?_
  refine e_callV (k := 0) [.int (nI k), .int b, .int c] dL_fits_7 cc_X9_fits lk_RL_50 im_X9_fits se_X9_fits (by decide) (Ms.s 0 rfl) (Ms.n (by decide)) rfl (Nat.le_of_ble_eq_true rfl) (Nat.le_of_ble_eq_true rfl) ?_
  refine t_X9_fitsE2 Ms ok Ic hk hv rm ?_
  refine t_catch (k := 5) (len := 2) (nm := "") [(0, 12, 15, 22)] (0, 12, 19, 13) [] rfl (fun z hz => by rw [List.mem_singleton] at hz; subst hz; exact ⟨"java/util/NoSuchElementException", by decide, cl_RL_22, List.mem_of_getElem? (i := 0) rfl⟩) ⟨by decide, by decide⟩ (by decide) cl_RL_13 ca_RL_13 (by decide) (Or.inr ⟨dL_fits_19, rfl⟩) rfl ?_
  show fEv g _ mL_fits 21 [some (.ref 0), some (.int (nI k)), some (.int b), some (.int c), some (.ref 300), none] [] (fthr σ) Q
  refine e_iconst (nI 2) dL_fits_21 (by decide) ?_
  exact e_ireturn .int dL_fits_22 rfl rfl h
set_option maxRecDepth 20000 in
theorem t_L_fitsE3 {g : fGP} {d : Nat} {σ : fAH} {Q : fRes → fAH → Prop} {x : fXS} {k w : Nat} {c : Int32} (Ms : fMs g σ) (ok : fOK x) (Ic : fIc σ x) (hk : k < dT (xD x) 1) (hw : w ≤ 2) (hv : ¬ (nI 0 ≤ c ∧ c ≤ nI 1)) (rm : fnx σ + fgb σ + 1 ≤ 601024 ∧ fsu σ + 6 ≤ 7293034) (h : Q (.inl (some (.int (nI 2)))) (fthr σ)) : fEv g (d + 2) mL_fits 0 (fent [.ref 0, .int (nI k), .int (nI w), .int c, .ref 300] 6) [] σ Q := by
  show fEv g (d + 2) mL_fits 0 [some (.ref 0), some (.int (nI k)), some (.int (nI w)), some (.int c), some (.ref 300), none] [] σ Q
  refine e_aload dL_fits_0 rfl ?_
  refine e_iconst (nI 0) dL_fits_2 (by decide) ?_
  refine e_aload_n dL_fits_3 rfl rfl ?_
  refine e_iload_n dL_fits_4 rfl rfl ?_
  refine e_iload_n dL_fits_5 rfl rfl ?_
  refine e_iload_n dL_fits_6 rfl rfl ?_
  refine e_callV (k := 0) [.int (nI k), .int (nI w), .int c] dL_fits_7 cc_X9_fits lk_RL_50 im_X9_fits se_X9_fits (by decide) (Ms.s 0 rfl) (Ms.n (by decide)) rfl (Nat.le_of_ble_eq_true rfl) (Nat.le_of_ble_eq_true rfl) ?_
  refine t_X9_fitsE3 Ms ok Ic hk hw hv rm ?_
  refine t_catch (k := 5) (len := 2) (nm := "") [(0, 12, 15, 22)] (0, 12, 19, 13) [] rfl (fun z hz => by rw [List.mem_singleton] at hz; subst hz; exact ⟨"java/util/NoSuchElementException", by decide, cl_RL_22, List.mem_of_getElem? (i := 0) rfl⟩) ⟨by decide, by decide⟩ (by decide) cl_RL_13 ca_RL_13 (by decide) (Or.inr ⟨dL_fits_19, rfl⟩) rfl ?_
  show fEv g _ mL_fits 21 [some (.ref 0), some (.int (nI k)), some (.int (nI w)), some (.int c), some (.ref 300), none] [] (fthr σ) Q
  refine e_iconst (nI 2) dL_fits_21 (by decide) ?_
  exact e_ireturn .int dL_fits_22 rfl rfl h
set_option maxRecDepth 20000 in
theorem t_L_plan {g : fGP} {d : Nat} {σ : fAH} {Q : fRes → fAH → Prop} {x : fXS} {f : Nat} (Ms : fMs g σ) (ok : fOK x) (Ic : fIc σ x) (hf : f < 2 ^ dT (xD x) 1) (hp9 : ipn (xI x) < 30) (okx : fOK ((xD x, (iS (xI x), iT (xI x), iq (xI x), ipn (xI x) + 1, mup (iP (xI x)) (ipn (xI x)) f, irn (xI x), iR (xI x)), xB x, xt x, xp x, xm x, xM x))) (h : ∀ σ', fSm fClB σ σ' → fIc σ' ((xD x, (iS (xI x), iT (xI x), iq (xI x), ipn (xI x) + 1, mup (iP (xI x)) (ipn (xI x)) f, irn (xI x), iR (xI x)), xB x, xt x, xp x, xm x, xM x)) → fJ σ' 300 0 = ((nI (ipn (xI x) + 1) : Int32)).toInt64 → Q (.inl (some (.int (nI 0)))) σ') : fEv g (d + 2) mL_plan 0 (fent [.ref 0, .int (nI f), .ref 300] 4) [] σ Q := by
  show fEv g (d + 2) mL_plan 0 [some (.ref 0), some (.int (nI f)), some (.ref 300), none] [] σ Q
  refine e_aload_n dL_plan_0 rfl rfl ?_
  refine e_iconst (nI 0) dL_plan_1 (by decide) ?_
  refine e_aload_n dL_plan_2 rfl rfl ?_
  refine e_iload_n dL_plan_3 rfl rfl ?_
  refine e_callV (k := 0) [.int (nI f)] dL_plan_4 cc_X9_plan lk_RL_53 im_X9_plan se_X9_plan (by decide) (Ms.s 0 rfl) (Ms.n (by decide)) rfl (Nat.le_of_ble_eq_true rfl) (Nat.le_of_ble_eq_true rfl) ?_
  refine t_X9_plan Ms ok Ic hf hp9 (fun σ1 Sm1 Ic1 => fK_i ?_)
  have Ms1 := Ms.sm Sm1
  show fEv g _ mL_plan 7 [some (.ref 0), some (.int (nI f)), some (.ref 300), none] [.int (nI (ipn (xI x) + 1)), .int (nI 0), .ref 300] σ1 Q
  refine e_i2l dL_plan_7 ?_
  refine e_lastore 0 dL_plan_8 (Ms1.s 300 rfl) (Ms1.n (by decide)) rfl (by omega) (by decide) ?_
  refine e_goto 15 dL_plan_9 (by decide) ?_
  refine e_iconst (nI 0) dL_plan_15 (by decide) ?_
  exact e_ireturn .int dL_plan_16 rfl rfl (h _ ((Sm1.to (fun a (q : a < 89) => Or.inl q)).tr (fSm_J (A := fClB) (Or.inr rfl))) (Ic1.out okx) (by rw [fJ_J, if_pos ⟨rfl, rfl⟩]))
set_option maxRecDepth 20000 in
theorem t_L_planE {g : fGP} {d : Nat} {σ : fAH} {Q : fRes → fAH → Prop} {x : fXS} {a : Int32} (Ms : fMs g σ) (ok : fOK x) (Ic : fIc σ x) (hv : ¬ (nI 0 ≤ a ∧ a < nI (2 ^ dT (xD x) 1))) (rm : fnx σ + fgb σ + 1 ≤ 601024 ∧ fsu σ + 6 ≤ 7293034) (h : Q (.inl (some (.int (nI 1)))) (fthr σ)) : fEv g (d + 2) mL_plan 0 (fent [.ref 0, .int a, .ref 300] 4) [] σ Q := by
  show fEv g (d + 2) mL_plan 0 [some (.ref 0), some (.int a), some (.ref 300), none] [] σ Q
  refine e_aload_n dL_plan_0 rfl rfl ?_
  refine e_iconst (nI 0) dL_plan_1 (by decide) ?_
  refine e_aload_n dL_plan_2 rfl rfl ?_
  refine e_iload_n dL_plan_3 rfl rfl ?_
  refine e_callV (k := 0) [.int a] dL_plan_4 cc_X9_plan lk_RL_53 im_X9_plan se_X9_plan (by decide) (Ms.s 0 rfl) (Ms.n (by decide)) rfl (Nat.le_of_ble_eq_true rfl) (Nat.le_of_ble_eq_true rfl) ?_
  refine t_X9_planE Ms ok Ic hv rm ?_
  refine t_catch (k := 3) (len := 1) (nm := "") [] (0, 9, 12, 13) [] rfl (fun z hz => absurd hz (List.not_mem_nil)) ⟨by decide, by decide⟩ (by decide) cl_RL_13 ca_RL_13 (by decide) (Or.inl ⟨3, rfl, dL_plan_12, rfl⟩) rfl ?_
  show fEv g _ mL_plan 13 [some (.ref 0), some (.int a), some (.ref 300), none] [] (fthr σ) Q
  refine e_iconst (nI 1) dL_plan_13 (by decide) ?_
  exact e_ireturn .int dL_plan_14 rfl rfl h
set_option maxRecDepth 20000 in
theorem t_L_planN {g : fGP} {d : Nat} {σ : fAH} {Q : fRes → fAH → Prop} {x : fXS} {f : Nat} (Ms : fMs g σ) (ok : fOK x) (Ic : fIc σ x) (hf : f < 2 ^ dT (xD x) 1) (hp9 : ipn (xI x) = 30) (h : ∀ σ', fSm fClB σ σ' → fIc σ' x → fJ σ' 300 0 = ((-1 : Int32)).toInt64 → Q (.inl (some (.int (nI 0)))) σ') : fEv g (d + 2) mL_plan 0 (fent [.ref 0, .int (nI f), .ref 300] 4) [] σ Q := by
  show fEv g (d + 2) mL_plan 0 [some (.ref 0), some (.int (nI f)), some (.ref 300), none] [] σ Q
  refine e_aload_n dL_plan_0 rfl rfl ?_
  refine e_iconst (nI 0) dL_plan_1 (by decide) ?_
  refine e_aload_n dL_plan_2 rfl rfl ?_
  refine e_iload_n dL_plan_3 rfl rfl ?_
  refine e_callV (k := 0) [.int (nI f)] dL_plan_4 cc_X9_plan lk_RL_53 im_X9_plan se_X9_plan (by decide) (Ms.s 0 rfl) (Ms.n (by decide)) rfl (Nat.le_of_ble_eq_true rfl) (Nat.le_of_ble_eq_true rfl) ?_
  refine t_X9_planN Ms ok Ic hf hp9 (fK_i ?_)
  show fEv g _ mL_plan 7 [some (.ref 0), some (.int (nI f)), some (.ref 300), none] [.int (-1), .int (nI 0), .ref 300] σ Q
  refine e_i2l dL_plan_7 ?_
  refine e_lastore 0 dL_plan_8 (Ms.s 300 rfl) (Ms.n (by decide)) rfl (by omega) (by decide) ?_
  refine e_goto 15 dL_plan_9 (by decide) ?_
  refine e_iconst (nI 0) dL_plan_15 (by decide) ?_
  exact e_ireturn .int dL_plan_16 rfl rfl (h _ ((fSm_J (A := fClB) (Or.inr rfl))) (Ic.out ok) (by rw [fJ_J, if_pos ⟨rfl, rfl⟩]))
set_option maxRecDepth 20000 in
theorem t_L_would {g : fGP} {d : Nat} {σ : fAH} {Q : fRes → fAH → Prop} {x : fXS} {a : Int32} {w : Nat} (Ms : fMs g σ) (ok : fOK x) (Ic : fIc σ x) (hw : w < 6) (h : ∀ σ', fSm fClB σ σ' → fIc σ' x → fJ σ' 300 0 = ((vWould (xD x) (iS (xI x)) (mplan (xD x) (iP (xI x)) (ipn (xI x)) 0 ((iS (xI x)), (iT (xI x)), a) 0) w : Int32)).toInt64 → Q (.inl (some (.int (nI 0)))) σ') : fEv g (d + 7) mL_would 0 (fent [.ref 0, .int a, .int (nI w), .ref 300] 5) [] σ Q := by
  show fEv g (d + 7) mL_would 0 [some (.ref 0), some (.int a), some (.int (nI w)), some (.ref 300), none] [] σ Q
  refine e_aload_n dL_would_0 rfl rfl ?_
  refine e_iconst (nI 0) dL_would_1 (by decide) ?_
  refine e_aload_n dL_would_2 rfl rfl ?_
  refine e_iload_n dL_would_3 rfl rfl ?_
  refine e_iload_n dL_would_4 rfl rfl ?_
  refine e_callV (k := 0) [.int a, .int (nI w)] dL_would_5 cc_X9_would lk_RL_56 im_X9_would se_X9_would (by decide) (Ms.s 0 rfl) (Ms.n (by decide)) rfl (Nat.le_of_ble_eq_true rfl) (Nat.le_of_ble_eq_true rfl) ?_
  refine t_X9_would Ms ok Ic hw (fun σ1 Sm1 Ic1 => fK_i ?_)
  have Ms1 := Ms.sm Sm1
  show fEv g _ mL_would 8 [some (.ref 0), some (.int a), some (.int (nI w)), some (.ref 300), none] [.int (vWould (xD x) (iS (xI x)) (mplan (xD x) (iP (xI x)) (ipn (xI x)) 0 ((iS (xI x)), (iT (xI x)), a) 0) w), .int (nI 0), .ref 300] σ1 Q
  refine e_i2l dL_would_8 ?_
  refine e_lastore 0 dL_would_9 (Ms1.s 300 rfl) (Ms1.n (by decide)) rfl (by omega) (by decide) ?_
  refine e_goto 17 dL_would_10 (by decide) ?_
  refine e_iconst (nI 0) dL_would_17 (by decide) ?_
  exact e_ireturn .int dL_would_18 rfl rfl (h _ ((Sm1.to (fun a (q : a < 89) => Or.inl q)).tr (fSm_J (A := fClB) (Or.inr rfl))) (Ic1.out ok) (by rw [fJ_J, if_pos ⟨rfl, rfl⟩]))
set_option maxRecDepth 20000 in
theorem t_L_wouldE {g : fGP} {d : Nat} {σ : fAH} {Q : fRes → fAH → Prop} {x : fXS} {a b : Int32} (Ms : fMs g σ) (ok : fOK x) (Ic : fIc σ x) (hv : ¬ (nI 0 ≤ b ∧ b ≤ nI 5)) (rm : fnx σ + fgb σ + 1 ≤ 601024 ∧ fsu σ + 6 ≤ 7293034) (h : Q (.inl (some (.int (nI 1)))) (fthr σ)) : fEv g (d + 2) mL_would 0 (fent [.ref 0, .int a, .int b, .ref 300] 5) [] σ Q := by
  show fEv g (d + 2) mL_would 0 [some (.ref 0), some (.int a), some (.int b), some (.ref 300), none] [] σ Q
  refine e_aload_n dL_would_0 rfl rfl ?_
  refine e_iconst (nI 0) dL_would_1 (by decide) ?_
  refine e_aload_n dL_would_2 rfl rfl ?_
  refine e_iload_n dL_would_3 rfl rfl ?_
  refine e_iload_n dL_would_4 rfl rfl ?_
  refine e_callV (k := 0) [.int a, .int b] dL_would_5 cc_X9_would lk_RL_56 im_X9_would se_X9_would (by decide) (Ms.s 0 rfl) (Ms.n (by decide)) rfl (Nat.le_of_ble_eq_true rfl) (Nat.le_of_ble_eq_true rfl) ?_
  refine t_X9_wouldE Ms ok Ic hv rm ?_
  refine t_catch (k := 4) (len := 2) (nm := "") [] (0, 10, 13, 13) [] rfl (fun z hz => absurd hz (List.not_mem_nil)) ⟨by decide, by decide⟩ (by decide) cl_RL_13 ca_RL_13 (by decide) (Or.inr ⟨dL_would_13, rfl⟩) rfl ?_
  show fEv g _ mL_would 15 [some (.ref 0), some (.int a), some (.int b), some (.ref 300), none] [] (fthr σ) Q
  refine e_iconst (nI 1) dL_would_15 (by decide) ?_
  exact e_ireturn .int dL_would_16 rfl rfl h
set_option maxRecDepth 20000 in
theorem t_L_promise {g : fGP} {d : Nat} {σ : fAH} {Q : fRes → fAH → Prop} {x : fXS} {a : Int32} {o many : Nat} (Ms : fMs g σ) (ok : fOK x) (Ic : fIc σ x) (ho : o < dT (xD x) 2) (hm : 1 ≤ many ∧ many ≤ 99) (h : ∀ σ', fSm fClB σ σ' → fIc σ' x → fJ σ' 300 0 = ((nI (mprm (xD x) (iP (xI x)) (ipn (xI x)) o (iS (xI x)) (iT (xI x)) a many 0 0) : Int32)).toInt64 → Q (.inl (some (.int (nI 0)))) σ') : fEv g (d + 7) mL_promise 0 (fent [.ref 0, .int (nI o), .int a, .int (nI many), .ref 300] 6) [] σ Q := by
  show fEv g (d + 7) mL_promise 0 [some (.ref 0), some (.int (nI o)), some (.int a), some (.int (nI many)), some (.ref 300), none] [] σ Q
  refine e_aload dL_promise_0 rfl ?_
  refine e_iconst (nI 0) dL_promise_2 (by decide) ?_
  refine e_aload_n dL_promise_3 rfl rfl ?_
  refine e_iload_n dL_promise_4 rfl rfl ?_
  refine e_iload_n dL_promise_5 rfl rfl ?_
  refine e_iload_n dL_promise_6 rfl rfl ?_
  refine e_callV (k := 0) [.int (nI o), .int a, .int (nI many)] dL_promise_7 cc_X9_promise lk_RL_59 im_X9_promise se_X9_promise (by decide) (Ms.s 0 rfl) (Ms.n (by decide)) rfl (Nat.le_of_ble_eq_true rfl) (Nat.le_of_ble_eq_true rfl) ?_
  refine t_X9_promise Ms ok Ic ho hm (fun σ1 Sm1 Ic1 => fK_i ?_)
  have Ms1 := Ms.sm Sm1
  show fEv g _ mL_promise 10 [some (.ref 0), some (.int (nI o)), some (.int a), some (.int (nI many)), some (.ref 300), none] [.int (nI (mprm (xD x) (iP (xI x)) (ipn (xI x)) o (iS (xI x)) (iT (xI x)) a many 0 0)), .int (nI 0), .ref 300] σ1 Q
  refine e_i2l dL_promise_10 ?_
  refine e_lastore 0 dL_promise_11 (Ms1.s 300 rfl) (Ms1.n (by decide)) rfl (by omega) (by decide) ?_
  refine e_goto 23 dL_promise_12 (by decide) ?_
  refine e_iconst (nI 0) dL_promise_23 (by decide) ?_
  exact e_ireturn .int dL_promise_24 rfl rfl (h _ ((Sm1.to (fun a (q : a < 89) => Or.inl q)).tr (fSm_J (A := fClB) (Or.inr rfl))) (Ic1.out ok) (by rw [fJ_J, if_pos ⟨rfl, rfl⟩]))
set_option maxRecDepth 20000 in
theorem t_L_promiseE1 {g : fGP} {d : Nat} {σ : fAH} {Q : fRes → fAH → Prop} {x : fXS} {a b c : Int32} (Ms : fMs g σ) (ok : fOK x) (Ic : fIc σ x) (hv : ¬ (nI 0 ≤ a ∧ a < nI (dT (xD x) 2))) (rm : fnx σ + fgb σ + 1 ≤ 601024 ∧ fsu σ + 6 ≤ 7293034) (h : Q (.inl (some (.int (nI 1)))) (fthr σ)) : fEv g (d + 2) mL_promise 0 (fent [.ref 0, .int a, .int b, .int c, .ref 300] 6) [] σ Q := by
  show fEv g (d + 2) mL_promise 0 [some (.ref 0), some (.int a), some (.int b), some (.int c), some (.ref 300), none] [] σ Q
  refine e_aload dL_promise_0 rfl ?_
  refine e_iconst (nI 0) dL_promise_2 (by decide) ?_
  refine e_aload_n dL_promise_3 rfl rfl ?_
  refine e_iload_n dL_promise_4 rfl rfl ?_
  refine e_iload_n dL_promise_5 rfl rfl ?_
  refine e_iload_n dL_promise_6 rfl rfl ?_
  refine e_callV (k := 0) [.int a, .int b, .int c] dL_promise_7 cc_X9_promise lk_RL_59 im_X9_promise se_X9_promise (by decide) (Ms.s 0 rfl) (Ms.n (by decide)) rfl (Nat.le_of_ble_eq_true rfl) (Nat.le_of_ble_eq_true rfl) ?_
  refine t_X9_promiseE1 Ms ok Ic hv rm ?_
  refine t_catch (k := 5) (len := 2) (nm := "") [] (0, 12, 15, 22) [(0, 12, 19, 13)] rfl (fun z hz => absurd hz (List.not_mem_nil)) ⟨by decide, by decide⟩ (by decide) cl_RL_22 ca_RL_22 (by decide) (Or.inr ⟨dL_promise_15, rfl⟩) rfl ?_
  show fEv g _ mL_promise 17 [some (.ref 0), some (.int a), some (.int b), some (.int c), some (.ref 300), none] [] (fthr σ) Q
  refine e_iconst (nI 1) dL_promise_17 (by decide) ?_
  exact e_ireturn .int dL_promise_18 rfl rfl h
set_option maxRecDepth 20000 in
theorem t_L_promiseE2 {g : fGP} {d : Nat} {σ : fAH} {Q : fRes → fAH → Prop} {x : fXS} {o : Nat} {b c : Int32} (Ms : fMs g σ) (ok : fOK x) (Ic : fIc σ x) (ho : o < dT (xD x) 2) (hv : ¬ (nI 1 ≤ c ∧ c ≤ nI 99)) (rm : fnx σ + fgb σ + 1 ≤ 601024 ∧ fsu σ + 6 ≤ 7293034) (h : Q (.inl (some (.int (nI 2)))) (fthr σ)) : fEv g (d + 2) mL_promise 0 (fent [.ref 0, .int (nI o), .int b, .int c, .ref 300] 6) [] σ Q := by
  show fEv g (d + 2) mL_promise 0 [some (.ref 0), some (.int (nI o)), some (.int b), some (.int c), some (.ref 300), none] [] σ Q
  refine e_aload dL_promise_0 rfl ?_
  refine e_iconst (nI 0) dL_promise_2 (by decide) ?_
  refine e_aload_n dL_promise_3 rfl rfl ?_
  refine e_iload_n dL_promise_4 rfl rfl ?_
  refine e_iload_n dL_promise_5 rfl rfl ?_
  refine e_iload_n dL_promise_6 rfl rfl ?_
  refine e_callV (k := 0) [.int (nI o), .int b, .int c] dL_promise_7 cc_X9_promise lk_RL_59 im_X9_promise se_X9_promise (by decide) (Ms.s 0 rfl) (Ms.n (by decide)) rfl (Nat.le_of_ble_eq_true rfl) (Nat.le_of_ble_eq_true rfl) ?_
  refine t_X9_promiseE2 Ms ok Ic ho hv rm ?_
  refine t_catch (k := 5) (len := 2) (nm := "") [(0, 12, 15, 22)] (0, 12, 19, 13) [] rfl (fun z hz => by rw [List.mem_singleton] at hz; subst hz; exact ⟨"java/util/NoSuchElementException", by decide, cl_RL_22, List.mem_of_getElem? (i := 0) rfl⟩) ⟨by decide, by decide⟩ (by decide) cl_RL_13 ca_RL_13 (by decide) (Or.inr ⟨dL_promise_19, rfl⟩) rfl ?_
  show fEv g _ mL_promise 21 [some (.ref 0), some (.int (nI o)), some (.int b), some (.int c), some (.ref 300), none] [] (fthr σ) Q
  refine e_iconst (nI 2) dL_promise_21 (by decide) ?_
  exact e_ireturn .int dL_promise_22 rfl rfl h
set_option maxRecDepth 20000 in
theorem t_L_tonight {g : fGP} {d : Nat} {σ : fAH} {Q : fRes → fAH → Prop} {x : fXS} (Ms : fMs g σ) (ok : fOK x) (Ic : fIc σ x) (hn : (iS (xI x)) 155 < 30) (h : ∀ σ', fSm fClB σ σ' → fIc σ' x → fJ σ' 300 0 = ((nI (mft (xD x) (iS (xI x))).2 : Int32)).toInt64 → Q (.inl (some (.int (nI 0)))) σ') : fEv g (d + 11) mL_tonight 0 (fent [.ref 0, .ref 300] 3) [] σ Q := by
  show fEv g (d + 11) mL_tonight 0 [some (.ref 0), some (.ref 300), none] [] σ Q
  refine e_aload_n dL_tonight_0 rfl rfl ?_
  refine e_iconst (nI 0) dL_tonight_1 (by decide) ?_
  refine e_aload_n dL_tonight_2 rfl rfl ?_
  refine e_callV (k := 0) [] dL_tonight_3 cc_X9_tonight lk_RL_62 im_X9_tonight se_X9_tonight (by decide) (Ms.s 0 rfl) (Ms.n (by decide)) rfl (Nat.le_of_ble_eq_true rfl) (Nat.le_of_ble_eq_true rfl) ?_
  refine t_X9_tonight Ms ok Ic hn (fun σ1 Sm1 Ic1 => fK_i ?_)
  have Ms1 := Ms.sm Sm1
  show fEv g _ mL_tonight 6 [some (.ref 0), some (.ref 300), none] [.int (nI (mft (xD x) (iS (xI x))).2), .int (nI 0), .ref 300] σ1 Q
  refine e_i2l dL_tonight_6 ?_
  refine e_lastore 0 dL_tonight_7 (Ms1.s 300 rfl) (Ms1.n (by decide)) rfl (by omega) (by decide) ?_
  refine e_goto 14 dL_tonight_8 (by decide) ?_
  refine e_iconst (nI 0) dL_tonight_14 (by decide) ?_
  exact e_ireturn .int dL_tonight_15 rfl rfl (h _ ((Sm1.to (fun a (q : a < 89) => Or.inl q)).tr (fSm_J (A := fClB) (Or.inr rfl))) (Ic1.out ok) (by rw [fJ_J, if_pos ⟨rfl, rfl⟩]))
set_option maxRecDepth 20000 in
theorem t_L_tonightE {g : fGP} {d : Nat} {σ : fAH} {Q : fRes → fAH → Prop} {x : fXS} (Ms : fMs g σ) (ok : fOK x) (Ic : fIc σ x) (hn : ¬ (iS (xI x)) 155 < 30) (rm : fnx σ + fgb σ + 1 ≤ 601024 ∧ fsu σ + 6 ≤ 7293034) (h : Q (.inl (some (.int (nI 1)))) (fthr σ)) : fEv g (d + 2) mL_tonight 0 (fent [.ref 0, .ref 300] 3) [] σ Q := by
  show fEv g (d + 2) mL_tonight 0 [some (.ref 0), some (.ref 300), none] [] σ Q
  refine e_aload_n dL_tonight_0 rfl rfl ?_
  refine e_iconst (nI 0) dL_tonight_1 (by decide) ?_
  refine e_aload_n dL_tonight_2 rfl rfl ?_
  refine e_callV (k := 0) [] dL_tonight_3 cc_X9_tonight lk_RL_62 im_X9_tonight se_X9_tonight (by decide) (Ms.s 0 rfl) (Ms.n (by decide)) rfl (Nat.le_of_ble_eq_true rfl) (Nat.le_of_ble_eq_true rfl) ?_
  refine t_X9_tonightE Ms ok Ic hn rm ?_
  refine t_catch (k := 2) (len := 1) (nm := "") [] (0, 8, 11, 38) [] rfl (fun z hz => absurd hz (List.not_mem_nil)) ⟨by decide, by decide⟩ (by decide) cl_RL_38 ca_RL_38 (by decide) (Or.inl ⟨2, rfl, dL_tonight_11, rfl⟩) rfl ?_
  show fEv g _ mL_tonight 12 [some (.ref 0), some (.ref 300), none] [] (fthr σ) Q
  refine e_iconst (nI 1) dL_tonight_12 (by decide) ?_
  exact e_ireturn .int dL_tonight_13 rfl rfl h
set_option maxRecDepth 20000 in
theorem t_L_worth {g : fGP} {d : Nat} {σ : fAH} {Q : fRes → fAH → Prop} {x : fXS} {w : Nat} (Ms : fMs g σ) (ok : fOK x) (Ic : fIc σ x) (hw : w ≤ 1) (hn : (iS (xI x)) 155 < 30) (h : ∀ σ', fSm fClB σ σ' → fIc σ' x → fJ σ' 300 0 = vWor (xD x) (iS (xI x)) w → Q (.inl (some (.int (nI 0)))) σ') : fEv g (d + 11) mL_worth 0 (fent [.ref 0, .int (nI w), .ref 300] 4) [] σ Q := by
  show fEv g (d + 11) mL_worth 0 [some (.ref 0), some (.int (nI w)), some (.ref 300), none] [] σ Q
  refine e_aload_n dL_worth_0 rfl rfl ?_
  refine e_iconst (nI 0) dL_worth_1 (by decide) ?_
  refine e_aload_n dL_worth_2 rfl rfl ?_
  refine e_iload_n dL_worth_3 rfl rfl ?_
  refine e_callV (k := 0) [.int (nI w)] dL_worth_4 cc_X9_worth lk_RL_66 im_X9_worth se_X9_worth (by decide) (Ms.s 0 rfl) (Ms.n (by decide)) rfl (Nat.le_of_ble_eq_true rfl) (Nat.le_of_ble_eq_true rfl) ?_
  refine t_X9_worth Ms ok Ic hw hn (fun σ1 Sm1 Ic1 => fK_i ?_)
  have Ms1 := Ms.sm Sm1
  show fEv g _ mL_worth 7 [some (.ref 0), some (.int (nI w)), some (.ref 300), none] [.long (vWor (xD x) (iS (xI x)) w), .int (nI 0), .ref 300] σ1 Q
  refine e_lastore 0 dL_worth_7 (Ms1.s 300 rfl) (Ms1.n (by decide)) rfl (by omega) (by decide) ?_
  refine e_goto 17 dL_worth_8 (by decide) ?_
  refine e_iconst (nI 0) dL_worth_17 (by decide) ?_
  exact e_ireturn .int dL_worth_18 rfl rfl (h _ ((Sm1.to (fun a (q : a < 89) => Or.inl q)).tr (fSm_J (A := fClB) (Or.inr rfl))) (Ic1.out ok) (by rw [fJ_J, if_pos ⟨rfl, rfl⟩]))
set_option maxRecDepth 20000 in
theorem t_L_worthE1 {g : fGP} {d : Nat} {σ : fAH} {Q : fRes → fAH → Prop} {x : fXS} {b : Int32} (Ms : fMs g σ) (ok : fOK x) (Ic : fIc σ x) (hv : ¬ (nI 0 ≤ b ∧ b ≤ nI 1)) (rm : fnx σ + fgb σ + 1 ≤ 601024 ∧ fsu σ + 6 ≤ 7293034) (h : Q (.inl (some (.int (nI 1)))) (fthr σ)) : fEv g (d + 2) mL_worth 0 (fent [.ref 0, .int b, .ref 300] 4) [] σ Q := by
  show fEv g (d + 2) mL_worth 0 [some (.ref 0), some (.int b), some (.ref 300), none] [] σ Q
  refine e_aload_n dL_worth_0 rfl rfl ?_
  refine e_iconst (nI 0) dL_worth_1 (by decide) ?_
  refine e_aload_n dL_worth_2 rfl rfl ?_
  refine e_iload_n dL_worth_3 rfl rfl ?_
  refine e_callV (k := 0) [.int b] dL_worth_4 cc_X9_worth lk_RL_66 im_X9_worth se_X9_worth (by decide) (Ms.s 0 rfl) (Ms.n (by decide)) rfl (Nat.le_of_ble_eq_true rfl) (Nat.le_of_ble_eq_true rfl) ?_
  refine t_X9_worthE1 Ms ok Ic hv rm ?_
  refine t_catch (k := 3) (len := 1) (nm := "") [] (0, 8, 11, 13) [(0, 8, 14, 38)] rfl (fun z hz => absurd hz (List.not_mem_nil)) ⟨by decide, by decide⟩ (by decide) cl_RL_13 ca_RL_13 (by decide) (Or.inl ⟨3, rfl, dL_worth_11, rfl⟩) rfl ?_
  show fEv g _ mL_worth 12 [some (.ref 0), some (.int b), some (.ref 300), none] [] (fthr σ) Q
  refine e_iconst (nI 1) dL_worth_12 (by decide) ?_
  exact e_ireturn .int dL_worth_13 rfl rfl h
set_option maxRecDepth 20000 in
theorem t_L_worthE2 {g : fGP} {d : Nat} {σ : fAH} {Q : fRes → fAH → Prop} {x : fXS} {w : Nat} (Ms : fMs g σ) (ok : fOK x) (Ic : fIc σ x) (hw : w ≤ 1) (hn : ¬ (iS (xI x)) 155 < 30) (rm : fnx σ + fgb σ + 1 ≤ 601024 ∧ fsu σ + 6 ≤ 7293034) (h : Q (.inl (some (.int (nI 2)))) (fthr σ)) : fEv g (d + 2) mL_worth 0 (fent [.ref 0, .int (nI w), .ref 300] 4) [] σ Q := by
  show fEv g (d + 2) mL_worth 0 [some (.ref 0), some (.int (nI w)), some (.ref 300), none] [] σ Q
  refine e_aload_n dL_worth_0 rfl rfl ?_
  refine e_iconst (nI 0) dL_worth_1 (by decide) ?_
  refine e_aload_n dL_worth_2 rfl rfl ?_
  refine e_iload_n dL_worth_3 rfl rfl ?_
  refine e_callV (k := 0) [.int (nI w)] dL_worth_4 cc_X9_worth lk_RL_66 im_X9_worth se_X9_worth (by decide) (Ms.s 0 rfl) (Ms.n (by decide)) rfl (Nat.le_of_ble_eq_true rfl) (Nat.le_of_ble_eq_true rfl) ?_
  refine t_X9_worthE2 Ms ok Ic hw hn rm ?_
  refine t_catch (k := 3) (len := 1) (nm := "") [(0, 8, 11, 13)] (0, 8, 14, 38) [] rfl (fun z hz => by rw [List.mem_singleton] at hz; subst hz; exact ⟨"java/lang/IllegalArgumentException", by decide, cl_RL_13, List.mem_of_getElem? (i := 2) rfl⟩) ⟨by decide, by decide⟩ (by decide) cl_RL_38 ca_RL_38 (by decide) (Or.inl ⟨3, rfl, dL_worth_14, rfl⟩) rfl ?_
  show fEv g _ mL_worth 15 [some (.ref 0), some (.int (nI w)), some (.ref 300), none] [] (fthr σ) Q
  refine e_iconst (nI 2) dL_worth_15 (by decide) ?_
  exact e_ireturn .int dL_worth_16 rfl rfl h
set_option maxRecDepth 20000 in
theorem t_L_now {g : fGP} {d : Nat} {σ : fAH} {Q : fRes → fAH → Prop} {x : fXS} {f w : Nat} (Ms : fMs g σ) (ok : fOK x) (Ic : fIc σ x) (hf : f < 4096) (hv1 : nI f &&& (nI (mfa (mal (xD x) (iS (xI x))) 12 (dT (xD x) 1) 0 0) ^^^ (-1)) = 0) (hv2 : mon f 12 0 ≤ dT (xD x) 3) (hfz : ∀ j, dT (xD x) 1 ≤ j → f / 2 ^ j % 2 = 0) (h6 : mon f 12 0 ≤ 6) (hw : w ≤ 1) (hn : (iS (xI x)) 155 < 30) (h : ∀ σ', fSm fClB σ σ' → fIc σ' x → fJ σ' 300 0 = vNow (xD x) (iS (xI x)) f w → Q (.inl (some (.int (nI 0)))) σ') : fEv g (d + 7) mL_now 0 (fent [.ref 0, .int (nI f), .int (nI w), .ref 300] 5) [] σ Q := by
  show fEv g (d + 7) mL_now 0 [some (.ref 0), some (.int (nI f)), some (.int (nI w)), some (.ref 300), none] [] σ Q
  refine e_aload_n dL_now_0 rfl rfl ?_
  refine e_iconst (nI 0) dL_now_1 (by decide) ?_
  refine e_aload_n dL_now_2 rfl rfl ?_
  refine e_iload_n dL_now_3 rfl rfl ?_
  refine e_iload_n dL_now_4 rfl rfl ?_
  refine e_callV (k := 0) [.int (nI f), .int (nI w)] dL_now_5 cc_X9_now lk_RL_70 im_X9_now se_X9_now (by decide) (Ms.s 0 rfl) (Ms.n (by decide)) rfl (Nat.le_of_ble_eq_true rfl) (Nat.le_of_ble_eq_true rfl) ?_
  refine t_X9_now Ms ok Ic hf hv1 hv2 hfz h6 hw hn (fun σ1 Sm1 Ic1 => fK_i ?_)
  have Ms1 := Ms.sm Sm1
  show fEv g _ mL_now 8 [some (.ref 0), some (.int (nI f)), some (.int (nI w)), some (.ref 300), none] [.long (vNow (xD x) (iS (xI x)) f w), .int (nI 0), .ref 300] σ1 Q
  refine e_lastore 0 dL_now_8 (Ms1.s 300 rfl) (Ms1.n (by decide)) rfl (by omega) (by decide) ?_
  refine e_goto 20 dL_now_9 (by decide) ?_
  refine e_iconst (nI 0) dL_now_20 (by decide) ?_
  exact e_ireturn .int dL_now_21 rfl rfl (h _ ((Sm1.to (fun a (q : a < 89) => Or.inl q)).tr (fSm_J (A := fClB) (Or.inr rfl))) (Ic1.out ok) (by rw [fJ_J, if_pos ⟨rfl, rfl⟩]))
set_option maxRecDepth 20000 in
theorem t_L_nowE1 {g : fGP} {d : Nat} {σ : fAH} {Q : fRes → fAH → Prop} {x : fXS} {a b : Int32} (Ms : fMs g σ) (ok : fOK x) (Ic : fIc σ x) (hv1 : ¬ a &&& (nI (mfa (mal (xD x) (iS (xI x))) 12 (dT (xD x) 1) 0 0) ^^^ (-1)) = 0) (rm : fnx σ + fgb σ + 1 ≤ 601024 ∧ fsu σ + 6 ≤ 7293034) (h : Q (.inl (some (.int (nI 1)))) (fthr σ)) : fEv g (d + 6) mL_now 0 (fent [.ref 0, .int a, .int b, .ref 300] 5) [] σ Q := by
  show fEv g (d + 6) mL_now 0 [some (.ref 0), some (.int a), some (.int b), some (.ref 300), none] [] σ Q
  refine e_aload_n dL_now_0 rfl rfl ?_
  refine e_iconst (nI 0) dL_now_1 (by decide) ?_
  refine e_aload_n dL_now_2 rfl rfl ?_
  refine e_iload_n dL_now_3 rfl rfl ?_
  refine e_iload_n dL_now_4 rfl rfl ?_
  refine e_callV (k := 0) [.int a, .int b] dL_now_5 cc_X9_now lk_RL_70 im_X9_now se_X9_now (by decide) (Ms.s 0 rfl) (Ms.n (by decide)) rfl (Nat.le_of_ble_eq_true rfl) (Nat.le_of_ble_eq_true rfl) ?_
  refine t_X9_nowE1 Ms ok Ic hv1 rm ?_
  refine t_catch (k := 4) (len := 2) (nm := "") [] (0, 9, 12, 13) [(0, 9, 16, 38)] rfl (fun z hz => absurd hz (List.not_mem_nil)) ⟨by decide, by decide⟩ (by decide) cl_RL_13 ca_RL_13 (by decide) (Or.inr ⟨dL_now_12, rfl⟩) rfl ?_
  show fEv g _ mL_now 14 [some (.ref 0), some (.int a), some (.int b), some (.ref 300), none] [] (fthr σ) Q
  refine e_iconst (nI 1) dL_now_14 (by decide) ?_
  exact e_ireturn .int dL_now_15 rfl rfl h
set_option maxRecDepth 20000 in
theorem t_L_nowE2 {g : fGP} {d : Nat} {σ : fAH} {Q : fRes → fAH → Prop} {x : fXS} {f : Nat} {b : Int32} (Ms : fMs g σ) (ok : fOK x) (Ic : fIc σ x) (hf : f < 4096) (hv1 : nI f &&& (nI (mfa (mal (xD x) (iS (xI x))) 12 (dT (xD x) 1) 0 0) ^^^ (-1)) = 0) (hv2 : ¬ mon f 12 0 ≤ dT (xD x) 3) (rm : fnx σ + fgb σ + 1 ≤ 601024 ∧ fsu σ + 6 ≤ 7293034) (h : Q (.inl (some (.int (nI 1)))) (fthr σ)) : fEv g (d + 6) mL_now 0 (fent [.ref 0, .int (nI f), .int b, .ref 300] 5) [] σ Q := by
  show fEv g (d + 6) mL_now 0 [some (.ref 0), some (.int (nI f)), some (.int b), some (.ref 300), none] [] σ Q
  refine e_aload_n dL_now_0 rfl rfl ?_
  refine e_iconst (nI 0) dL_now_1 (by decide) ?_
  refine e_aload_n dL_now_2 rfl rfl ?_
  refine e_iload_n dL_now_3 rfl rfl ?_
  refine e_iload_n dL_now_4 rfl rfl ?_
  refine e_callV (k := 0) [.int (nI f), .int b] dL_now_5 cc_X9_now lk_RL_70 im_X9_now se_X9_now (by decide) (Ms.s 0 rfl) (Ms.n (by decide)) rfl (Nat.le_of_ble_eq_true rfl) (Nat.le_of_ble_eq_true rfl) ?_
  refine t_X9_nowE2 Ms ok Ic hf hv1 hv2 rm ?_
  refine t_catch (k := 4) (len := 2) (nm := "") [] (0, 9, 12, 13) [(0, 9, 16, 38)] rfl (fun z hz => absurd hz (List.not_mem_nil)) ⟨by decide, by decide⟩ (by decide) cl_RL_13 ca_RL_13 (by decide) (Or.inr ⟨dL_now_12, rfl⟩) rfl ?_
  show fEv g _ mL_now 14 [some (.ref 0), some (.int (nI f)), some (.int b), some (.ref 300), none] [] (fthr σ) Q
  refine e_iconst (nI 1) dL_now_14 (by decide) ?_
  exact e_ireturn .int dL_now_15 rfl rfl h
set_option maxRecDepth 20000 in
theorem t_L_nowE3 {g : fGP} {d : Nat} {σ : fAH} {Q : fRes → fAH → Prop} {x : fXS} {f : Nat} {b : Int32} (Ms : fMs g σ) (ok : fOK x) (Ic : fIc σ x) (hf : f < 4096) (hv1 : nI f &&& (nI (mfa (mal (xD x) (iS (xI x))) 12 (dT (xD x) 1) 0 0) ^^^ (-1)) = 0) (hv2 : mon f 12 0 ≤ dT (xD x) 3) (hv : ¬ mon f 12 0 ≤ 6) (rm : fnx σ + fgb σ + 1 ≤ 601024 ∧ fsu σ + 6 ≤ 7293034) (h : Q (.inl (some (.int (nI 1)))) (fthr σ)) : fEv g (d + 6) mL_now 0 (fent [.ref 0, .int (nI f), .int b, .ref 300] 5) [] σ Q := by
  show fEv g (d + 6) mL_now 0 [some (.ref 0), some (.int (nI f)), some (.int b), some (.ref 300), none] [] σ Q
  refine e_aload_n dL_now_0 rfl rfl ?_
  refine e_iconst (nI 0) dL_now_1 (by decide) ?_
  refine e_aload_n dL_now_2 rfl rfl ?_
  refine e_iload_n dL_now_3 rfl rfl ?_
  refine e_iload_n dL_now_4 rfl rfl ?_
  refine e_callV (k := 0) [.int (nI f), .int b] dL_now_5 cc_X9_now lk_RL_70 im_X9_now se_X9_now (by decide) (Ms.s 0 rfl) (Ms.n (by decide)) rfl (Nat.le_of_ble_eq_true rfl) (Nat.le_of_ble_eq_true rfl) ?_
  refine t_X9_nowE3 Ms ok Ic hf hv1 hv2 hv rm ?_
  refine t_catch (k := 4) (len := 2) (nm := "") [] (0, 9, 12, 13) [(0, 9, 16, 38)] rfl (fun z hz => absurd hz (List.not_mem_nil)) ⟨by decide, by decide⟩ (by decide) cl_RL_13 ca_RL_13 (by decide) (Or.inr ⟨dL_now_12, rfl⟩) rfl ?_
  show fEv g _ mL_now 14 [some (.ref 0), some (.int (nI f)), some (.int b), some (.ref 300), none] [] (fthr σ) Q
  refine e_iconst (nI 1) dL_now_14 (by decide) ?_
  exact e_ireturn .int dL_now_15 rfl rfl h
set_option maxRecDepth 20000 in
theorem t_L_nowE4 {g : fGP} {d : Nat} {σ : fAH} {Q : fRes → fAH → Prop} {x : fXS} {f : Nat} {b : Int32} (Ms : fMs g σ) (ok : fOK x) (Ic : fIc σ x) (hf : f < 4096) (hv1 : nI f &&& (nI (mfa (mal (xD x) (iS (xI x))) 12 (dT (xD x) 1) 0 0) ^^^ (-1)) = 0) (hv2 : mon f 12 0 ≤ dT (xD x) 3) (h6 : mon f 12 0 ≤ 6) (hv : ¬ (nI 0 ≤ b ∧ b ≤ nI 1)) (rm : fnx σ + fgb σ + 1 ≤ 601024 ∧ fsu σ + 6 ≤ 7293034) (h : Q (.inl (some (.int (nI 1)))) (fthr σ)) : fEv g (d + 6) mL_now 0 (fent [.ref 0, .int (nI f), .int b, .ref 300] 5) [] σ Q := by
  show fEv g (d + 6) mL_now 0 [some (.ref 0), some (.int (nI f)), some (.int b), some (.ref 300), none] [] σ Q
  refine e_aload_n dL_now_0 rfl rfl ?_
  refine e_iconst (nI 0) dL_now_1 (by decide) ?_
  refine e_aload_n dL_now_2 rfl rfl ?_
  refine e_iload_n dL_now_3 rfl rfl ?_
  refine e_iload_n dL_now_4 rfl rfl ?_
  refine e_callV (k := 0) [.int (nI f), .int b] dL_now_5 cc_X9_now lk_RL_70 im_X9_now se_X9_now (by decide) (Ms.s 0 rfl) (Ms.n (by decide)) rfl (Nat.le_of_ble_eq_true rfl) (Nat.le_of_ble_eq_true rfl) ?_
  refine t_X9_nowE4 Ms ok Ic hf hv1 hv2 h6 hv rm ?_
  refine t_catch (k := 4) (len := 2) (nm := "") [] (0, 9, 12, 13) [(0, 9, 16, 38)] rfl (fun z hz => absurd hz (List.not_mem_nil)) ⟨by decide, by decide⟩ (by decide) cl_RL_13 ca_RL_13 (by decide) (Or.inr ⟨dL_now_12, rfl⟩) rfl ?_
  show fEv g _ mL_now 14 [some (.ref 0), some (.int (nI f)), some (.int b), some (.ref 300), none] [] (fthr σ) Q
  refine e_iconst (nI 1) dL_now_14 (by decide) ?_
  exact e_ireturn .int dL_now_15 rfl rfl h
set_option maxRecDepth 20000 in
theorem t_L_nowE5 {g : fGP} {d : Nat} {σ : fAH} {Q : fRes → fAH → Prop} {x : fXS} {f w : Nat} (Ms : fMs g σ) (ok : fOK x) (Ic : fIc σ x) (hf : f < 4096) (hv1 : nI f &&& (nI (mfa (mal (xD x) (iS (xI x))) 12 (dT (xD x) 1) 0 0) ^^^ (-1)) = 0) (hv2 : mon f 12 0 ≤ dT (xD x) 3) (h6 : mon f 12 0 ≤ 6) (hw : w ≤ 1) (hn : ¬ (iS (xI x)) 155 < 30) (rm : fnx σ + fgb σ + 1 ≤ 601024 ∧ fsu σ + 6 ≤ 7293034) (h : Q (.inl (some (.int (nI 2)))) (fthr σ)) : fEv g (d + 6) mL_now 0 (fent [.ref 0, .int (nI f), .int (nI w), .ref 300] 5) [] σ Q := by
  show fEv g (d + 6) mL_now 0 [some (.ref 0), some (.int (nI f)), some (.int (nI w)), some (.ref 300), none] [] σ Q
  refine e_aload_n dL_now_0 rfl rfl ?_
  refine e_iconst (nI 0) dL_now_1 (by decide) ?_
  refine e_aload_n dL_now_2 rfl rfl ?_
  refine e_iload_n dL_now_3 rfl rfl ?_
  refine e_iload_n dL_now_4 rfl rfl ?_
  refine e_callV (k := 0) [.int (nI f), .int (nI w)] dL_now_5 cc_X9_now lk_RL_70 im_X9_now se_X9_now (by decide) (Ms.s 0 rfl) (Ms.n (by decide)) rfl (Nat.le_of_ble_eq_true rfl) (Nat.le_of_ble_eq_true rfl) ?_
  refine t_X9_nowE5 Ms ok Ic hf hv1 hv2 h6 hw hn rm ?_
  refine t_catch (k := 4) (len := 2) (nm := "") [(0, 9, 12, 13)] (0, 9, 16, 38) [] rfl (fun z hz => by rw [List.mem_singleton] at hz; subst hz; exact ⟨"java/lang/IllegalArgumentException", by decide, cl_RL_13, List.mem_of_getElem? (i := 2) rfl⟩) ⟨by decide, by decide⟩ (by decide) cl_RL_38 ca_RL_38 (by decide) (Or.inr ⟨dL_now_16, rfl⟩) rfl ?_
  show fEv g _ mL_now 18 [some (.ref 0), some (.int (nI f)), some (.int (nI w)), some (.ref 300), none] [] (fthr σ) Q
  refine e_iconst (nI 2) dL_now_18 (by decide) ?_
  exact e_ireturn .int dL_now_19 rfl rfl h
set_option maxRecDepth 20000 in
theorem t_L_deeper {g : fGP} {d : Nat} {σ : fAH} {Q : fRes → fAH → Prop} {x : fXS} (Ms : fMs g σ) (ok : fOK x) (Ic : fIc σ x) (hn : (iS (xI x)) 155 < 30) (h : ∀ σ', fSm fClB σ σ' → fIc σ' x → fJ σ' 300 0 = ((mo (mdpr (xD x) (iS (xI x)) (dT (xD x) 1) 0 none none) : Int32)).toInt64 → Q (.inl (some (.int (nI 0)))) σ') : fEv g (d + 11) mL_deeper 0 (fent [.ref 0, .ref 300] 3) [] σ Q := by
  show fEv g (d + 11) mL_deeper 0 [some (.ref 0), some (.ref 300), none] [] σ Q
  refine e_aload_n dL_deeper_0 rfl rfl ?_
  refine e_iconst (nI 0) dL_deeper_1 (by decide) ?_
  refine e_aload_n dL_deeper_2 rfl rfl ?_
  refine e_callV (k := 0) [] dL_deeper_3 cc_X9_deeper lk_RL_74 im_X9_deeper se_X9_deeper (by decide) (Ms.s 0 rfl) (Ms.n (by decide)) rfl (Nat.le_of_ble_eq_true rfl) (Nat.le_of_ble_eq_true rfl) ?_
  refine t_X9_deeper Ms ok Ic hn (fun σ1 Sm1 Ic1 => fK_i ?_)
  have Ms1 := Ms.sm Sm1
  show fEv g _ mL_deeper 6 [some (.ref 0), some (.ref 300), none] [.int (mo (mdpr (xD x) (iS (xI x)) (dT (xD x) 1) 0 none none)), .int (nI 0), .ref 300] σ1 Q
  refine e_i2l dL_deeper_6 ?_
  refine e_lastore 0 dL_deeper_7 (Ms1.s 300 rfl) (Ms1.n (by decide)) rfl (by omega) (by decide) ?_
  refine e_goto 14 dL_deeper_8 (by decide) ?_
  refine e_iconst (nI 0) dL_deeper_14 (by decide) ?_
  exact e_ireturn .int dL_deeper_15 rfl rfl (h _ ((Sm1.to (fun a (q : a < 89) => Or.inl q)).tr (fSm_J (A := fClB) (Or.inr rfl))) (Ic1.out ok) (by rw [fJ_J, if_pos ⟨rfl, rfl⟩]))
set_option maxRecDepth 20000 in
theorem t_L_deeperE {g : fGP} {d : Nat} {σ : fAH} {Q : fRes → fAH → Prop} {x : fXS} (Ms : fMs g σ) (ok : fOK x) (Ic : fIc σ x) (hn : ¬ (iS (xI x)) 155 < 30) (rm : fnx σ + fgb σ + 1 ≤ 601024 ∧ fsu σ + 6 ≤ 7293034) (h : Q (.inl (some (.int (nI 1)))) (fthr σ)) : fEv g (d + 2) mL_deeper 0 (fent [.ref 0, .ref 300] 3) [] σ Q := by
  show fEv g (d + 2) mL_deeper 0 [some (.ref 0), some (.ref 300), none] [] σ Q
  refine e_aload_n dL_deeper_0 rfl rfl ?_
  refine e_iconst (nI 0) dL_deeper_1 (by decide) ?_
  refine e_aload_n dL_deeper_2 rfl rfl ?_
  refine e_callV (k := 0) [] dL_deeper_3 cc_X9_deeper lk_RL_74 im_X9_deeper se_X9_deeper (by decide) (Ms.s 0 rfl) (Ms.n (by decide)) rfl (Nat.le_of_ble_eq_true rfl) (Nat.le_of_ble_eq_true rfl) ?_
  refine t_X9_deeperE Ms ok Ic hn rm ?_
  refine t_catch (k := 2) (len := 1) (nm := "") [] (0, 8, 11, 38) [] rfl (fun z hz => absurd hz (List.not_mem_nil)) ⟨by decide, by decide⟩ (by decide) cl_RL_38 ca_RL_38 (by decide) (Or.inl ⟨2, rfl, dL_deeper_11, rfl⟩) rfl ?_
  show fEv g _ mL_deeper 12 [some (.ref 0), some (.ref 300), none] [] (fthr σ) Q
  refine e_iconst (nI 1) dL_deeper_12 (by decide) ?_
  exact e_ireturn .int dL_deeper_13 rfl rfl h
set_option maxRecDepth 20000 in
theorem t_L_trust {g : fGP} {d : Nat} {σ : fAH} {Q : fRes → fAH → Prop} {x : fXS} {s9 w : Nat} (Ms : fMs g σ) (ok : fOK x) (Ic : fIc σ x) (hs : s9 ≤ 1) (hw : w ≤ 1) (h : ∀ σ', fSm fClB σ σ' → fIc σ' x → fJ σ' 300 0 = ((vTru (xI x) s9 w : Int32)).toInt64 → Q (.inl (some (.int (nI 0)))) σ') : fEv g (d + 3) mL_trust 0 (fent [.ref 0, .int (nI s9), .int (nI w), .ref 300] 5) [] σ Q := by
  show fEv g (d + 3) mL_trust 0 [some (.ref 0), some (.int (nI s9)), some (.int (nI w)), some (.ref 300), none] [] σ Q
  refine e_aload_n dL_trust_0 rfl rfl ?_
  refine e_iconst (nI 0) dL_trust_1 (by decide) ?_
  refine e_aload_n dL_trust_2 rfl rfl ?_
  refine e_iload_n dL_trust_3 rfl rfl ?_
  refine e_iload_n dL_trust_4 rfl rfl ?_
  refine e_callV (k := 0) [.int (nI s9), .int (nI w)] dL_trust_5 cc_X9_trust lk_RL_77 im_X9_trust se_X9_trust (by decide) (Ms.s 0 rfl) (Ms.n (by decide)) rfl (Nat.le_of_ble_eq_true rfl) (Nat.le_of_ble_eq_true rfl) ?_
  refine t_X9_trust Ms ok Ic hs hw (fK_i ?_)
  show fEv g _ mL_trust 8 [some (.ref 0), some (.int (nI s9)), some (.int (nI w)), some (.ref 300), none] [.int (vTru (xI x) s9 w), .int (nI 0), .ref 300] σ Q
  refine e_i2l dL_trust_8 ?_
  refine e_lastore 0 dL_trust_9 (Ms.s 300 rfl) (Ms.n (by decide)) rfl (by omega) (by decide) ?_
  refine e_goto 17 dL_trust_10 (by decide) ?_
  refine e_iconst (nI 0) dL_trust_17 (by decide) ?_
  exact e_ireturn .int dL_trust_18 rfl rfl (h _ ((fSm_J (A := fClB) (Or.inr rfl))) (Ic.out ok) (by rw [fJ_J, if_pos ⟨rfl, rfl⟩]))
set_option maxRecDepth 20000 in
theorem t_L_trustE {g : fGP} {d : Nat} {σ : fAH} {Q : fRes → fAH → Prop} {x : fXS} {s9 : Nat} {b : Int32} (Ms : fMs g σ) (ok : fOK x) (Ic : fIc σ x) (hv : ¬ (nI 0 ≤ b ∧ b ≤ nI 1)) (rm : fnx σ + fgb σ + 1 ≤ 601024 ∧ fsu σ + 6 ≤ 7293034) (h : Q (.inl (some (.int (nI 1)))) (fthr σ)) : fEv g (d + 2) mL_trust 0 (fent [.ref 0, .int (nI s9), .int b, .ref 300] 5) [] σ Q := by
  show fEv g (d + 2) mL_trust 0 [some (.ref 0), some (.int (nI s9)), some (.int b), some (.ref 300), none] [] σ Q
  refine e_aload_n dL_trust_0 rfl rfl ?_
  refine e_iconst (nI 0) dL_trust_1 (by decide) ?_
  refine e_aload_n dL_trust_2 rfl rfl ?_
  refine e_iload_n dL_trust_3 rfl rfl ?_
  refine e_iload_n dL_trust_4 rfl rfl ?_
  refine e_callV (k := 0) [.int (nI s9), .int b] dL_trust_5 cc_X9_trust lk_RL_77 im_X9_trust se_X9_trust (by decide) (Ms.s 0 rfl) (Ms.n (by decide)) rfl (Nat.le_of_ble_eq_true rfl) (Nat.le_of_ble_eq_true rfl) ?_
  refine t_X9_trustE Ms ok Ic hv rm ?_
  refine t_catch (k := 4) (len := 2) (nm := "") [] (0, 10, 13, 13) [] rfl (fun z hz => absurd hz (List.not_mem_nil)) ⟨by decide, by decide⟩ (by decide) cl_RL_13 ca_RL_13 (by decide) (Or.inr ⟨dL_trust_13, rfl⟩) rfl ?_
  show fEv g _ mL_trust 15 [some (.ref 0), some (.int (nI s9)), some (.int b), some (.ref 300), none] [] (fthr σ) Q
  refine e_iconst (nI 1) dL_trust_15 (by decide) ?_
  exact e_ireturn .int dL_trust_16 rfl rfl h
set_option maxRecDepth 20000 in
theorem t_L_face {g : fGP} {d : Nat} {σ : fAH} {Q : fRes → fAH → Prop} {x : fXS} {k : Nat} (Ms : fMs g σ) (ok : fOK x) (Ic : fIc σ x) (hk : k < dT (xD x) 1) (h : ∀ σ', fSm fClB σ σ' → fIc σ' x → fJ σ' 300 0 = ((mfc (iT (xI x)) (mneed (xD x) (iS (xI x)) k) ((iS (xI x)) 155) 0 (nI 0) : Int32)).toInt64 → Q (.inl (some (.int (nI 0)))) σ') : fEv g (d + 3) mL_face 0 (fent [.ref 0, .int (nI k), .ref 300] 4) [] σ Q := by
  show fEv g (d + 3) mL_face 0 [some (.ref 0), some (.int (nI k)), some (.ref 300), none] [] σ Q
  refine e_aload_n dL_face_0 rfl rfl ?_
  refine e_iconst (nI 0) dL_face_1 (by decide) ?_
  refine e_aload_n dL_face_2 rfl rfl ?_
  refine e_iload_n dL_face_3 rfl rfl ?_
  refine e_callV (k := 0) [.int (nI k)] dL_face_4 cc_X9_face lk_RL_81 im_X9_face se_X9_face (by decide) (Ms.s 0 rfl) (Ms.n (by decide)) rfl (Nat.le_of_ble_eq_true rfl) (Nat.le_of_ble_eq_true rfl) ?_
  refine t_X9_face Ms ok Ic hk (fK_i ?_)
  show fEv g _ mL_face 7 [some (.ref 0), some (.int (nI k)), some (.ref 300), none] [.int (mfc (iT (xI x)) (mneed (xD x) (iS (xI x)) k) ((iS (xI x)) 155) 0 (nI 0)), .int (nI 0), .ref 300] σ Q
  refine e_i2l dL_face_7 ?_
  refine e_lastore 0 dL_face_8 (Ms.s 300 rfl) (Ms.n (by decide)) rfl (by omega) (by decide) ?_
  refine e_goto 15 dL_face_9 (by decide) ?_
  refine e_iconst (nI 0) dL_face_15 (by decide) ?_
  exact e_ireturn .int dL_face_16 rfl rfl (h _ ((fSm_J (A := fClB) (Or.inr rfl))) (Ic.out ok) (by rw [fJ_J, if_pos ⟨rfl, rfl⟩]))
set_option maxRecDepth 20000 in
theorem t_L_faceE {g : fGP} {d : Nat} {σ : fAH} {Q : fRes → fAH → Prop} {x : fXS} {a : Int32} (Ms : fMs g σ) (ok : fOK x) (Ic : fIc σ x) (hv : ¬ (nI 0 ≤ a ∧ a < nI (dT (xD x) 1))) (rm : fnx σ + fgb σ + 1 ≤ 601024 ∧ fsu σ + 6 ≤ 7293034) (h : Q (.inl (some (.int (nI 1)))) (fthr σ)) : fEv g (d + 2) mL_face 0 (fent [.ref 0, .int a, .ref 300] 4) [] σ Q := by
  show fEv g (d + 2) mL_face 0 [some (.ref 0), some (.int a), some (.ref 300), none] [] σ Q
  refine e_aload_n dL_face_0 rfl rfl ?_
  refine e_iconst (nI 0) dL_face_1 (by decide) ?_
  refine e_aload_n dL_face_2 rfl rfl ?_
  refine e_iload_n dL_face_3 rfl rfl ?_
  refine e_callV (k := 0) [.int a] dL_face_4 cc_X9_face lk_RL_81 im_X9_face se_X9_face (by decide) (Ms.s 0 rfl) (Ms.n (by decide)) rfl (Nat.le_of_ble_eq_true rfl) (Nat.le_of_ble_eq_true rfl) ?_
  refine t_X9_faceE Ms ok Ic hv rm ?_
  refine t_catch (k := 3) (len := 1) (nm := "") [] (0, 9, 12, 22) [] rfl (fun z hz => absurd hz (List.not_mem_nil)) ⟨by decide, by decide⟩ (by decide) cl_RL_22 ca_RL_22 (by decide) (Or.inl ⟨3, rfl, dL_face_12, rfl⟩) rfl ?_
  show fEv g _ mL_face 13 [some (.ref 0), some (.int a), some (.ref 300), none] [] (fthr σ) Q
  refine e_iconst (nI 1) dL_face_13 (by decide) ?_
  exact e_ireturn .int dL_face_14 rfl rfl h
