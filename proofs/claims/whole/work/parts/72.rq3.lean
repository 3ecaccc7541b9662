theorem xQ_l {n : Nat} {x : fXS} {c : Nat × Nat} (h : (xq n x).1 = .inl c) : xQ n x = (xD x, xI x, xB x, 0, nI c.2, xm x, xM x) ∧ xQv n x = nI c.1 - nI 10 := by
  unfold xQ xQv
  rw [h]
  exact ⟨rfl, rfl⟩
theorem xQ_r {n : Nat} {x : fXS} {e : Nat} (h : (xq n x).1 = .inr e) : xQ n x = ((xq n x).2, (mS0 (xq n x).2, iT (xI x), nI 0, 0, iP (xI x), 0, iR (xI x)), xB x, 0, -1, 0, xM x) ∧ xQv n x = nI (dT (xq n x).2 0) := by
  unfold xQ xQv
  rw [h]
  exact ⟨rfl, rfl⟩
theorem xq_D {n : Nat} {x : fXS} {e : Nat} (h : (xq n x).1 = .inr e) : fWD (xq n x).2 := mrd_ok _ _ _ _ e (fun _ _ => fWD0) h
theorem fOK.Q {x : fXS} (ok : fOK x) (n : Nat) : fOK (xQ n x) := by
  cases q : (xq n x).1 with
  | inl c => rw [(xQ_l q).1]; exact ⟨ok.1, ok.2.1, ok.2.2.1, Nat.zero_le _, ok.2.2.2.2.1, ok.2.2.2.2.2⟩
  | inr e =>
    have hD := xq_D q
    rw [(xQ_r q).1]
    exact ⟨hD, ⟨fWS0 hD, fWC0 hD, fWN0 hD, Nat.zero_le _, ok.2.1.2.2.2.2.1, Nat.zero_le _, ok.2.1.2.2.2.2.2.2⟩, ok.2.2.1, Nat.zero_le _, Nat.zero_le _, fun j hj => absurd hj (Nat.not_lt_zero _)⟩
def fQL : Nat → Prop := fun a => a = 89 ∨ fRqA a
set_option maxRecDepth 20000 in
theorem l_X10_qlp {g : fGP} {d : Nat} {Q : fRes → fAH → Prop} {B : Nat → Nat} {n : Nat} {na : Int32} (hb : ∀ i, B i < 256) (hn6 : n ≤ 600) : ∀ (k c : Nat) (s : fP) (D : fSD) (σ : fAH), c + k = 61 → fMs g σ → (∀ i, i < 600 → fI σ 90 i = nI (B i)) → fI σ 89 2 = nI n → fPs σ 89 4 n s → (∀ a, s = .inr a → fWD D ∧ fI σ 89 7 = nI c ∧ fRr σ D ∧ mbl B n a = a ∧ c ≤ 60) → (∀ σ', fSm fRqA σ σ' → fPs σ' 89 4 n (mrd B n k s c D).1 → (∀ e, (mrd B n k s c D).1 = .inr e → fRr σ' (mrd B n k s c D).2) → (∀ j, j ≠ 4 → j ≠ 5 → j ≠ 6 → j ≠ 7 → fI σ' 89 j = fI σ 89 j) → fEv g (d + 6) mX10_quarry 99 [some (.ref 89), some (.int na), none, none] [] σ' Q) → fEv g (d + 6) mX10_quarry 70 [some (.ref 89), some (.int na), none, none] [] σ Q := by
  intro k
  induction k with
  | zero =>
    intro c s D σ hk Ms hB hn hs hR h
    cases s with
    | inl x =>
      have hs9 : fI σ 89 5 = nI x.1 ∧ fI σ 89 6 = nI x.2 ∧ 1 ≤ x.1 ∧ x.1 ≤ 3 ∧ x.2 ≤ n ∧ ∃ a9, a9 ≤ n ∧ fI σ 89 4 = nI a9 := hs
      refine e_aload_n dX10_quarry_70 rfl rfl ?_
      refine e_getI dX10_quarry_71 fl_RX10_92 (Ms.s 89 rfl) (Ms.n (by decide)) rfl ?_
      refine e_int (nI x.1) hs9.1 ?_
      refine e_if_ne 99 dX10_quarry_74 (by decide) (fun _ => ?_) (fun c => absurd ((nI_z (by omega)).mp c) (by omega))
      exact h σ fSm.rfl' hs (fun e q => by cases q) (fun j _ _ _ _ => rfl)
    | inr a =>
      have := (hR a rfl).2.2.2.2
      omega
  | succ k ih =>
    intro c s D σ hk Ms hB hn hs hR h
    cases s with
    | inl x =>
      have hs9 : fI σ 89 5 = nI x.1 ∧ fI σ 89 6 = nI x.2 ∧ 1 ≤ x.1 ∧ x.1 ≤ 3 ∧ x.2 ≤ n ∧ ∃ a9, a9 ≤ n ∧ fI σ 89 4 = nI a9 := hs
      rw [mrd_l] at h
      refine e_aload_n dX10_quarry_70 rfl rfl ?_
      refine e_getI dX10_quarry_71 fl_RX10_92 (Ms.s 89 rfl) (Ms.n (by decide)) rfl ?_
      refine e_int (nI x.1) hs9.1 ?_
      refine e_if_ne 99 dX10_quarry_74 (by decide) (fun _ => ?_) (fun c => absurd ((nI_z (by omega)).mp c) (by omega))
      exact h σ fSm.rfl' hs (fun e q => by cases q) (fun j _ _ _ _ => rfl)
    | inr a =>
      have hs9 : a ≤ n ∧ fI σ 89 4 = nI a ∧ fI σ 89 5 = nI 0 ∧ fI σ 89 6 = -1 := hs
      obtain ⟨hD, hc, Rr, hbl, hc6⟩ := hR a rfl
      refine e_aload_n dX10_quarry_70 rfl rfl ?_
      refine e_getI dX10_quarry_71 fl_RX10_92 (Ms.s 89 rfl) (Ms.n (by decide)) rfl ?_
      refine e_int (nI 0) hs9.2.2.1 ?_
      refine e_if_ne 99 dX10_quarry_74 (by decide) (fun c => absurd c (by decide)) (fun _ => ?_)
      refine e_aload_n dX10_quarry_77 rfl rfl ?_
      refine e_getI dX10_quarry_78 fl_RX10_85 (Ms.s 89 rfl) (Ms.n (by decide)) rfl ?_
      refine e_int (nI a) hs9.2.1 ?_
      refine e_aload_n dX10_quarry_81 rfl rfl ?_
      refine e_getI dX10_quarry_82 fl_RX10_82 (Ms.s 89 rfl) (Ms.n (by decide)) rfl ?_
      refine e_int (nI n) hn ?_
      refine e_icmp_ge 99 dX10_quarry_85 (by decide) (fun c85 => ?_) (fun c85 => ?_)
      · rw [nI_le' (by omega) (by omega)] at c85
        rw [mrd_e (by omega)] at h
        exact h σ fSm.rfl' hs (fun _ _ => Rr) (fun j _ _ _ _ => rfl)
      · rw [nI_le' (by omega) (by omega)] at c85
        refine e_aload_n dX10_quarry_88 rfl rfl ?_
        refine e_callV (k := 89) [] dX10_quarry_89 cc_X10_clause lk_RX10_152 im_X10_clause se_X10_clause (by decide) (Ms.s 89 rfl) (Ms.n (by decide)) rfl (Nat.le_of_ble_eq_true rfl) (Nat.le_of_ble_eq_true rfl) ?_
        refine t_X10_clause (a := a) (c8 := c) Ms hB hb hn hn6 hc hc6 Rr hD hs hbl (fun σ1 Sm1 hs1 Rr1 hn1 ho1 => fK_v ?_)
        show fEv g _ mX10_quarry 92 [some (.ref 89), some (.int na), none, none] [] σ1 Q
        have Ms1 := Ms.sm Sm1
        have hB1 : ∀ i, i < 600 → fI σ1 90 i = nI (B i) := fun i hi => (Sm1.i (by unfold fRqA; omega) i).trans (hB i hi)
        rw [mrd_s (show a < n by omega)] at h
        cases q9 : (mcla B n a c D).1 with
        | inl x =>
          rw [q9] at hs1 h Rr1
          obtain ⟨h19, h29, h39, h49, h59, a9, h69, h79⟩ : fI σ1 89 5 = nI x.1 ∧ fI σ1 89 6 = nI x.2 ∧ 1 ≤ x.1 ∧ x.1 ≤ 3 ∧ x.2 ≤ n ∧ ∃ a9, a9 ≤ n ∧ fI σ1 89 4 = nI a9 := hs1
          refine e_aload_n dX10_quarry_92 rfl rfl ?_
          refine e_callV (k := 89) [] dX10_quarry_93 cc_X10_blanks lk_RX10_98 im_X10_blanks se_X10_blanks (by decide) (Ms1.s 89 rfl) (Ms1.n (by decide)) rfl (Nat.le_of_ble_eq_true rfl) (Nat.le_of_ble_eq_true rfl) ?_
          refine t_X10_blanks (a := a9) Ms1 hB1 hb hn1 hn6 h79 h69 (fK_v ?_)
          show fEv g _ mX10_quarry 96 [some (.ref 89), some (.int na), none, none] [] (fsI σ1 89 4 (nI (mbl B n a9))) Q
          refine e_goto 70 dX10_quarry_96 (by decide) ?_
          have Sm2 : fSm fRqA σ1 (fsI σ1 89 4 (nI (mbl B n a9))) := fSm_I (Or.inl rfl)
          have b9 := mbl_b (B := B) h69
          exact ih (c + 1) (.inl x) _ _ (by omega) (Ms1.sm Sm2) (fun j hj => by rw [fI_I, if_neg (by omega)]; exact hB1 j hj) (by rw [fI_I, if_neg (by omega)]; exact hn1) ⟨by rw [fI_I, if_neg (by omega)]; exact h19, by rw [fI_I, if_neg (by omega)]; exact h29, h39, h49, h59, mbl B n a9, b9.2, by rw [fI_I, if_pos ⟨rfl, rfl⟩]⟩ (fun a q => by cases q) (fun σ' Sm' p1 p2 p3 => h σ' (Sm1.tr (Sm2.tr Sm')) p1 p2 (fun j h1 h2 h3 h4 => (p3 j h1 h2 h3 h4).trans ((by rw [fI_I, if_neg (by omega)] : fI (fsI σ1 89 4 (nI (mbl B n a9))) 89 j = fI σ1 89 j).trans (ho1 j h1 h2 h3 h4))))
        | inr a9 =>
          rw [q9] at hs1 h Rr1
          obtain ⟨h69, h79, h89, h99⟩ : a9 ≤ n ∧ fI σ1 89 4 = nI a9 ∧ fI σ1 89 5 = nI 0 ∧ fI σ1 89 6 = -1 := hs1
          refine e_aload_n dX10_quarry_92 rfl rfl ?_
          refine e_callV (k := 89) [] dX10_quarry_93 cc_X10_blanks lk_RX10_98 im_X10_blanks se_X10_blanks (by decide) (Ms1.s 89 rfl) (Ms1.n (by decide)) rfl (Nat.le_of_ble_eq_true rfl) (Nat.le_of_ble_eq_true rfl) ?_
          refine t_X10_blanks (a := a9) Ms1 hB1 hb hn1 hn6 h79 h69 (fK_v ?_)
          show fEv g _ mX10_quarry 96 [some (.ref 89), some (.int na), none, none] [] (fsI σ1 89 4 (nI (mbl B n a9))) Q
          refine e_goto 70 dX10_quarry_96 (by decide) ?_
          have Sm2 : fSm fRqA σ1 (fsI σ1 89 4 (nI (mbl B n a9))) := fSm_I (Or.inl rfl)
          have b9 := mbl_b (B := B) h69
          obtain ⟨G9, C9⟩ := Rr1 a9 rfl
          have mo9 := mcla_ok hD q9
          exact ih (c + 1) (.inr (mbl B n a9)) _ _ (by omega) (Ms1.sm Sm2) (fun j hj => by rw [fI_I, if_neg (by omega)]; exact hB1 j hj) (by rw [fI_I, if_neg (by omega)]; exact hn1) ⟨b9.2, by rw [fI_I, if_pos ⟨rfl, rfl⟩], by rw [fI_I, if_neg (by omega)]; exact h89, by rw [fI_I, if_neg (by omega)]; exact h99⟩ (fun a q => ⟨mo9.1, by rw [fI_I, if_neg (by omega)]; exact C9, G9.sm (A := fun a => a = 89) (fSm_I rfl) mo9.1 (fun i h1 h2 (q : i = 89) => by omega), by cases q; exact mbl_id h69, by omega⟩) (fun σ' Sm' p1 p2 p3 => h σ' (Sm1.tr (Sm2.tr Sm')) p1 p2 (fun j h1 h2 h3 h4 => (p3 j h1 h2 h3 h4).trans ((by rw [fI_I, if_neg (by omega)] : fI (fsI σ1 89 4 (nI (mbl B n a9))) 89 j = fI σ1 89 j).trans (ho1 j h1 h2 h3 h4))))
set_option maxRecDepth 20000 in
theorem t_X10_quarryB {g : fGP} {d : Nat} {σ : fAH} {Q : fRes → fAH → Prop} {x : fXS} {na : Int32} (Ms : fMs g σ) (ok : fOK x) (Ir : fIr σ x) (hbad : ¬ (nI 0 ≤ na ∧ na ≤ nI (xt x))) (h : ∀ σ', fSm fRfA σ σ' → fIr σ' x → fI σ' 89 0 = nI 1 → Q (.inl (some (.int (nI 0)))) σ') : fEv g (d + 6) mX10_quarry 0 (fent [.ref 89, .int na] 4) [] σ Q := by
  show fEv g (d + 6) mX10_quarry 0 [some (.ref 89), some (.int na), none, none] [] σ Q
  refine e_aload_n dX10_quarry_0 rfl rfl ?_
  refine e_iconst (nI 0) dX10_quarry_1 (by decide) ?_
  refine e_putI dX10_quarry_2 fl_RX10_76 (Ms.s 89 rfl) (Ms.n (by decide)) rfl rfl ?_
  refine e_aload_n dX10_quarry_5 rfl rfl ?_
  refine e_iload_n dX10_quarry_6 rfl rfl ?_
  refine e_iconst (nI 0) dX10_quarry_7 (by decide) ?_
  refine e_aload_n dX10_quarry_8 rfl rfl ?_
  refine e_getI dX10_quarry_9 fl_RX10_79 (Ms.s 89 rfl) (Ms.n (by decide)) rfl ?_
  refine e_int (nI (xt x)) (by rw [fI_I, if_neg (by omega)]; exact Ir.2.2.1.2.2.2.1) ?_
  refine e_callS [.int na, .int (nI 0), .int (nI (xt x))] dX10_quarry_12 cc_X10_in lk_RX10_110 st_X10_in in_RX10 rfl (Nat.le_of_ble_eq_true rfl) (Nat.le_of_ble_eq_true rfl) ?_
  refine t_X10_in (fK_i ?_)
  show fEv g _ mX10_quarry 15 [some (.ref 89), some (.int na), none, none] [.int (nI (bn (decide (nI 0 ≤ na ∧ na ≤ nI (xt x))))), .ref 89] (fsI σ 89 0 (nI 0)) Q
  refine e_if_ne 22 dX10_quarry_15 (by decide) (fun c15 => absurd c15 (fun q => q (show nI (bn (decide (nI 0 ≤ na ∧ na ≤ nI (xt x)))) = 0 by rw [decide_eq_false hbad]; rfl))) (fun c15 => ?_)
  have c15 := bn0 c15
  refine e_iconst (nI 1) dX10_quarry_18 (by decide) ?_
  refine e_goto 23 dX10_quarry_19 (by decide) ?_
  refine e_iconst (nI 1) dX10_quarry_23 (by decide) ?_
  refine e_callV (k := 89) [.int (nI 1), .int (nI 1)] dX10_quarry_24 cc_X10_bad lk_RX10_148 im_X10_bad se_X10_bad (by decide) (Ms.s 89 rfl) (Ms.n (by decide)) rfl (Nat.le_of_ble_eq_true rfl) (Nat.le_of_ble_eq_true rfl) ?_
  refine t_X10_bad1 Ms (by rw [fI_I, if_pos ⟨rfl, rfl⟩]) (by decide) (fK_i ?_)
  show fEv g _ mX10_quarry 27 [some (.ref 89), some (.int na), none, none] [.int (nI 1)] (fsI (fsI σ 89 0 (nI 0)) 89 0 (nI 1)) Q
  refine e_if_eq 32 dX10_quarry_27 (by decide) (fun c => absurd c (by decide)) (fun _ => ?_)
  refine e_iconst (nI 0) dX10_quarry_30 (by decide) ?_
  exact e_ireturn .int dX10_quarry_31 rfl rfl (h _ ((fSm_I (A := fRfA) (by unfold fRfA; omega)).tr (fSm_I (by unfold fRfA; omega))) (Ir.f0 ok ((fSm_I (A := fun a => a = 89) rfl).tr (fSm_I rfl)) (fun a (q : a = 89) => Or.inl (by omega)) (fun j hj => by simp only [List.mem_cons, List.not_mem_nil, or_false] at hj; rw [fI_I, if_neg (by omega), fI_I, if_neg (by omega)])) (by rw [fI_I, if_pos ⟨rfl, rfl⟩]))
set_option maxRecDepth 20000 in
theorem t_X10_quarry {g : fGP} {d : Nat} {σ : fAH} {Q : fRes → fAH → Prop} {x : fXS} {n : Nat} (Ms : fMs g σ) (ok : fOK x) (Ir : fIr σ x) (hn9 : n ≤ xt x) (h : ∀ σ', fSm fRfA σ σ' → fIr σ' (xQ n x) → fI σ' 89 0 = nI 0 → Q (.inl (some (.int (xQv n x)))) σ') : fEv g (d + 6) mX10_quarry 0 (fent [.ref 89, .int (nI n)] 4) [] σ Q := by
  have t6 := ok.2.2.2.1
  have hn6 : n ≤ 600 := by omega
  show fEv g (d + 6) mX10_quarry 0 [some (.ref 89), some (.int (nI n)), none, none] [] σ Q
  refine e_aload_n dX10_quarry_0 rfl rfl ?_
  refine e_iconst (nI 0) dX10_quarry_1 (by decide) ?_
  refine e_putI dX10_quarry_2 fl_RX10_76 (Ms.s 89 rfl) (Ms.n (by decide)) rfl rfl ?_
  refine e_aload_n dX10_quarry_5 rfl rfl ?_
  refine e_iload_n dX10_quarry_6 rfl rfl ?_
  refine e_iconst (nI 0) dX10_quarry_7 (by decide) ?_
  refine e_aload_n dX10_quarry_8 rfl rfl ?_
  refine e_getI dX10_quarry_9 fl_RX10_79 (Ms.s 89 rfl) (Ms.n (by decide)) rfl ?_
  refine e_int (nI (xt x)) (by rw [fI_I, if_neg (by omega)]; exact Ir.2.2.1.2.2.2.1) ?_
  refine e_callS [.int (nI n), .int (nI 0), .int (nI (xt x))] dX10_quarry_12 cc_X10_in lk_RX10_110 st_X10_in in_RX10 rfl (Nat.le_of_ble_eq_true rfl) (Nat.le_of_ble_eq_true rfl) ?_
  refine t_X10_in (fK_i ?_)
  show fEv g _ mX10_quarry 15 [some (.ref 89), some (.int (nI n)), none, none] [.int (nI (bn (decide (nI 0 ≤ nI n ∧ nI n ≤ nI (xt x))))), .ref 89] (fsI σ 89 0 (nI 0)) Q
  refine e_if_ne 22 dX10_quarry_15 (by decide) (fun _ => ?_) (fun c => absurd c (by rw [decide_eq_true ⟨(nI_le' (by omega) (by omega)).mpr (by omega), (nI_le' (by omega) (by omega)).mpr hn9⟩]; decide))
  refine e_iconst (nI 0) dX10_quarry_22 (by decide) ?_
  refine e_iconst (nI 1) dX10_quarry_23 (by decide) ?_
  refine e_callV (k := 89) [.int (nI 0), .int (nI 1)] dX10_quarry_24 cc_X10_bad lk_RX10_148 im_X10_bad se_X10_bad (by decide) (Ms.s 89 rfl) (Ms.n (by decide)) rfl (Nat.le_of_ble_eq_true rfl) (Nat.le_of_ble_eq_true rfl) ?_
  refine t_X10_bad0 Ms (by rw [fI_I, if_pos ⟨rfl, rfl⟩]) (by decide) (fK_i ?_)
  show fEv g _ mX10_quarry 27 [some (.ref 89), some (.int (nI n)), none, none] [.int (nI 0)] (fsI σ 89 0 (nI 0)) Q
  refine e_if_eq 32 dX10_quarry_27 (by decide) (fun _ => ?_) (fun c => absurd c (by decide))
  refine e_aload_n dX10_quarry_32 rfl rfl ?_
  refine e_iconst (nI 0) dX10_quarry_33 (by decide) ?_
  refine e_putI dX10_quarry_34 fl_RX10_79 (Ms.s 89 rfl) (Ms.n (by decide)) rfl rfl ?_
  refine e_aload_n dX10_quarry_37 rfl rfl ?_
  refine e_iload_n dX10_quarry_38 rfl rfl ?_
  refine e_putI dX10_quarry_39 fl_RX10_82 (Ms.s 89 rfl) (Ms.n (by decide)) rfl rfl ?_
  refine e_aload_n dX10_quarry_42 rfl rfl ?_
  refine e_iconst (nI 0) dX10_quarry_43 (by decide) ?_
  refine e_putI dX10_quarry_44 fl_RX10_85 (Ms.s 89 rfl) (Ms.n (by decide)) rfl rfl ?_
  refine e_aload_n dX10_quarry_47 rfl rfl ?_
  refine e_iconst (nI 0) dX10_quarry_48 (by decide) ?_
  refine e_putI dX10_quarry_49 fl_RX10_92 (Ms.s 89 rfl) (Ms.n (by decide)) rfl rfl ?_
  refine e_aload_n dX10_quarry_52 rfl rfl ?_
  refine e_iconst (-1) dX10_quarry_53 (by decide) ?_
  refine e_putI dX10_quarry_54 fl_RX10_95 (Ms.s 89 rfl) (Ms.n (by decide)) rfl rfl ?_
  refine e_aload_n dX10_quarry_57 rfl rfl ?_
  refine e_iconst (nI 0) dX10_quarry_58 (by decide) ?_
  refine e_putI dX10_quarry_59 fl_RX10_128 (Ms.s 89 rfl) (Ms.n (by decide)) rfl rfl ?_
  refine e_aload_n dX10_quarry_62 rfl rfl ?_
  refine e_callV (k := 89) [] dX10_quarry_63 cc_X10_tellsNothing lk_RX10_73 im_X10_tellsNothing se_X10_tellsNothing (by decide) (Ms.s 89 rfl) (Ms.n (by decide)) rfl (Nat.le_of_ble_eq_true rfl) (Nat.le_of_ble_eq_true rfl) ?_
  refine t_X10_tellsNothing (Ms) (fun σ1 Sm1 ht1 => fK_v ?_)
  show fEv g _ mX10_quarry 66 [some (.ref 89), some (.int (nI n)), none, none] [] σ1 Q
  have Sm0 : fSm fRqA σ σ1 := (((((((fSm_I (A := fRqA) (Or.inl rfl)).tr (fSm_I (A := fRqA) (Or.inl rfl))).tr (fSm_I (A := fRqA) (Or.inl rfl))).tr (fSm_I (A := fRqA) (Or.inl rfl))).tr (fSm_I (A := fRqA) (Or.inl rfl))).tr (fSm_I (A := fRqA) (Or.inl rfl))).tr (fSm_I (A := fRqA) (Or.inl rfl))).tr (Sm1.to (fun a (q : a = 91) => Or.inr (Or.inl q)))
  have Ms1 := Ms.sm Sm0
  have hB1 : ∀ i, i < 600 → fI σ1 90 i = nI (xB x i) := fun i hi => (Sm0.i (by unfold fRqA; omega) i).trans (Ir.2.2.2.1 i hi)
  have hn1 : fI σ1 89 2 = nI n := (Sm1.i (fun (q : 89 = 91) => by omega) 2).trans (by rw [fI_I, if_neg (by omega), fI_I, if_neg (by omega), fI_I, if_neg (by omega), fI_I, if_neg (by omega), fI_I, if_pos ⟨rfl, rfl⟩])
  have ha1 : fI σ1 89 4 = nI 0 := (Sm1.i (fun (q : 89 = 91) => by omega) 4).trans (by rw [fI_I, if_neg (by omega), fI_I, if_neg (by omega), fI_I, if_neg (by omega), fI_I, if_pos ⟨rfl, rfl⟩])
  have hf1 : fI σ1 89 5 = nI 0 := (Sm1.i (fun (q : 89 = 91) => by omega) 5).trans (by rw [fI_I, if_neg (by omega), fI_I, if_neg (by omega), fI_I, if_pos ⟨rfl, rfl⟩])
  have hp1 : fI σ1 89 6 = -1 := (Sm1.i (fun (q : 89 = 91) => by omega) 6).trans (by rw [fI_I, if_neg (by omega), fI_I, if_pos ⟨rfl, rfl⟩])
  have hc1 : fI σ1 89 7 = nI 0 := (Sm1.i (fun (q : 89 = 91) => by omega) 7).trans (by rw [fI_I, if_pos ⟨rfl, rfl⟩])
  have h01 : fI σ1 89 0 = nI 0 := (Sm1.i (fun (q : 89 = 91) => by omega) 0).trans (by rw [fI_I, if_neg (by omega), fI_I, if_neg (by omega), fI_I, if_neg (by omega), fI_I, if_neg (by omega), fI_I, if_neg (by omega), fI_I, if_neg (by omega), fI_I, if_pos ⟨rfl, rfl⟩])
  have h11 : fI σ1 89 1 = nI 0 := (Sm1.i (fun (q : 89 = 91) => by omega) 1).trans (by rw [fI_I, if_neg (by omega), fI_I, if_neg (by omega), fI_I, if_neg (by omega), fI_I, if_neg (by omega), fI_I, if_neg (by omega), fI_I, if_pos ⟨rfl, rfl⟩])
  have ho1 : ∀ j, 8 ≤ j → fI σ1 89 j = fI σ 89 j := fun j hj => (Sm1.i (fun (q : 89 = 91) => by omega) j).trans (by rw [fI_I, if_neg (by omega), fI_I, if_neg (by omega), fI_I, if_neg (by omega), fI_I, if_neg (by omega), fI_I, if_neg (by omega), fI_I, if_neg (by omega), fI_I, if_neg (by omega)])
  have Rr1 : fRr σ1 D0 := ⟨ht1, fun b hb => absurd hb (Nat.not_lt_zero _), fun b hb => absurd hb (Nat.not_lt_zero _), fun b hb => absurd hb (Nat.not_lt_zero _), fun b hb => absurd hb (Nat.not_lt_zero _)⟩
  refine e_aload_n dX10_quarry_66 rfl rfl ?_
  refine e_callV (k := 89) [] dX10_quarry_67 cc_X10_blanks lk_RX10_98 im_X10_blanks se_X10_blanks (by decide) (Ms1.s 89 rfl) (Ms1.n (by decide)) rfl (Nat.le_of_ble_eq_true rfl) (Nat.le_of_ble_eq_true rfl) ?_
  refine t_X10_blanks (B := xB x) (n := n) (a := 0) Ms1 hB1 ok.2.2.1 hn1 hn6 ha1 (Nat.zero_le _) (fK_v ?_)
  show fEv g _ mX10_quarry 70 [some (.ref 89), some (.int (nI n)), none, none] [] (fsI σ1 89 4 (nI (mbl (xB x) n 0))) Q
  have b9 := mbl_b (B := xB x) (Nat.zero_le n)
  have Sm2 : fSm fRqA σ1 (fsI σ1 89 4 (nI (mbl (xB x) n 0))) := fSm_I (Or.inl rfl)
  refine l_X10_qlp ok.2.2.1 hn6 61 0 (.inr (mbl (xB x) n 0)) D0 _ (by omega) (Ms1.sm Sm2) (fun j hj => by rw [fI_I, if_neg (by omega)]; exact hB1 j hj) (by rw [fI_I, if_neg (by omega)]; exact hn1) ⟨b9.2, by rw [fI_I, if_pos ⟨rfl, rfl⟩], by rw [fI_I, if_neg (by omega)]; exact hf1, by rw [fI_I, if_neg (by omega)]; exact hp1⟩ (fun a q => ⟨fWD0, by rw [fI_I, if_neg (by omega)]; exact hc1, Rr1.sm (A := fun a => a = 89) (fSm_I rfl) fWD0 (fun i h1 h2 (q : i = 89) => by omega), by cases q; exact mbl_id (Nat.zero_le _), by omega⟩) (fun σ3 Sm3 hs3 Rr3 ho3 => ?_)
  have Sm4 : fSm fRqA σ σ3 := Sm0.tr (Sm2.tr Sm3)
  have Ms3 := Ms.sm Sm4
  have hk3 : ∀ j, j ≠ 4 → j ≠ 5 → j ≠ 6 → j ≠ 7 → fI σ3 89 j = fI σ1 89 j := fun j h1 h2 h3 h4 => (ho3 j h1 h2 h3 h4).trans (by rw [fI_I, if_neg (by omega)])
  have e0 : mrd (xB x) n 61 (.inr (mbl (xB x) n 0)) 0 D0 = xq n x := rfl
  rw [e0] at hs3 Rr3
  cases q9 : (xq n x).1 with
  | inl c =>
    rw [q9] at hs3 Rr3
    obtain ⟨h19, h29, h39, h49, h59, a9, h69, h79⟩ : fI σ3 89 5 = nI c.1 ∧ fI σ3 89 6 = nI c.2 ∧ 1 ≤ c.1 ∧ c.1 ≤ 3 ∧ c.2 ≤ n ∧ ∃ a9, a9 ≤ n ∧ fI σ3 89 4 = nI a9 := hs3
    rw [(xQ_l q9).1, (xQ_l q9).2] at h
    refine e_aload_n dX10_quarry_99 rfl rfl ?_
    refine e_aload_n dX10_quarry_100 rfl rfl ?_
    refine e_getI dX10_quarry_101 fl_RX10_95 (Ms3.s 89 rfl) (Ms3.n (by decide)) rfl ?_
    refine e_int (nI c.2) h29 ?_
    refine e_putI dX10_quarry_104 fl_RX10_9 (Ms3.s 89 rfl) (Ms3.n (by decide)) rfl rfl ?_
    refine e_aload_n dX10_quarry_107 rfl rfl ?_
    refine e_getI dX10_quarry_108 fl_RX10_92 (Ms3.s 89 rfl) (Ms3.n (by decide)) rfl ?_
    refine e_int (nI c.1) (by rw [fI_I, if_neg (by omega)]; exact h19) ?_
    refine e_if_eq 122 dX10_quarry_111 (by decide) (fun c => absurd ((nI_z (by omega)).mp c) (by omega)) (fun _ => ?_)
    refine e_aload_n dX10_quarry_114 rfl rfl ?_
    refine e_getI dX10_quarry_115 fl_RX10_92 (Ms3.s 89 rfl) (Ms3.n (by decide)) rfl ?_
    refine e_int (nI c.1) (by rw [fI_I, if_neg (by omega)]; exact h19) ?_
    refine e_bipush (nI 10) dX10_quarry_118 (by decide) ?_
    refine e_isub dX10_quarry_120 ?_
    have Sm5 : fSm fRqA σ (fsI σ3 89 3 (nI c.2)) := Sm4.tr (fSm_I (Or.inl rfl))
    exact e_ireturn .int dX10_quarry_121 rfl rfl (h _ (Sm5.to (fun a q => by unfold fRqA at q; unfold fRfA; omega)) (Ir.fr ok Sm5 (fun a q => by unfold fRqA at q; unfold fRsA; omega) (fun j hj => by simp only [List.mem_cons, List.not_mem_nil, or_false] at hj; rw [fI_I, if_neg (by omega), hk3 j (by omega) (by omega) (by omega) (by omega)]; exact ho1 j (by omega)) (by rw [fI_I, if_neg (by omega), hk3 1 (by decide) (by decide) (by decide) (by decide)]; exact h11) (by rw [fI_I, if_pos ⟨rfl, rfl⟩])) (by rw [fI_I, if_neg (by omega), hk3 0 (by decide) (by decide) (by decide) (by decide)]; exact h01))
  | inr e =>
    rw [q9] at hs3 Rr3
    obtain ⟨h69, h79, h89, h99⟩ : e ≤ n ∧ fI σ3 89 4 = nI e ∧ fI σ3 89 5 = nI 0 ∧ fI σ3 89 6 = -1 := hs3
    rw [(xQ_r q9).1, (xQ_r q9).2] at h
    have hD9 := xq_D q9
    refine e_aload_n dX10_quarry_99 rfl rfl ?_
    refine e_aload_n dX10_quarry_100 rfl rfl ?_
    refine e_getI dX10_quarry_101 fl_RX10_95 (Ms3.s 89 rfl) (Ms3.n (by decide)) rfl ?_
    refine e_int ((-1)) h99 ?_
    refine e_putI dX10_quarry_104 fl_RX10_9 (Ms3.s 89 rfl) (Ms3.n (by decide)) rfl rfl ?_
    refine e_aload_n dX10_quarry_107 rfl rfl ?_
    refine e_getI dX10_quarry_108 fl_RX10_92 (Ms3.s 89 rfl) (Ms3.n (by decide)) rfl ?_
    refine e_int (nI 0) (by rw [fI_I, if_neg (by omega)]; exact h89) ?_
    refine e_if_eq 122 dX10_quarry_111 (by decide) (fun _ => ?_) (fun c => absurd rfl c)
    refine e_iconst (nI 0) dX10_quarry_122 (by decide) ?_
    refine e_istore_n (L1 := [some (.ref 89), some (.int (nI n)), some (.int (nI 0)), none]) dX10_quarry_123 rfl (by decide) rfl ?_
    have Sm5 : fSm fRqA σ (fsI σ3 89 3 ((-1))) := Sm4.tr (fSm_I (Or.inl rfl))
    refine l_X10_qt hD9 7 0 _ (by omega) (Ms.sm Sm5) ((Rr3 e rfl).sm (A := fun a => a = 89) (fSm_I rfl) hD9 (fun i h1 h2 (q : i = 89) => by omega)) (fun j hj => absurd hj (by omega)) (fun σ6 Sm6 Mr6 p22 p23 p24 pk => ?_)
    have k6 : ∀ j, 8 ≤ j → j ≠ 22 → j ≠ 23 → j ≠ 24 → fI σ6 89 j = fI σ 89 j := fun j h0 h1 h2 h3 => (pk j h1 h2 h3).trans (by rw [fI_I, if_neg (by omega), hk3 j (by omega) (by omega) (by omega) (by omega)]; exact ho1 j h0)
    have k0 : ∀ a, ¬ fRqA a → ¬ fQ9 a → ∀ j, fI σ6 a j = fI σ a j := fun a h1 h2 j => (Sm6.i h2 j).trans (Sm5.i h1 j)
    refine h σ6 ((Sm5.to (fun a q => by unfold fRqA at q; unfold fRfA; omega)).tr (Sm6.to (fun a q => by unfold fQ9 fQA at q; unfold fRfA; omega))) ⟨Mr6, ⟨fun i hi => ?_, fun t ht => ?_⟩, ⟨(k6 21 (by omega) (by decide) (by decide) (by decide)).trans Ir.2.2.1.1, (k6 31 (by omega) (by decide) (by decide) (by decide)).trans Ir.2.2.1.2.1, (k6 33 (by omega) (by decide) (by decide) (by decide)).trans Ir.2.2.1.2.2.1, ?_, ?_, p24⟩, fun i hi => (k0 90 (by unfold fRqA; omega) (by unfold fQ9 fQA; omega) i).trans (Ir.2.2.2.1 i hi), ⟨p22, fun j hj => absurd hj (Nat.not_lt_zero _), p23, fun r hr => absurd hr (Nat.not_lt_zero _)⟩, fun j hj => absurd hj (Nat.not_lt_zero _)⟩ ?_
    · have hi : i < mS0 (xq n x).2 152 := hi; rw [mS0_z hD9 (by omega)] at hi; exact absurd hi (Nat.not_lt_zero _)
    · have ht : t < mS0 (xq n x).2 155 := ht; rw [mS0_z hD9 (by omega)] at ht; exact absurd ht (Nat.not_lt_zero _)
    · exact (pk 1 (by decide) (by decide) (by decide)).trans (by rw [fI_I, if_neg (by omega), hk3 1 (by decide) (by decide) (by decide) (by decide)]; exact h11)
    · exact (pk 3 (by decide) (by decide) (by decide)).trans (by rw [fI_I, if_pos ⟨rfl, rfl⟩])
    · exact (pk 0 (by decide) (by decide) (by decide)).trans (by rw [fI_I, if_neg (by omega), hk3 0 (by decide) (by decide) (by decide) (by decide)]; exact h01)
