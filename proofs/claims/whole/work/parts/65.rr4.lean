theorem mnum_bl {B : Nat → Nat} {n lo hi a : Nat} (ha : a ≤ n) : mnum B n lo hi (.inr (mbl B n a)) = mnum B n lo hi (.inr a) := by
  show (if _ then _ else if _ then _ else _) = (if _ then _ else if _ then _ else _)
  unfold mV
  rw [mbl_id ha]
theorem mnv_bl {B : Nat → Nat} {n lo hi d a : Nat} (ha : a ≤ n) : mnv B n lo hi d (.inr (mbl B n a)) = mnv B n lo hi d (.inr a) := by
  show (if _ then _ else if _ then _ else _) = (if _ then _ else if _ then _ else _)
  unfold mV
  rw [mbl_id ha]
set_option maxRecDepth 20000 in
theorem t_X10_readsOdds {g : fGP} {d : Nat} {σ : fAH} {Q : fRes → fAH → Prop} {B : Nat → Nat} {n : Nat} {D : fSD} {s : fP} {c9 : Nat} (Ms : fMs g σ) (hB : ∀ i, i < 600 → fI σ 90 i = nI (B i)) (hb : ∀ i, B i < 256) (hn : fI σ 89 2 = nI n) (hn6 : n ≤ 600) (hc : fI σ 89 7 = nI c9) (Rr : fRr σ D) (hD : fWD D) (hs : fPs σ 89 4 n s) (hfl : dT D 6 < 24) (h : ∀ σ', fSm fRqA σ σ' → fPs σ' 89 4 n (mns B n 6 D s).1 → fRr σ' D → (∀ e, (mns B n 6 D s).1 = .inr e → ∀ c, c < 3 → fI σ' (148 + dT D 6) c = nI ((mr3 (mnv B n 0 30 0 s) (mnv B n 1 10 0 (mnum B n 0 30 s)) (mnv B n 1 (9 - mall D (mnv B n 0 30 0 s)) 0 (mnum B n 1 10 (mnum B n 0 30 s)))) c)) → fI σ' 89 2 = nI n → fI σ' 89 7 = nI c9 → (∀ j, j ≠ 4 → j ≠ 5 → j ≠ 6 → fI σ' 89 j = fI σ 89 j) → Q (.inl none) σ') : fEv g (d + 3) mX10_readsOdds 0 (fent [.ref 89, .ref (148 + dT D 6)] 4) [] σ Q := by
  obtain ⟨t0, t1, t2, t3, t4, t5, t6⟩ := id hD.1
  have n600 := hn6
  show fEv g (d + 3) mX10_readsOdds 0 [some (.ref 89), some (.ref (148 + dT D 6)), none, none] [] σ Q
  refine e_aload_n dX10_readsOdds_0 rfl rfl ?_
  refine e_iconst (nI 0) dX10_readsOdds_1 (by decide) ?_
  refine e_aload_n dX10_readsOdds_2 rfl rfl ?_
  refine e_iconst (nI 0) dX10_readsOdds_3 (by decide) ?_
  refine e_bipush (nI 29) dX10_readsOdds_4 (by decide) ?_
  refine e_callV (k := 89) [.int (nI 0), .int (nI 29)] dX10_readsOdds_6 cc_X10_number lk_RX10_134 im_X10_number se_X10_number (by decide) (Ms.s 89 rfl) (Ms.n (by decide)) rfl (Nat.le_of_ble_eq_true rfl) (Nat.le_of_ble_eq_true rfl) ?_
  refine t_X10_number (B := B) (n := n) (s := s) (lo := 0) (hi1 := 30) Ms hB hb hn n600 hs (by decide) (fun _ _ => by decide) (fun _ _ => hr_n (by decide)) (fun σ1 Smx1 hs1 hk1 => ?_)
  show fEv g _ mX10_readsOdds 9 [some (.ref 89), some (.ref (148 + dT D 6)), none, none] [.int (nI (mnv B n 0 30 0 s)), .int (nI 0), .ref (148 + dT D 6)] σ1 Q
  have Sm1 : fSm fRqA σ σ1 := (Smx1.to (fun a (q : a = 89) => Or.inl q))
  have Ms1 := Ms.sm Sm1
  have hB1 : ∀ i, i < 600 → fI σ1 90 i = nI (B i) := fun i hi => (Sm1.i (by unfold fRqA; omega) i).trans (hB i hi)
  have hn1 := (hk1 2 (by decide) (by decide) (by decide)).trans hn
  have hc1 := (hk1 7 (by decide) (by decide) (by decide)).trans hc
  have ho1 : ∀ j, j ≠ 4 → j ≠ 5 → j ≠ 6 → fI σ1 89 j = fI σ 89 j := fun j h1 h2 h3 => (hk1 j h1 h2 h3)
  have Rr1 := Rr.sm Smx1 hD (fun i h1 h2 (q : i = 89) => by omega)
  refine e_iastore 0 dX10_readsOdds_9 (Ms1.s _ (fsh_readOdds _ (by omega))) (Ms1.n (by omega)) rfl (by omega) (by decide) ?_
  have Smx2 : fSm (fun a => a = 148 + dT D 6) σ1 (fsI σ1 (148 + dT D 6) 0 (nI (mnv B n 0 30 0 s))) := fSm_I rfl
  have Sm2 : fSm fRqA σ (fsI σ1 (148 + dT D 6) 0 (nI (mnv B n 0 30 0 s))) := Sm1.tr (Smx2.to (fun a (q : a = 148 + dT D 6) => (by omega : a = 89 ∨ a = 91 ∨ (94 ≤ a ∧ a < 100) ∨ (108 ≤ a ∧ a < 120) ∨ (134 ≤ a ∧ a < 140) ∨ (148 ≤ a ∧ a < 172))))
  have Ms2 := Ms.sm Sm2
  have hs2 : fPs (fsI σ1 (148 + dT D 6) 0 (nI (mnv B n 0 30 0 s))) 89 4 n (mnum B n 0 30 s) := hs1.sm (fun q => by rw [fI_I, if_neg (by omega)])
  have Rr2 : fRr (fsI σ1 (148 + dT D 6) 0 (nI (mnv B n 0 30 0 s))) D := Rr1.ne hD (by omega)
  have hB2 : ∀ i, i < 600 → fI (fsI σ1 (148 + dT D 6) 0 (nI (mnv B n 0 30 0 s))) 90 i = nI (B i) := fun i hi => by rw [fI_I, if_neg (by omega)]; exact hB1 i hi
  have hn2 : fI (fsI σ1 (148 + dT D 6) 0 (nI (mnv B n 0 30 0 s))) 89 2 = nI n := by rw [fI_I, if_neg (by omega)]; exact hn1
  have hc2 : fI (fsI σ1 (148 + dT D 6) 0 (nI (mnv B n 0 30 0 s))) 89 7 = nI c9 := by rw [fI_I, if_neg (by omega)]; exact hc1
  have ho2 : ∀ j, j ≠ 4 → j ≠ 5 → j ≠ 6 → fI (fsI σ1 (148 + dT D 6) 0 (nI (mnv B n 0 30 0 s))) 89 j = fI σ 89 j := fun j h1 h2 h3 => by rw [fI_I, if_neg (by omega)]; exact ho1 j h1 h2 h3
  have u0_2 : fI (fsI σ1 (148 + dT D 6) 0 (nI (mnv B n 0 30 0 s))) (148 + dT D 6) 0 = nI (mnv B n 0 30 0 s) := by rw [fI_I, if_pos ⟨rfl, rfl⟩]
  generalize fsI σ1 (148 + dT D 6) 0 (nI (mnv B n 0 30 0 s)) = σ2 at Smx2 Sm2 Ms2 hs2 Rr2 hB2 hn2 hc2 ho2 u0_2 ⊢
  refine e_aload_n dX10_readsOdds_10 rfl rfl ?_
  refine e_iconst (nI 1) dX10_readsOdds_11 (by decide) ?_
  refine e_aload_n dX10_readsOdds_12 rfl rfl ?_
  refine e_iconst (nI 1) dX10_readsOdds_13 (by decide) ?_
  refine e_bipush (nI 9) dX10_readsOdds_14 (by decide) ?_
  refine e_callV (k := 89) [.int (nI 1), .int (nI 9)] dX10_readsOdds_16 cc_X10_number lk_RX10_134 im_X10_number se_X10_number (by decide) (Ms2.s 89 rfl) (Ms2.n (by decide)) rfl (Nat.le_of_ble_eq_true rfl) (Nat.le_of_ble_eq_true rfl) ?_
  refine t_X10_number (B := B) (n := n) (s := mnum B n 0 30 s) (lo := 1) (hi1 := 10) Ms2 hB2 hb hn2 n600 hs2 (by decide) (fun _ _ => by decide) (fun _ _ => hr_n (by decide)) (fun σ3 Smx3 hs3 hk3 => ?_)
  show fEv g _ mX10_readsOdds 19 [some (.ref 89), some (.ref (148 + dT D 6)), none, none] [.int (nI (mnv B n 1 10 0 (mnum B n 0 30 s))), .int (nI 1), .ref (148 + dT D 6)] σ3 Q
  have Sm3 : fSm fRqA σ σ3 := Sm2.tr (Smx3.to (fun a (q : a = 89) => Or.inl q))
  have Ms3 := Ms.sm Sm3
  have hB3 : ∀ i, i < 600 → fI σ3 90 i = nI (B i) := fun i hi => (Sm3.i (by unfold fRqA; omega) i).trans (hB i hi)
  have hn3 := (hk3 2 (by decide) (by decide) (by decide)).trans hn2
  have hc3 := (hk3 7 (by decide) (by decide) (by decide)).trans hc2
  have ho3 : ∀ j, j ≠ 4 → j ≠ 5 → j ≠ 6 → fI σ3 89 j = fI σ 89 j := fun j h1 h2 h3 => (hk3 j h1 h2 h3).trans (ho2 j h1 h2 h3)
  have Rr3 := Rr2.sm Smx3 hD (fun i h1 h2 (q : i = 89) => by omega)
  have u0_3 := (Smx3.i (fun (q : 148 + dT D 6 = 89) => by omega) 0).trans u0_2
  refine e_iastore 1 dX10_readsOdds_19 (Ms3.s _ (fsh_readOdds _ (by omega))) (Ms3.n (by omega)) rfl (by omega) (by decide) ?_
  have Smx4 : fSm (fun a => a = 148 + dT D 6) σ3 (fsI σ3 (148 + dT D 6) 1 (nI (mnv B n 1 10 0 (mnum B n 0 30 s)))) := fSm_I rfl
  have Sm4 : fSm fRqA σ (fsI σ3 (148 + dT D 6) 1 (nI (mnv B n 1 10 0 (mnum B n 0 30 s)))) := Sm3.tr (Smx4.to (fun a (q : a = 148 + dT D 6) => (by omega : a = 89 ∨ a = 91 ∨ (94 ≤ a ∧ a < 100) ∨ (108 ≤ a ∧ a < 120) ∨ (134 ≤ a ∧ a < 140) ∨ (148 ≤ a ∧ a < 172))))
  have Ms4 := Ms.sm Sm4
  have hs4 : fPs (fsI σ3 (148 + dT D 6) 1 (nI (mnv B n 1 10 0 (mnum B n 0 30 s)))) 89 4 n (mnum B n 1 10 (mnum B n 0 30 s)) := hs3.sm (fun q => by rw [fI_I, if_neg (by omega)])
  have Rr4 : fRr (fsI σ3 (148 + dT D 6) 1 (nI (mnv B n 1 10 0 (mnum B n 0 30 s)))) D := Rr3.ne hD (by omega)
  have hB4 : ∀ i, i < 600 → fI (fsI σ3 (148 + dT D 6) 1 (nI (mnv B n 1 10 0 (mnum B n 0 30 s)))) 90 i = nI (B i) := fun i hi => by rw [fI_I, if_neg (by omega)]; exact hB3 i hi
  have hn4 : fI (fsI σ3 (148 + dT D 6) 1 (nI (mnv B n 1 10 0 (mnum B n 0 30 s)))) 89 2 = nI n := by rw [fI_I, if_neg (by omega)]; exact hn3
  have hc4 : fI (fsI σ3 (148 + dT D 6) 1 (nI (mnv B n 1 10 0 (mnum B n 0 30 s)))) 89 7 = nI c9 := by rw [fI_I, if_neg (by omega)]; exact hc3
  have ho4 : ∀ j, j ≠ 4 → j ≠ 5 → j ≠ 6 → fI (fsI σ3 (148 + dT D 6) 1 (nI (mnv B n 1 10 0 (mnum B n 0 30 s)))) 89 j = fI σ 89 j := fun j h1 h2 h3 => by rw [fI_I, if_neg (by omega)]; exact ho3 j h1 h2 h3
  have u0_4 : fI (fsI σ3 (148 + dT D 6) 1 (nI (mnv B n 1 10 0 (mnum B n 0 30 s)))) (148 + dT D 6) 0 = nI (mnv B n 0 30 0 s) := by rw [fI_I, if_neg (by omega)]; exact u0_3
  have u1_4 : fI (fsI σ3 (148 + dT D 6) 1 (nI (mnv B n 1 10 0 (mnum B n 0 30 s)))) (148 + dT D 6) 1 = nI (mnv B n 1 10 0 (mnum B n 0 30 s)) := by rw [fI_I, if_pos ⟨rfl, rfl⟩]
  generalize fsI σ3 (148 + dT D 6) 1 (nI (mnv B n 1 10 0 (mnum B n 0 30 s))) = σ4 at Smx4 Sm4 Ms4 hs4 Rr4 hB4 hn4 hc4 ho4 u0_4 u1_4 ⊢
  refine e_iconst (nI 0) dX10_readsOdds_20 (by decide) ?_
  refine e_istore_n (L1 := [some (.ref 89), some (.ref (148 + dT D 6)), some (.int (nI 0)), none]) dX10_readsOdds_21 rfl (by decide) rfl ?_
  refine e_iconst (nI 0) dX10_readsOdds_22 (by decide) ?_
  refine e_istore_n (L1 := [some (.ref 89), some (.ref (148 + dT D 6)), some (.int (nI 0)), some (.int (nI 0))]) dX10_readsOdds_23 rfl (by decide) rfl ?_
  have vb : mnv B n 0 30 0 s < 30 := by rcases mnv_b (B := B) (n := n) (lo := 0) (hi := 30) (d := 0) (s := s) with q | q <;> omega
  refine l_X10_zsum Ms4 Rr4 hD u0_4 (by omega) hfl (dT D 6) 0 (by omega) ?_
  have ml := hD.2.2.2.2.2 (mnv B n 0 30 0 s)
  have e0 : (mns B n 6 D s).1 = mnum B n 1 (9 - mall D (mnv B n 0 30 0 s)) (mnum B n 1 10 (mnum B n 0 30 s)) := rfl
  cases q2 : mnum B n 1 10 (mnum B n 0 30 s) with
  | inl x =>
    rw [q2] at hs4 e0
    obtain ⟨f1, f2, f3, f4, f5, a9, f6, f7⟩ : fI σ4 89 5 = nI x.1 ∧ fI σ4 89 6 = nI x.2 ∧ 1 ≤ x.1 ∧ x.1 ≤ 3 ∧ x.2 ≤ n ∧ ∃ a9, a9 ≤ n ∧ fI σ4 89 4 = nI a9 := hs4
    have b9 := mbl_b (B := B) f6
    refine e_aload_n dX10_readsOdds_70 rfl rfl ?_
    refine e_callV (k := 89) [] dX10_readsOdds_71 cc_X10_blanks lk_RX10_98 im_X10_blanks se_X10_blanks (by decide) (Ms4.s 89 rfl) (Ms4.n (by decide)) rfl (Nat.le_of_ble_eq_true rfl) (Nat.le_of_ble_eq_true rfl) ?_
    refine t_X10_blanks (B := B) (n := n) (a := a9) Ms4 hB4 hb hn4 n600 f7 f6 (fK_v ?_)
    show fEv g _ mX10_readsOdds 74 [some (.ref 89), some (.ref (148 + dT D 6)), some (.int (nI (mall D (mnv B n 0 30 0 s)))), some (.int (nI (dT D 6)))] [] (fsI σ4 89 4 (nI (mbl B n a9))) Q
    have Smx5 : fSm (fun a => a = 89) σ4 (fsI σ4 89 4 (nI (mbl B n a9))) := (fSm_I (A := fun a => a = 89) rfl)
    have Sm5 : fSm fRqA σ (fsI σ4 89 4 (nI (mbl B n a9))) := Sm4.tr (Smx5.to (fun a (q : a = 89) => Or.inl q))
    have Ms5 := Ms.sm Sm5
    have hs5 : fPs (fsI σ4 89 4 (nI (mbl B n a9))) 89 4 n (.inl x) := ⟨by rw [fI_I, if_neg (by omega)]; exact f1, by rw [fI_I, if_neg (by omega)]; exact f2, f3, f4, f5, mbl B n a9, b9.2, by rw [fI_I, if_pos ⟨rfl, rfl⟩]⟩
    have Rr5 := Rr4.sm Smx5 hD (fun i h1 h2 (q : i = 89) => by omega)
    have hB5 : ∀ i, i < 600 → fI (fsI σ4 89 4 (nI (mbl B n a9))) 90 i = nI (B i) := fun i hi => (Smx5.i (fun (q : 90 = 89) => by omega) i).trans (hB4 i hi)
    have hn5 : fI (fsI σ4 89 4 (nI (mbl B n a9))) 89 2 = nI n := by rw [fI_I, if_neg (by omega)]; exact hn4
    have hc5 : fI (fsI σ4 89 4 (nI (mbl B n a9))) 89 7 = nI c9 := by rw [fI_I, if_neg (by omega)]; exact hc4
    have ho5 : ∀ j, j ≠ 4 → j ≠ 5 → j ≠ 6 → fI (fsI σ4 89 4 (nI (mbl B n a9))) 89 j = fI σ 89 j := fun j h1 h2 h3 => by rw [fI_I, if_neg (by omega)]; exact ho4 j h1 h2 h3
    have u0_5 := (Smx5.i (fun (q : 148 + dT D 6 = 89) => by omega) 0).trans u0_4
    have u1_5 := (Smx5.i (fun (q : 148 + dT D 6 = 89) => by omega) 1).trans u1_4
    generalize fsI σ4 89 4 (nI (mbl B n a9)) = σ5 at Smx5 Sm5 Ms5 hs5 Rr5 hB5 hn5 ho5 hc5 u0_5 u1_5 ⊢
    refine e_aload_n dX10_readsOdds_74 rfl rfl ?_
    obtain ⟨a8, g6, g7⟩ := (show ∃ a8, a8 ≤ n ∧ fI σ5 89 4 = nI a8 from hs5.2.2.2.2.2)
    refine e_getI dX10_readsOdds_75 fl_RX10_85 (Ms5.s 89 rfl) (Ms5.n (by decide)) rfl ?_
    refine e_int (nI a8) g7 ?_
    refine e_istore_n (L1 := [some (.ref 89), some (.ref (148 + dT D 6)), some (.int (nI (mall D (mnv B n 0 30 0 s)))), some (.int (nI a8))]) dX10_readsOdds_78 rfl (by decide) rfl ?_
    refine e_aload_n dX10_readsOdds_79 rfl rfl ?_
    refine e_iconst (nI 2) dX10_readsOdds_80 (by decide) ?_
    refine e_aload_n dX10_readsOdds_81 rfl rfl ?_
    refine e_iconst (nI 1) dX10_readsOdds_82 (by decide) ?_
    refine e_bipush (nI 8) dX10_readsOdds_83 (by decide) ?_
    refine e_callV (k := 89) [.int (nI 1), .int (nI 8)] dX10_readsOdds_85 cc_X10_number lk_RX10_134 im_X10_number se_X10_number (by decide) (Ms5.s 89 rfl) (Ms5.n (by decide)) rfl (Nat.le_of_ble_eq_true rfl) (Nat.le_of_ble_eq_true rfl) ?_
    refine t_X10_number (B := B) (n := n) (s := .inl x) (lo := 1) (hi1 := 9) Ms5 hB5 hb hn5 n600 hs5 (by decide) (fun _ _ => by decide) (fun _ _ => hr_n (by decide)) (fun σ6 Smx6 hs6 hk6 => ?_)
    show fEv g _ mX10_readsOdds 88 [some (.ref 89), some (.ref (148 + dT D 6)), some (.int (nI (mall D (mnv B n 0 30 0 s)))), some (.int (nI a8))] [.int (nI (mnv B n 1 9 0 (.inl x))), .int (nI 2), .ref (148 + dT D 6)] σ6 Q
    have Sm6 : fSm fRqA σ σ6 := Sm5.tr (Smx6.to (fun a (q : a = 89) => Or.inl q))
    have Ms6 := Ms.sm Sm6
    have hB6 : ∀ i, i < 600 → fI σ6 90 i = nI (B i) := fun i hi => (Sm6.i (by unfold fRqA; omega) i).trans (hB i hi)
    have hn6 := (hk6 2 (by decide) (by decide) (by decide)).trans hn5
    have hc6 := (hk6 7 (by decide) (by decide) (by decide)).trans hc5
    have ho6 : ∀ j, j ≠ 4 → j ≠ 5 → j ≠ 6 → fI σ6 89 j = fI σ 89 j := fun j h1 h2 h3 => (hk6 j h1 h2 h3).trans (ho5 j h1 h2 h3)
    have Rr6 := Rr5.sm Smx6 hD (fun i h1 h2 (q : i = 89) => by omega)
    have u0_6 := (Smx6.i (fun (q : 148 + dT D 6 = 89) => by omega) 0).trans u0_5
    have u1_6 := (Smx6.i (fun (q : 148 + dT D 6 = 89) => by omega) 1).trans u1_5
    refine e_iastore 2 dX10_readsOdds_88 (Ms6.s _ (fsh_readOdds _ (by omega))) (Ms6.n (by omega)) rfl (by omega) (by decide) ?_
    have Smx7 : fSm (fun a => a = 148 + dT D 6) σ6 (fsI σ6 (148 + dT D 6) 2 (nI (mnv B n 1 9 0 (.inl x)))) := fSm_I rfl
    have Sm7 : fSm fRqA σ (fsI σ6 (148 + dT D 6) 2 (nI (mnv B n 1 9 0 (.inl x)))) := Sm6.tr (Smx7.to (fun a (q : a = 148 + dT D 6) => (by omega : a = 89 ∨ a = 91 ∨ (94 ≤ a ∧ a < 100) ∨ (108 ≤ a ∧ a < 120) ∨ (134 ≤ a ∧ a < 140) ∨ (148 ≤ a ∧ a < 172))))
    have Ms7 := Ms.sm Sm7
    have hs7 : fPs (fsI σ6 (148 + dT D 6) 2 (nI (mnv B n 1 9 0 (.inl x)))) 89 4 n (mnum B n 1 9 (.inl x)) := hs6.sm (fun q => by rw [fI_I, if_neg (by omega)])
    have Rr7 : fRr (fsI σ6 (148 + dT D 6) 2 (nI (mnv B n 1 9 0 (.inl x)))) D := Rr6.ne hD (by omega)
    have hB7 : ∀ i, i < 600 → fI (fsI σ6 (148 + dT D 6) 2 (nI (mnv B n 1 9 0 (.inl x)))) 90 i = nI (B i) := fun i hi => by rw [fI_I, if_neg (by omega)]; exact hB6 i hi
    have hn7 : fI (fsI σ6 (148 + dT D 6) 2 (nI (mnv B n 1 9 0 (.inl x)))) 89 2 = nI n := by rw [fI_I, if_neg (by omega)]; exact hn6
    have hc7 : fI (fsI σ6 (148 + dT D 6) 2 (nI (mnv B n 1 9 0 (.inl x)))) 89 7 = nI c9 := by rw [fI_I, if_neg (by omega)]; exact hc6
    have ho7 : ∀ j, j ≠ 4 → j ≠ 5 → j ≠ 6 → fI (fsI σ6 (148 + dT D 6) 2 (nI (mnv B n 1 9 0 (.inl x)))) 89 j = fI σ 89 j := fun j h1 h2 h3 => by rw [fI_I, if_neg (by omega)]; exact ho6 j h1 h2 h3
    have u0_7 : fI (fsI σ6 (148 + dT D 6) 2 (nI (mnv B n 1 9 0 (.inl x)))) (148 + dT D 6) 0 = nI (mnv B n 0 30 0 s) := by rw [fI_I, if_neg (by omega)]; exact u0_6
    have u1_7 : fI (fsI σ6 (148 + dT D 6) 2 (nI (mnv B n 1 9 0 (.inl x)))) (148 + dT D 6) 1 = nI (mnv B n 1 10 0 (mnum B n 0 30 s)) := by rw [fI_I, if_neg (by omega)]; exact u1_6
    have u2_7 : fI (fsI σ6 (148 + dT D 6) 2 (nI (mnv B n 1 9 0 (.inl x)))) (148 + dT D 6) 2 = nI (mnv B n 1 9 0 (.inl x)) := by rw [fI_I, if_pos ⟨rfl, rfl⟩]
    generalize fsI σ6 (148 + dT D 6) 2 (nI (mnv B n 1 9 0 (.inl x))) = σ7 at Smx7 Sm7 Ms7 hs7 Rr7 hB7 hn7 hc7 ho7 u0_7 u1_7 u2_7 ⊢
    have v0 : mnv B n 1 9 0 (.inl x) = 0 := rfl
    refine e_iload_n dX10_readsOdds_89 rfl rfl ?_
    refine e_aload_n dX10_readsOdds_90 rfl rfl ?_
    refine e_iconst (nI 2) dX10_readsOdds_91 (by decide) ?_
    refine e_iaload 2 dX10_readsOdds_92 (Ms7.s _ (fsh_readOdds _ (by omega))) (Ms7.n (by omega)) rfl (by omega) (by decide) ?_
    refine e_int (nI (mnv B n 1 9 0 (.inl x))) u2_7 ?_
    refine e_iadd dX10_readsOdds_93 ?_
    refine e_int (nI (mall D (mnv B n 0 30 0 s) + mnv B n 1 9 0 (.inl x))) (nI_add (mall D (mnv B n 0 30 0 s)) (mnv B n 1 9 0 (.inl x))) ?_
    refine e_bipush (nI 8) dX10_readsOdds_94 (by decide) ?_
    refine e_icmp_le 105 dX10_readsOdds_96 (by decide) (fun _ => ?_) (fun c => absurd ((nI_le' (by omega) (by omega)).mpr (by omega)) c)
    exact e_return dX10_readsOdds_105 rfl (h _ Sm7 (by rw [e0]; exact hs7) Rr7 (fun e q => by rw [e0] at q; cases q) hn7 hc7 ho7)
  | inr a2 =>
    rw [q2] at hs4 e0
    obtain ⟨f6, f7, f8, f9⟩ : a2 ≤ n ∧ fI σ4 89 4 = nI a2 ∧ fI σ4 89 5 = nI 0 ∧ fI σ4 89 6 = -1 := hs4
    have b9 := mbl_b (B := B) f6
    refine e_aload_n dX10_readsOdds_70 rfl rfl ?_
    refine e_callV (k := 89) [] dX10_readsOdds_71 cc_X10_blanks lk_RX10_98 im_X10_blanks se_X10_blanks (by decide) (Ms4.s 89 rfl) (Ms4.n (by decide)) rfl (Nat.le_of_ble_eq_true rfl) (Nat.le_of_ble_eq_true rfl) ?_
    refine t_X10_blanks (B := B) (n := n) (a := a2) Ms4 hB4 hb hn4 n600 f7 f6 (fK_v ?_)
    show fEv g _ mX10_readsOdds 74 [some (.ref 89), some (.ref (148 + dT D 6)), some (.int (nI (mall D (mnv B n 0 30 0 s)))), some (.int (nI (dT D 6)))] [] (fsI σ4 89 4 (nI (mbl B n a2))) Q
    have Smx8 : fSm (fun a => a = 89) σ4 (fsI σ4 89 4 (nI (mbl B n a2))) := (fSm_I (A := fun a => a = 89) rfl)
    have Sm8 : fSm fRqA σ (fsI σ4 89 4 (nI (mbl B n a2))) := Sm4.tr (Smx8.to (fun a (q : a = 89) => Or.inl q))
    have Ms8 := Ms.sm Sm8
    have hs8 : fPs (fsI σ4 89 4 (nI (mbl B n a2))) 89 4 n (.inr (mbl B n a2)) := ⟨b9.2, by rw [fI_I, if_pos ⟨rfl, rfl⟩], by rw [fI_I, if_neg (by omega)]; exact f8, by rw [fI_I, if_neg (by omega)]; exact f9⟩
    have Rr8 := Rr4.sm Smx8 hD (fun i h1 h2 (q : i = 89) => by omega)
    have hB8 : ∀ i, i < 600 → fI (fsI σ4 89 4 (nI (mbl B n a2))) 90 i = nI (B i) := fun i hi => (Smx8.i (fun (q : 90 = 89) => by omega) i).trans (hB4 i hi)
    have hn8 : fI (fsI σ4 89 4 (nI (mbl B n a2))) 89 2 = nI n := by rw [fI_I, if_neg (by omega)]; exact hn4
    have hc8 : fI (fsI σ4 89 4 (nI (mbl B n a2))) 89 7 = nI c9 := by rw [fI_I, if_neg (by omega)]; exact hc4
    have ho8 : ∀ j, j ≠ 4 → j ≠ 5 → j ≠ 6 → fI (fsI σ4 89 4 (nI (mbl B n a2))) 89 j = fI σ 89 j := fun j h1 h2 h3 => by rw [fI_I, if_neg (by omega)]; exact ho4 j h1 h2 h3
    have u0_8 := (Smx8.i (fun (q : 148 + dT D 6 = 89) => by omega) 0).trans u0_4
    have u1_8 := (Smx8.i (fun (q : 148 + dT D 6 = 89) => by omega) 1).trans u1_4
    generalize fsI σ4 89 4 (nI (mbl B n a2)) = σ8 at Smx8 Sm8 Ms8 hs8 Rr8 hB8 hn8 ho8 hc8 u0_8 u1_8 ⊢
    refine e_aload_n dX10_readsOdds_74 rfl rfl ?_
    refine e_getI dX10_readsOdds_75 fl_RX10_85 (Ms8.s 89 rfl) (Ms8.n (by decide)) rfl ?_
    refine e_int (nI (mbl B n a2)) hs8.2.1 ?_
    refine e_istore_n (L1 := [some (.ref 89), some (.ref (148 + dT D 6)), some (.int (nI (mall D (mnv B n 0 30 0 s)))), some (.int (nI (mbl B n a2)))]) dX10_readsOdds_78 rfl (by decide) rfl ?_
    refine e_aload_n dX10_readsOdds_79 rfl rfl ?_
    refine e_iconst (nI 2) dX10_readsOdds_80 (by decide) ?_
    refine e_aload_n dX10_readsOdds_81 rfl rfl ?_
    refine e_iconst (nI 1) dX10_readsOdds_82 (by decide) ?_
    refine e_bipush (nI 8) dX10_readsOdds_83 (by decide) ?_
    refine e_callV (k := 89) [.int (nI 1), .int (nI 8)] dX10_readsOdds_85 cc_X10_number lk_RX10_134 im_X10_number se_X10_number (by decide) (Ms8.s 89 rfl) (Ms8.n (by decide)) rfl (Nat.le_of_ble_eq_true rfl) (Nat.le_of_ble_eq_true rfl) ?_
    refine t_X10_number (B := B) (n := n) (s := .inr (mbl B n a2)) (lo := 1) (hi1 := 9) Ms8 hB8 hb hn8 n600 hs8 (by decide) (fun _ _ => by decide) (fun _ _ => hr_n (by decide)) (fun σ9 Smx9 hs9 hk9 => ?_)
    show fEv g _ mX10_readsOdds 88 [some (.ref 89), some (.ref (148 + dT D 6)), some (.int (nI (mall D (mnv B n 0 30 0 s)))), some (.int (nI (mbl B n a2)))] [.int (nI (mnv B n 1 9 0 (.inr (mbl B n a2)))), .int (nI 2), .ref (148 + dT D 6)] σ9 Q
    have Sm9 : fSm fRqA σ σ9 := Sm8.tr (Smx9.to (fun a (q : a = 89) => Or.inl q))
    have Ms9 := Ms.sm Sm9
    have hB9 : ∀ i, i < 600 → fI σ9 90 i = nI (B i) := fun i hi => (Sm9.i (by unfold fRqA; omega) i).trans (hB i hi)
    have hn9 := (hk9 2 (by decide) (by decide) (by decide)).trans hn8
    have hc9 := (hk9 7 (by decide) (by decide) (by decide)).trans hc8
    have ho9 : ∀ j, j ≠ 4 → j ≠ 5 → j ≠ 6 → fI σ9 89 j = fI σ 89 j := fun j h1 h2 h3 => (hk9 j h1 h2 h3).trans (ho8 j h1 h2 h3)
    have Rr9 := Rr8.sm Smx9 hD (fun i h1 h2 (q : i = 89) => by omega)
    have u0_9 := (Smx9.i (fun (q : 148 + dT D 6 = 89) => by omega) 0).trans u0_8
    have u1_9 := (Smx9.i (fun (q : 148 + dT D 6 = 89) => by omega) 1).trans u1_8
    refine e_iastore 2 dX10_readsOdds_88 (Ms9.s _ (fsh_readOdds _ (by omega))) (Ms9.n (by omega)) rfl (by omega) (by decide) ?_
    have Smx10 : fSm (fun a => a = 148 + dT D 6) σ9 (fsI σ9 (148 + dT D 6) 2 (nI (mnv B n 1 9 0 (.inr (mbl B n a2))))) := fSm_I rfl
    have Sm10 : fSm fRqA σ (fsI σ9 (148 + dT D 6) 2 (nI (mnv B n 1 9 0 (.inr (mbl B n a2))))) := Sm9.tr (Smx10.to (fun a (q : a = 148 + dT D 6) => (by omega : a = 89 ∨ a = 91 ∨ (94 ≤ a ∧ a < 100) ∨ (108 ≤ a ∧ a < 120) ∨ (134 ≤ a ∧ a < 140) ∨ (148 ≤ a ∧ a < 172))))
    have Ms10 := Ms.sm Sm10
    have hs10 : fPs (fsI σ9 (148 + dT D 6) 2 (nI (mnv B n 1 9 0 (.inr (mbl B n a2))))) 89 4 n (mnum B n 1 9 (.inr (mbl B n a2))) := hs9.sm (fun q => by rw [fI_I, if_neg (by omega)])
    have Rr10 : fRr (fsI σ9 (148 + dT D 6) 2 (nI (mnv B n 1 9 0 (.inr (mbl B n a2))))) D := Rr9.ne hD (by omega)
    have hB10 : ∀ i, i < 600 → fI (fsI σ9 (148 + dT D 6) 2 (nI (mnv B n 1 9 0 (.inr (mbl B n a2))))) 90 i = nI (B i) := fun i hi => by rw [fI_I, if_neg (by omega)]; exact hB9 i hi
    have hn10 : fI (fsI σ9 (148 + dT D 6) 2 (nI (mnv B n 1 9 0 (.inr (mbl B n a2))))) 89 2 = nI n := by rw [fI_I, if_neg (by omega)]; exact hn9
    have hc10 : fI (fsI σ9 (148 + dT D 6) 2 (nI (mnv B n 1 9 0 (.inr (mbl B n a2))))) 89 7 = nI c9 := by rw [fI_I, if_neg (by omega)]; exact hc9
    have ho10 : ∀ j, j ≠ 4 → j ≠ 5 → j ≠ 6 → fI (fsI σ9 (148 + dT D 6) 2 (nI (mnv B n 1 9 0 (.inr (mbl B n a2))))) 89 j = fI σ 89 j := fun j h1 h2 h3 => by rw [fI_I, if_neg (by omega)]; exact ho9 j h1 h2 h3
    have u0_10 : fI (fsI σ9 (148 + dT D 6) 2 (nI (mnv B n 1 9 0 (.inr (mbl B n a2))))) (148 + dT D 6) 0 = nI (mnv B n 0 30 0 s) := by rw [fI_I, if_neg (by omega)]; exact u0_9
    have u1_10 : fI (fsI σ9 (148 + dT D 6) 2 (nI (mnv B n 1 9 0 (.inr (mbl B n a2))))) (148 + dT D 6) 1 = nI (mnv B n 1 10 0 (mnum B n 0 30 s)) := by rw [fI_I, if_neg (by omega)]; exact u1_9
    have u2_10 : fI (fsI σ9 (148 + dT D 6) 2 (nI (mnv B n 1 9 0 (.inr (mbl B n a2))))) (148 + dT D 6) 2 = nI (mnv B n 1 9 0 (.inr (mbl B n a2))) := by rw [fI_I, if_pos ⟨rfl, rfl⟩]
    generalize fsI σ9 (148 + dT D 6) 2 (nI (mnv B n 1 9 0 (.inr (mbl B n a2)))) = σ10 at Smx10 Sm10 Ms10 hs10 Rr10 hB10 hn10 hc10 ho10 u0_10 u1_10 u2_10 ⊢
    have bl1 := mnum_bl (B := B) (lo := 1) (hi := 9) f6
    have bl2 := mnv_bl (B := B) (lo := 1) (hi := 9) (d := 0) f6
    have mc := mnum_c (B := B) (n := n) (h := 9 - mall D (mnv B n 0 30 0 s)) (s := .inr a2) (by omega)
    rw [← bl1, ← bl2] at mc
    cases q3 : mnum B n 1 9 (.inr (mbl B n a2)) with
    | inl y =>
      rw [q3] at hs10 mc
      have v0 : mnv B n 1 9 0 (.inr (mbl B n a2)) = 0 := mnv_d (fun e q => by rw [q3] at q; cases q)
      refine e_iload_n dX10_readsOdds_89 rfl rfl ?_
      refine e_aload_n dX10_readsOdds_90 rfl rfl ?_
      refine e_iconst (nI 2) dX10_readsOdds_91 (by decide) ?_
      refine e_iaload 2 dX10_readsOdds_92 (Ms10.s _ (fsh_readOdds _ (by omega))) (Ms10.n (by omega)) rfl (by omega) (by decide) ?_
      refine e_int (nI (mnv B n 1 9 0 (.inr (mbl B n a2)))) u2_10 ?_
      refine e_iadd dX10_readsOdds_93 ?_
      refine e_int (nI (mall D (mnv B n 0 30 0 s) + mnv B n 1 9 0 (.inr (mbl B n a2)))) (nI_add (mall D (mnv B n 0 30 0 s)) (mnv B n 1 9 0 (.inr (mbl B n a2)))) ?_
      refine e_bipush (nI 8) dX10_readsOdds_94 (by decide) ?_
      refine e_icmp_le 105 dX10_readsOdds_96 (by decide) (fun _ => ?_) (fun c => absurd ((nI_le' (by omega) (by omega)).mpr (by omega)) c)
      exact e_return dX10_readsOdds_105 rfl (h _ Sm10 (by rw [e0, mc]; exact hs10) Rr10 (fun e q => by rw [e0, mc] at q; cases q) hn10 hc10 ho10)
    | inr e9 =>
      rw [q3] at hs10 mc
      have hz : fI σ10 89 5 = nI 0 := (show e9 ≤ n ∧ fI σ10 89 4 = nI e9 ∧ fI σ10 89 5 = nI 0 ∧ fI σ10 89 6 = -1 from hs10).2.2.1
      have vi := mnv_i q3 0
      refine e_iload_n dX10_readsOdds_89 rfl rfl ?_
      refine e_aload_n dX10_readsOdds_90 rfl rfl ?_
      refine e_iconst (nI 2) dX10_readsOdds_91 (by decide) ?_
      refine e_iaload 2 dX10_readsOdds_92 (Ms10.s _ (fsh_readOdds _ (by omega))) (Ms10.n (by omega)) rfl (by omega) (by decide) ?_
      refine e_int (nI (mnv B n 1 9 0 (.inr (mbl B n a2)))) u2_10 ?_
      refine e_iadd dX10_readsOdds_93 ?_
      refine e_int (nI (mall D (mnv B n 0 30 0 s) + mnv B n 1 9 0 (.inr (mbl B n a2)))) (nI_add (mall D (mnv B n 0 30 0 s)) (mnv B n 1 9 0 (.inr (mbl B n a2)))) ?_
      refine e_bipush (nI 8) dX10_readsOdds_94 (by decide) ?_
      refine e_icmp_le 105 dX10_readsOdds_96 (by decide) (fun c96 => ?_) (fun c96 => ?_)
      · rw [nI_le' (by omega) (by omega)] at c96
        have m9 := mc.trans (if_pos (by omega))
        have m8 := mnv_c m9 (by omega)
        refine e_return dX10_readsOdds_105 rfl (h _ Sm10 (by rw [e0, m9]; exact hs10) Rr10 (fun e q c hc9 => ?_) hn10 hc10 ho10)
        rw [bl2, m8] at u2_10
        have mr : nI ((mr3 (mnv B n 0 30 0 s) (mnv B n 1 10 0 (mnum B n 0 30 s)) (mnv B n 1 (9 - mall D (mnv B n 0 30 0 s)) 0 (mnum B n 1 10 (mnum B n 0 30 s)))) 2) = nI (mnv B n 1 (9 - mall D (mnv B n 0 30 0 s)) 0 (.inr a2)) := by rw [q2]; rfl
        rcases (show c = 0 ∨ c = 1 ∨ c = 2 by omega) with rfl | rfl | rfl
        · exact u0_10
        · exact u1_10
        · exact u2_10.trans mr.symm
      · rw [nI_le' (by omega) (by omega)] at c96
        refine e_aload_n dX10_readsOdds_99 rfl rfl ?_
        refine e_iconst (nI 2) dX10_readsOdds_100 (by decide) ?_
        refine e_iload_n dX10_readsOdds_101 rfl rfl ?_
        refine e_callV (k := 89) [.int (nI 2), .int (nI (mbl B n a2))] dX10_readsOdds_102 cc_X10_wrong lk_RX10_105 im_X10_wrong se_X10_wrong (by decide) (Ms10.s 89 rfl) (Ms10.n (by decide)) rfl (Nat.le_of_ble_eq_true rfl) (Nat.le_of_ble_eq_true rfl) ?_
        refine t_X10_wrong Ms10 hz (fK_v ?_)
        show fEv g _ mX10_readsOdds 105 [some (.ref 89), some (.ref (148 + dT D 6)), some (.int (nI (mall D (mnv B n 0 30 0 s)))), some (.int (nI (mbl B n a2)))] [] (fsI (fsI σ10 89 5 (nI 2)) 89 6 (nI (mbl B n a2))) Q
        have m9 := mc.trans (if_neg (by omega))
        exact e_return dX10_readsOdds_105 rfl (h _ (Sm10.tr (((fSm_I (A := fun a => a = 89) rfl).tr (fSm_I rfl)).to (fun a (q : a = 89) => Or.inl q))) (by rw [e0, m9]; exact ⟨by rw [fI_I, if_neg (by omega), fI_I, if_pos ⟨rfl, rfl⟩], by rw [fI_I, if_pos ⟨rfl, rfl⟩], by show 1 ≤ 2; decide, by show 2 ≤ 3; decide, by show mbl B n a2 ≤ n; omega, e9, hs10.1, by rw [fI_I, if_neg (by omega), fI_I, if_neg (by omega)]; exact hs10.2.1⟩) (Rr10.sm ((fSm_I (A := fun a => a = 89) rfl).tr (fSm_I rfl)) hD (fun i h1 h2 (q : i = 89) => by omega)) (fun e q => by rw [e0, m9] at q; cases q) (by rw [fI_I, if_neg (by omega), fI_I, if_neg (by omega)]; exact hn10) (by rw [fI_I, if_neg (by omega), fI_I, if_neg (by omega)]; exact hc10) (fun j h1 h2 h3 => by rw [fI_I, if_neg (by omega), fI_I, if_neg (by omega)]; exact ho10 j h1 h2 h3))
