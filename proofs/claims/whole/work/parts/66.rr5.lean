set_option maxRecDepth 20000 in
theorem l_X10_cl0 {g : fGP} {d : Nat} {σ : fAH} {Q : fRes → fAH → Prop} {B : Nat → Nat} {n : Nat} {D : fSD} {s : fP} {c9 : Nat} (Ms : fMs g σ) (hB : ∀ i, i < 600 → fI σ 90 i = nI (B i)) (hb : ∀ i, B i < 256) (hn : fI σ 89 2 = nI n) (hn6 : n ≤ 600) (hc : fI σ 89 7 = nI c9) (Rr : fRr σ D) (hD : fWD D) (hs : fPs σ 89 4 n s) (hfl : dT D 0 < 6) (h : ∀ σ', fSm fRqA σ σ' → fPs σ' 89 4 n (mse B n (mns B n 0 D s).1) → (∀ e, mse B n (mns B n 0 D s).1 = .inr e → fRr σ' (mns B n 0 D s).2) → fI σ' 89 2 = nI n → fI σ' 89 7 = nI c9 → (∀ j, j ≠ 4 → j ≠ 5 → j ≠ 6 → fI σ' 89 j = fI σ 89 j) → Q (.inl none) σ') : fEv g (d + 4) mX10_clause 121 [some (.ref 89), some (.int (nI 0)), none] [] σ Q := by
  obtain ⟨t0, t1, t2, t3, t4, t5, t6⟩ := id hD.1
  have n600 := hn6
  refine e_iload_n dX10_clause_121 rfl rfl ?_
  refine e_tswIn (off := 38) 160 dX10_clause_122 (by decide) (by decide) (by decide) (by decide) ?_
  refine e_aload_n dX10_clause_160 rfl rfl ?_
  refine e_getR (q := 93) dX10_clause_161 fl_RX10_25 (Ms.s 89 rfl) (Ms.n (by decide)) rfl (Ms.r 89 11 rfl) (by unfold fscr; omega) ?_
  refine e_aload_n dX10_clause_164 rfl rfl ?_
  refine e_getR (q := 91) dX10_clause_165 fl_RX10_17 (Ms.s 89 rfl) (Ms.n (by decide)) rfl (Ms.r 89 9 rfl) (by unfold fscr; omega) ?_
  refine e_iconst (nI 0) dX10_clause_168 (by decide) ?_
  refine e_iaload 0 dX10_clause_169 (Ms.s 91 rfl) (Ms.n (by decide)) rfl (by omega) (by decide) ?_
  refine e_int (nI (dT D 0)) (Rr.1 0 (by decide)) ?_
  refine e_aaload (q := 94 + (dT D 0)) (dT D 0) dX10_clause_170 (Ms.s 93 rfl) (by decide) (Ms.n (by decide)) rfl (by omega) (by decide) (Ms.r 93 _ (frf_readBlock _ (by omega))) (by unfold fscr; omega) ?_
  refine e_astore_n (L1 := [some (.ref 89), some (.int (nI 0)), some (.ref (94 + (dT D 0)))]) dX10_clause_171 rfl (by decide) rfl ?_
  refine e_aload_n dX10_clause_172 rfl rfl ?_
  refine e_iconst (nI 0) dX10_clause_173 (by decide) ?_
  refine e_aload_n dX10_clause_174 rfl rfl ?_
  refine e_iconst (nI 2) dX10_clause_175 (by decide) ?_
  refine e_bipush (nI 12) dX10_clause_176 (by decide) ?_
  refine e_callV (k := 89) [.int (nI 2), .int (nI 12)] dX10_clause_178 cc_X10_number lk_RX10_134 im_X10_number se_X10_number (by decide) (Ms.s 89 rfl) (Ms.n (by decide)) rfl (Nat.le_of_ble_eq_true rfl) (Nat.le_of_ble_eq_true rfl) ?_
  refine t_X10_number (B := B) (n := n) (s := s) (lo := 2) (hi1 := 13) Ms hB hb hn n600 hs (by decide) (fun _ _ => by decide) (fun _ _ => hr_n (by decide)) (fun σ1 Smx1 hs1 hk1 => ?_)
  show fEv g _ mX10_clause 181 [some (.ref 89), some (.int (nI 0)), some (.ref (94 + (dT D 0)))] [.int (nI (mnv B n 2 13 0 s)), .int (nI 0), .ref (94 + (dT D 0))] σ1 Q
  have Sm1 : fSm fRqA σ σ1 := (Smx1.to (fun a (q : a = 89) => Or.inl q))
  have Ms1 := Ms.sm Sm1
  have hB1 : ∀ i, i < 600 → fI σ1 90 i = nI (B i) := fun i hi => (Sm1.i (by unfold fRqA; omega) i).trans (hB i hi)
  have hn1 := (hk1 2 (by decide) (by decide) (by decide)).trans hn
  have hc1 := (hk1 7 (by decide) (by decide) (by decide)).trans hc
  have ho1 : ∀ j, j ≠ 4 → j ≠ 5 → j ≠ 6 → fI σ1 89 j = fI σ 89 j := fun j h1 h2 h3 => (hk1 j h1 h2 h3)
  have Rr1 := Rr.sm Smx1 hD (fun i h1 h2 (q : i = 89) => by omega)
  refine e_iastore 0 dX10_clause_181 (Ms1.s _ (fsh_readBlock _ (by omega))) (Ms1.n (by omega)) rfl (by omega) (by decide) ?_
  have Smx2 : fSm (fun a => a = 94 + (dT D 0)) σ1 (fsI σ1 (94 + (dT D 0)) 0 (nI (mnv B n 2 13 0 s))) := fSm_I rfl
  have Sm2 : fSm fRqA σ (fsI σ1 (94 + (dT D 0)) 0 (nI (mnv B n 2 13 0 s))) := Sm1.tr (Smx2.to (fun a (q : a = 94 + (dT D 0)) => (by omega : a = 89 ∨ a = 91 ∨ (94 ≤ a ∧ a < 100) ∨ (108 ≤ a ∧ a < 120) ∨ (134 ≤ a ∧ a < 140) ∨ (148 ≤ a ∧ a < 172))))
  have Ms2 := Ms.sm Sm2
  have hs2 : fPs (fsI σ1 (94 + (dT D 0)) 0 (nI (mnv B n 2 13 0 s))) 89 4 n (mnum B n 2 13 s) := hs1.sm (fun q => by rw [fI_I, if_neg (by omega)])
  have Rr2 : fRr (fsI σ1 (94 + (dT D 0)) 0 (nI (mnv B n 2 13 0 s))) D := Rr1.ne hD (by omega)
  have hB2 : ∀ i, i < 600 → fI (fsI σ1 (94 + (dT D 0)) 0 (nI (mnv B n 2 13 0 s))) 90 i = nI (B i) := fun i hi => by rw [fI_I, if_neg (by omega)]; exact hB1 i hi
  have hn2 : fI (fsI σ1 (94 + (dT D 0)) 0 (nI (mnv B n 2 13 0 s))) 89 2 = nI n := by rw [fI_I, if_neg (by omega)]; exact hn1
  have hc2 : fI (fsI σ1 (94 + (dT D 0)) 0 (nI (mnv B n 2 13 0 s))) 89 7 = nI c9 := by rw [fI_I, if_neg (by omega)]; exact hc1
  have ho2 : ∀ j, j ≠ 4 → j ≠ 5 → j ≠ 6 → fI (fsI σ1 (94 + (dT D 0)) 0 (nI (mnv B n 2 13 0 s))) 89 j = fI σ 89 j := fun j h1 h2 h3 => by rw [fI_I, if_neg (by omega)]; exact ho1 j h1 h2 h3
  have u0_2 : fI (fsI σ1 (94 + (dT D 0)) 0 (nI (mnv B n 2 13 0 s))) (94 + (dT D 0)) 0 = nI (mnv B n 2 13 0 s) := by rw [fI_I, if_pos ⟨rfl, rfl⟩]
  generalize fsI σ1 (94 + (dT D 0)) 0 (nI (mnv B n 2 13 0 s)) = σ2 at Smx2 Sm2 Ms2 hs2 Rr2 hB2 hn2 hc2 ho2 u0_2 ⊢
  refine e_aload_n dX10_clause_182 rfl rfl ?_
  refine e_iconst (nI 1) dX10_clause_183 (by decide) ?_
  refine e_aload_n dX10_clause_184 rfl rfl ?_
  refine e_iconst (nI 2) dX10_clause_185 (by decide) ?_
  refine e_bipush (nI 12) dX10_clause_186 (by decide) ?_
  refine e_callV (k := 89) [.int (nI 2), .int (nI 12)] dX10_clause_188 cc_X10_number lk_RX10_134 im_X10_number se_X10_number (by decide) (Ms2.s 89 rfl) (Ms2.n (by decide)) rfl (Nat.le_of_ble_eq_true rfl) (Nat.le_of_ble_eq_true rfl) ?_
  refine t_X10_number (B := B) (n := n) (s := mnum B n 2 13 s) (lo := 2) (hi1 := 13) Ms2 hB2 hb hn2 n600 hs2 (by decide) (fun _ _ => by decide) (fun _ _ => hr_n (by decide)) (fun σ3 Smx3 hs3 hk3 => ?_)
  show fEv g _ mX10_clause 191 [some (.ref 89), some (.int (nI 0)), some (.ref (94 + (dT D 0)))] [.int (nI (mnv B n 2 13 0 (mnum B n 2 13 s))), .int (nI 1), .ref (94 + (dT D 0))] σ3 Q
  have Sm3 : fSm fRqA σ σ3 := Sm2.tr (Smx3.to (fun a (q : a = 89) => Or.inl q))
  have Ms3 := Ms.sm Sm3
  have hB3 : ∀ i, i < 600 → fI σ3 90 i = nI (B i) := fun i hi => (Sm3.i (by unfold fRqA; omega) i).trans (hB i hi)
  have hn3 := (hk3 2 (by decide) (by decide) (by decide)).trans hn2
  have hc3 := (hk3 7 (by decide) (by decide) (by decide)).trans hc2
  have ho3 : ∀ j, j ≠ 4 → j ≠ 5 → j ≠ 6 → fI σ3 89 j = fI σ 89 j := fun j h1 h2 h3 => (hk3 j h1 h2 h3).trans (ho2 j h1 h2 h3)
  have Rr3 := Rr2.sm Smx3 hD (fun i h1 h2 (q : i = 89) => by omega)
  have u0_3 := (Smx3.i (fun (q : 94 + (dT D 0) = 89) => by omega) 0).trans u0_2
  refine e_iastore 1 dX10_clause_191 (Ms3.s _ (fsh_readBlock _ (by omega))) (Ms3.n (by omega)) rfl (by omega) (by decide) ?_
  have Smx4 : fSm (fun a => a = 94 + (dT D 0)) σ3 (fsI σ3 (94 + (dT D 0)) 1 (nI (mnv B n 2 13 0 (mnum B n 2 13 s)))) := fSm_I rfl
  have Sm4 : fSm fRqA σ (fsI σ3 (94 + (dT D 0)) 1 (nI (mnv B n 2 13 0 (mnum B n 2 13 s)))) := Sm3.tr (Smx4.to (fun a (q : a = 94 + (dT D 0)) => (by omega : a = 89 ∨ a = 91 ∨ (94 ≤ a ∧ a < 100) ∨ (108 ≤ a ∧ a < 120) ∨ (134 ≤ a ∧ a < 140) ∨ (148 ≤ a ∧ a < 172))))
  have Ms4 := Ms.sm Sm4
  have hs4 : fPs (fsI σ3 (94 + (dT D 0)) 1 (nI (mnv B n 2 13 0 (mnum B n 2 13 s)))) 89 4 n (mnum B n 2 13 (mnum B n 2 13 s)) := hs3.sm (fun q => by rw [fI_I, if_neg (by omega)])
  have Rr4 : fRr (fsI σ3 (94 + (dT D 0)) 1 (nI (mnv B n 2 13 0 (mnum B n 2 13 s)))) D := Rr3.ne hD (by omega)
  have hB4 : ∀ i, i < 600 → fI (fsI σ3 (94 + (dT D 0)) 1 (nI (mnv B n 2 13 0 (mnum B n 2 13 s)))) 90 i = nI (B i) := fun i hi => by rw [fI_I, if_neg (by omega)]; exact hB3 i hi
  have hn4 : fI (fsI σ3 (94 + (dT D 0)) 1 (nI (mnv B n 2 13 0 (mnum B n 2 13 s)))) 89 2 = nI n := by rw [fI_I, if_neg (by omega)]; exact hn3
  have hc4 : fI (fsI σ3 (94 + (dT D 0)) 1 (nI (mnv B n 2 13 0 (mnum B n 2 13 s)))) 89 7 = nI c9 := by rw [fI_I, if_neg (by omega)]; exact hc3
  have ho4 : ∀ j, j ≠ 4 → j ≠ 5 → j ≠ 6 → fI (fsI σ3 (94 + (dT D 0)) 1 (nI (mnv B n 2 13 0 (mnum B n 2 13 s)))) 89 j = fI σ 89 j := fun j h1 h2 h3 => by rw [fI_I, if_neg (by omega)]; exact ho3 j h1 h2 h3
  have u0_4 : fI (fsI σ3 (94 + (dT D 0)) 1 (nI (mnv B n 2 13 0 (mnum B n 2 13 s)))) (94 + (dT D 0)) 0 = nI (mnv B n 2 13 0 s) := by rw [fI_I, if_neg (by omega)]; exact u0_3
  have u1_4 : fI (fsI σ3 (94 + (dT D 0)) 1 (nI (mnv B n 2 13 0 (mnum B n 2 13 s)))) (94 + (dT D 0)) 1 = nI (mnv B n 2 13 0 (mnum B n 2 13 s)) := by rw [fI_I, if_pos ⟨rfl, rfl⟩]
  generalize fsI σ3 (94 + (dT D 0)) 1 (nI (mnv B n 2 13 0 (mnum B n 2 13 s))) = σ4 at Smx4 Sm4 Ms4 hs4 Rr4 hB4 hn4 hc4 ho4 u0_4 u1_4 ⊢
  refine e_aload_n dX10_clause_192 rfl rfl ?_
  refine e_iconst (nI 2) dX10_clause_193 (by decide) ?_
  refine e_aload_n dX10_clause_194 rfl rfl ?_
  refine e_iconst (nI 0) dX10_clause_195 (by decide) ?_
  refine e_iconst (nI 1) dX10_clause_196 (by decide) ?_
  refine e_callV (k := 89) [.int (nI 0), .int (nI 1)] dX10_clause_197 cc_X10_number lk_RX10_134 im_X10_number se_X10_number (by decide) (Ms4.s 89 rfl) (Ms4.n (by decide)) rfl (Nat.le_of_ble_eq_true rfl) (Nat.le_of_ble_eq_true rfl) ?_
  refine t_X10_number (B := B) (n := n) (s := mnum B n 2 13 (mnum B n 2 13 s)) (lo := 0) (hi1 := 2) Ms4 hB4 hb hn4 n600 hs4 (by decide) (fun _ _ => by decide) (fun _ _ => hr_n (by decide)) (fun σ5 Smx5 hs5 hk5 => ?_)
  show fEv g _ mX10_clause 200 [some (.ref 89), some (.int (nI 0)), some (.ref (94 + (dT D 0)))] [.int (nI (mnv B n 0 2 0 (mnum B n 2 13 (mnum B n 2 13 s)))), .int (nI 2), .ref (94 + (dT D 0))] σ5 Q
  have Sm5 : fSm fRqA σ σ5 := Sm4.tr (Smx5.to (fun a (q : a = 89) => Or.inl q))
  have Ms5 := Ms.sm Sm5
  have hB5 : ∀ i, i < 600 → fI σ5 90 i = nI (B i) := fun i hi => (Sm5.i (by unfold fRqA; omega) i).trans (hB i hi)
  have hn5 := (hk5 2 (by decide) (by decide) (by decide)).trans hn4
  have hc5 := (hk5 7 (by decide) (by decide) (by decide)).trans hc4
  have ho5 : ∀ j, j ≠ 4 → j ≠ 5 → j ≠ 6 → fI σ5 89 j = fI σ 89 j := fun j h1 h2 h3 => (hk5 j h1 h2 h3).trans (ho4 j h1 h2 h3)
  have Rr5 := Rr4.sm Smx5 hD (fun i h1 h2 (q : i = 89) => by omega)
  have u0_5 := (Smx5.i (fun (q : 94 + (dT D 0) = 89) => by omega) 0).trans u0_4
  have u1_5 := (Smx5.i (fun (q : 94 + (dT D 0) = 89) => by omega) 1).trans u1_4
  refine e_iastore 2 dX10_clause_200 (Ms5.s _ (fsh_readBlock _ (by omega))) (Ms5.n (by omega)) rfl (by omega) (by decide) ?_
  have Smx6 : fSm (fun a => a = 94 + (dT D 0)) σ5 (fsI σ5 (94 + (dT D 0)) 2 (nI (mnv B n 0 2 0 (mnum B n 2 13 (mnum B n 2 13 s))))) := fSm_I rfl
  have Sm6 : fSm fRqA σ (fsI σ5 (94 + (dT D 0)) 2 (nI (mnv B n 0 2 0 (mnum B n 2 13 (mnum B n 2 13 s))))) := Sm5.tr (Smx6.to (fun a (q : a = 94 + (dT D 0)) => (by omega : a = 89 ∨ a = 91 ∨ (94 ≤ a ∧ a < 100) ∨ (108 ≤ a ∧ a < 120) ∨ (134 ≤ a ∧ a < 140) ∨ (148 ≤ a ∧ a < 172))))
  have Ms6 := Ms.sm Sm6
  have hs6 : fPs (fsI σ5 (94 + (dT D 0)) 2 (nI (mnv B n 0 2 0 (mnum B n 2 13 (mnum B n 2 13 s))))) 89 4 n (mnum B n 0 2 (mnum B n 2 13 (mnum B n 2 13 s))) := hs5.sm (fun q => by rw [fI_I, if_neg (by omega)])
  have Rr6 : fRr (fsI σ5 (94 + (dT D 0)) 2 (nI (mnv B n 0 2 0 (mnum B n 2 13 (mnum B n 2 13 s))))) D := Rr5.ne hD (by omega)
  have hB6 : ∀ i, i < 600 → fI (fsI σ5 (94 + (dT D 0)) 2 (nI (mnv B n 0 2 0 (mnum B n 2 13 (mnum B n 2 13 s))))) 90 i = nI (B i) := fun i hi => by rw [fI_I, if_neg (by omega)]; exact hB5 i hi
  have hn6 : fI (fsI σ5 (94 + (dT D 0)) 2 (nI (mnv B n 0 2 0 (mnum B n 2 13 (mnum B n 2 13 s))))) 89 2 = nI n := by rw [fI_I, if_neg (by omega)]; exact hn5
  have hc6 : fI (fsI σ5 (94 + (dT D 0)) 2 (nI (mnv B n 0 2 0 (mnum B n 2 13 (mnum B n 2 13 s))))) 89 7 = nI c9 := by rw [fI_I, if_neg (by omega)]; exact hc5
  have ho6 : ∀ j, j ≠ 4 → j ≠ 5 → j ≠ 6 → fI (fsI σ5 (94 + (dT D 0)) 2 (nI (mnv B n 0 2 0 (mnum B n 2 13 (mnum B n 2 13 s))))) 89 j = fI σ 89 j := fun j h1 h2 h3 => by rw [fI_I, if_neg (by omega)]; exact ho5 j h1 h2 h3
  have u0_6 : fI (fsI σ5 (94 + (dT D 0)) 2 (nI (mnv B n 0 2 0 (mnum B n 2 13 (mnum B n 2 13 s))))) (94 + (dT D 0)) 0 = nI (mnv B n 2 13 0 s) := by rw [fI_I, if_neg (by omega)]; exact u0_5
  have u1_6 : fI (fsI σ5 (94 + (dT D 0)) 2 (nI (mnv B n 0 2 0 (mnum B n 2 13 (mnum B n 2 13 s))))) (94 + (dT D 0)) 1 = nI (mnv B n 2 13 0 (mnum B n 2 13 s)) := by rw [fI_I, if_neg (by omega)]; exact u1_5
  have u2_6 : fI (fsI σ5 (94 + (dT D 0)) 2 (nI (mnv B n 0 2 0 (mnum B n 2 13 (mnum B n 2 13 s))))) (94 + (dT D 0)) 2 = nI (mnv B n 0 2 0 (mnum B n 2 13 (mnum B n 2 13 s))) := by rw [fI_I, if_pos ⟨rfl, rfl⟩]
  generalize fsI σ5 (94 + (dT D 0)) 2 (nI (mnv B n 0 2 0 (mnum B n 2 13 (mnum B n 2 13 s)))) = σ6 at Smx6 Sm6 Ms6 hs6 Rr6 hB6 hn6 hc6 ho6 u0_6 u1_6 u2_6 ⊢
  refine e_goto 351 dX10_clause_201 (by decide) ?_
  refine e_iload_n dX10_clause_351 rfl rfl ?_
  refine e_iconst (nI 3) dX10_clause_352 (by decide) ?_
  refine e_icmp_lt 362 dX10_clause_353 (by decide) (fun _ => ?_) (fun c => absurd c (by decide))
  refine e_aload_n dX10_clause_362 rfl rfl ?_
  refine e_getR (q := 91) dX10_clause_363 fl_RX10_17 (Ms6.s 89 rfl) (Ms6.n (by decide)) rfl (Ms6.r 89 9 rfl) (by unfold fscr; omega) ?_
  refine e_iload_n dX10_clause_366 rfl rfl ?_
  refine e_dup2 dX10_clause_367 rfl rfl ?_
  refine e_iaload 0 dX10_clause_368 (Ms6.s 91 rfl) (Ms6.n (by decide)) rfl (by omega) (by decide) ?_
  refine e_int (nI (dT D 0)) (Rr6.1 0 (by decide)) ?_
  refine e_iconst (nI 1) dX10_clause_369 (by decide) ?_
  refine e_iadd dX10_clause_370 ?_
  refine e_int (nI (dT D 0 + 1)) (nI_add (dT D 0) 1) ?_
  refine e_iastore 0 dX10_clause_371 (Ms6.s 91 rfl) (Ms6.n (by decide)) rfl (by omega) (by decide) ?_
  refine e_aload_n dX10_clause_372 rfl rfl ?_
  refine e_callV (k := 89) [] dX10_clause_373 cc_X10_closes lk_RX10_145 im_X10_closes se_X10_closes (by decide) (Ms6.s 89 rfl) (Ms6.n (by decide)) rfl (Nat.le_of_ble_eq_true rfl) (Nat.le_of_ble_eq_true rfl) ?_
  refine t_X10_closes Ms6 hB6 hb hn6 n600 (hs6.sm (fun _ => rfl)) (fun σz Smz hsz hkz => fK_v ?_)
  show fEv g _ mX10_clause 376 [some (.ref 89), some (.int (nI 0)), some (.ref (94 + (dT D 0)))] [] σz Q
  have Smy : fSm fRqA σ σz := (Sm6.tr (fSm_I (A := fRqA) (by unfold fRqA; omega))).tr (Smz.to (fun a (q : a = 89) => Or.inl q))
  refine e_return dX10_clause_376 rfl (h _ Smy hsz (fun e q => ?_) ((hkz 2 (by decide) (by decide) (by decide)).trans hn6) ((hkz 7 (by decide) (by decide) (by decide)).trans hc6) (fun j h1 h2 h3 => (hkz j h1 h2 h3).trans (ho6 j h1 h2 h3)))
  obtain ⟨a9, h9⟩ := mse_ok q
  have hr9 : ∀ c, c < 3 → fI σ6 (94 + (dT D 0)) c = nI ((mr3 (mnv B n 2 13 0 s) (mnv B n 2 13 0 (mnum B n 2 13 s)) (mnv B n 0 2 0 (mnum B n 2 13 (mnum B n 2 13 s)))) c) := fun c hc9 => by
    rcases (show c = 0 ∨ c = 1 ∨ c = 2 by omega) with rfl | rfl | rfl
    · exact u0_6
    · exact u1_6
    · exact u2_6
  exact (Rr6.AB hD hfl hr9).sm Smz (mns_ok hD (fun q => by have := of_decide_eq_true q; omega) (by decide) h9) (fun i h1 h2 (q : i = 89) => by omega)
set_option maxRecDepth 20000 in
theorem l_X10_cl1 {g : fGP} {d : Nat} {σ : fAH} {Q : fRes → fAH → Prop} {B : Nat → Nat} {n : Nat} {D : fSD} {s : fP} {c9 : Nat} (Ms : fMs g σ) (hB : ∀ i, i < 600 → fI σ 90 i = nI (B i)) (hb : ∀ i, B i < 256) (hn : fI σ 89 2 = nI n) (hn6 : n ≤ 600) (hc : fI σ 89 7 = nI c9) (Rr : fRr σ D) (hD : fWD D) (hs : fPs σ 89 4 n s) (hfl : dT D 1 < 12) (h : ∀ σ', fSm fRqA σ σ' → fPs σ' 89 4 n (mse B n (mns B n 1 D s).1) → (∀ e, mse B n (mns B n 1 D s).1 = .inr e → fRr σ' (mns B n 1 D s).2) → fI σ' 89 2 = nI n → fI σ' 89 7 = nI c9 → (∀ j, j ≠ 4 → j ≠ 5 → j ≠ 6 → fI σ' 89 j = fI σ 89 j) → Q (.inl none) σ') : fEv g (d + 4) mX10_clause 121 [some (.ref 89), some (.int (nI 1)), none] [] σ Q := by
  obtain ⟨t0, t1, t2, t3, t4, t5, t6⟩ := id hD.1
  have n600 := hn6
  refine e_iload_n dX10_clause_121 rfl rfl ?_
  refine e_tswIn (off := 82) 204 dX10_clause_122 (by decide) (by decide) (by decide) (by decide) ?_
  refine e_aload_n dX10_clause_204 rfl rfl ?_
  refine e_aload_n dX10_clause_205 rfl rfl ?_
  refine e_getR (q := 107) dX10_clause_206 fl_RX10_31 (Ms.s 89 rfl) (Ms.n (by decide)) rfl (Ms.r 89 13 rfl) (by unfold fscr; omega) ?_
  refine e_aload_n dX10_clause_209 rfl rfl ?_
  refine e_getR (q := 91) dX10_clause_210 fl_RX10_17 (Ms.s 89 rfl) (Ms.n (by decide)) rfl (Ms.r 89 9 rfl) (by unfold fscr; omega) ?_
  refine e_iconst (nI 1) dX10_clause_213 (by decide) ?_
  refine e_iaload 1 dX10_clause_214 (Ms.s 91 rfl) (Ms.n (by decide)) rfl (by omega) (by decide) ?_
  refine e_int (nI (dT D 1)) (Rr.1 1 (by decide)) ?_
  refine e_aaload (q := 108 + (dT D 1)) (dT D 1) dX10_clause_215 (Ms.s 107 rfl) (by decide) (Ms.n (by decide)) rfl (by omega) (by decide) (Ms.r 107 _ (frf_readSlot _ (by omega))) (by unfold fscr; omega) ?_
  refine e_callV (k := 89) [.ref (108 + (dT D 1))] dX10_clause_216 cc_X10_readsSlot lk_RX10_138 im_X10_readsSlot se_X10_readsSlot (by decide) (Ms.s 89 rfl) (Ms.n (by decide)) rfl (Nat.le_of_ble_eq_true rfl) (Nat.le_of_ble_eq_true rfl) ?_
  refine t_X10_readsSlot Ms hB hb hn n600 hc Rr hD hs hfl (fun σ1 Sm1 hs1 Rr1 row1 hn1 hc1 ho1 => fK_v ?_)
  show fEv g _ mX10_clause 219 [some (.ref 89), some (.int (nI 1)), none] [] σ1 Q
  have Ms1 := Ms.sm Sm1
  have hB1 : ∀ i, i < 600 → fI σ1 90 i = nI (B i) := fun i hi => (Sm1.i (by unfold fRqA; omega) i).trans (hB i hi)
  refine e_goto 351 dX10_clause_219 (by decide) ?_
  refine e_iload_n dX10_clause_351 rfl rfl ?_
  refine e_iconst (nI 3) dX10_clause_352 (by decide) ?_
  refine e_icmp_lt 362 dX10_clause_353 (by decide) (fun _ => ?_) (fun c => absurd c (by decide))
  refine e_aload_n dX10_clause_362 rfl rfl ?_
  refine e_getR (q := 91) dX10_clause_363 fl_RX10_17 (Ms1.s 89 rfl) (Ms1.n (by decide)) rfl (Ms1.r 89 9 rfl) (by unfold fscr; omega) ?_
  refine e_iload_n dX10_clause_366 rfl rfl ?_
  refine e_dup2 dX10_clause_367 rfl rfl ?_
  refine e_iaload 1 dX10_clause_368 (Ms1.s 91 rfl) (Ms1.n (by decide)) rfl (by omega) (by decide) ?_
  refine e_int (nI (dT D 1)) (Rr1.1 1 (by decide)) ?_
  refine e_iconst (nI 1) dX10_clause_369 (by decide) ?_
  refine e_iadd dX10_clause_370 ?_
  refine e_int (nI (dT D 1 + 1)) (nI_add (dT D 1) 1) ?_
  refine e_iastore 1 dX10_clause_371 (Ms1.s 91 rfl) (Ms1.n (by decide)) rfl (by omega) (by decide) ?_
  refine e_aload_n dX10_clause_372 rfl rfl ?_
  refine e_callV (k := 89) [] dX10_clause_373 cc_X10_closes lk_RX10_145 im_X10_closes se_X10_closes (by decide) (Ms1.s 89 rfl) (Ms1.n (by decide)) rfl (Nat.le_of_ble_eq_true rfl) (Nat.le_of_ble_eq_true rfl) ?_
  refine t_X10_closes Ms1 hB1 hb hn1 n600 (hs1.sm (fun _ => rfl)) (fun σz Smz hsz hkz => fK_v ?_)
  show fEv g _ mX10_clause 376 [some (.ref 89), some (.int (nI 1)), none] [] σz Q
  have Smy : fSm fRqA σ σz := (Sm1.tr (fSm_I (A := fRqA) (by unfold fRqA; omega))).tr (Smz.to (fun a (q : a = 89) => Or.inl q))
  refine e_return dX10_clause_376 rfl (h _ Smy hsz (fun e q => ?_) ((hkz 2 (by decide) (by decide) (by decide)).trans hn1) ((hkz 7 (by decide) (by decide) (by decide)).trans hc1) (fun j h1 h2 h3 => (hkz j h1 h2 h3).trans (ho1 j h1 h2 h3)))
  obtain ⟨a9, h9⟩ := mse_ok q
  exact (Rr1.AS hD hfl (row1 a9 h9)).sm Smz (mns_ok hD (fun q => by have := of_decide_eq_true q; omega) (by decide) h9) (fun i h1 h2 (q : i = 89) => by omega)
set_option maxRecDepth 20000 in
theorem l_X10_cl2 {g : fGP} {d : Nat} {σ : fAH} {Q : fRes → fAH → Prop} {B : Nat → Nat} {n : Nat} {D : fSD} {s : fP} {c9 : Nat} (Ms : fMs g σ) (hB : ∀ i, i < 600 → fI σ 90 i = nI (B i)) (hb : ∀ i, B i < 256) (hn : fI σ 89 2 = nI n) (hn6 : n ≤ 600) (hc : fI σ 89 7 = nI c9) (Rr : fRr σ D) (hD : fWD D) (hs : fPs σ 89 4 n s) (hfl : dT D 2 < 6) (h : ∀ σ', fSm fRqA σ σ' → fPs σ' 89 4 n (mse B n (mns B n 2 D s).1) → (∀ e, mse B n (mns B n 2 D s).1 = .inr e → fRr σ' (mns B n 2 D s).2) → fI σ' 89 2 = nI n → fI σ' 89 7 = nI c9 → (∀ j, j ≠ 4 → j ≠ 5 → j ≠ 6 → fI σ' 89 j = fI σ 89 j) → Q (.inl none) σ') : fEv g (d + 4) mX10_clause 121 [some (.ref 89), some (.int (nI 2)), none] [] σ Q := by
  obtain ⟨t0, t1, t2, t3, t4, t5, t6⟩ := id hD.1
  have n600 := hn6
  refine e_iload_n dX10_clause_121 rfl rfl ?_
  refine e_tswIn (off := 100) 222 dX10_clause_122 (by decide) (by decide) (by decide) (by decide) ?_
  refine e_aload_n dX10_clause_222 rfl rfl ?_
  refine e_getR (q := 133) dX10_clause_223 fl_RX10_37 (Ms.s 89 rfl) (Ms.n (by decide)) rfl (Ms.r 89 15 rfl) (by unfold fscr; omega) ?_
  refine e_aload_n dX10_clause_226 rfl rfl ?_
  refine e_getR (q := 91) dX10_clause_227 fl_RX10_17 (Ms.s 89 rfl) (Ms.n (by decide)) rfl (Ms.r 89 9 rfl) (by unfold fscr; omega) ?_
  refine e_iconst (nI 2) dX10_clause_230 (by decide) ?_
  refine e_iaload 2 dX10_clause_231 (Ms.s 91 rfl) (Ms.n (by decide)) rfl (by omega) (by decide) ?_
  refine e_int (nI (dT D 2)) (Rr.1 2 (by decide)) ?_
  refine e_aaload (q := 134 + (dT D 2)) (dT D 2) dX10_clause_232 (Ms.s 133 rfl) (by decide) (Ms.n (by decide)) rfl (by omega) (by decide) (Ms.r 133 _ (frf_readOrder _ (by omega))) (by unfold fscr; omega) ?_
  refine e_astore_n (L1 := [some (.ref 89), some (.int (nI 2)), some (.ref (134 + (dT D 2)))]) dX10_clause_233 rfl (by decide) rfl ?_
  refine e_aload_n dX10_clause_234 rfl rfl ?_
  refine e_iconst (nI 0) dX10_clause_235 (by decide) ?_
  refine e_aload_n dX10_clause_236 rfl rfl ?_
  refine e_iconst (nI 1) dX10_clause_237 (by decide) ?_
  refine e_bipush (nI 12) dX10_clause_238 (by decide) ?_
  refine e_callV (k := 89) [.int (nI 1), .int (nI 12)] dX10_clause_240 cc_X10_number lk_RX10_134 im_X10_number se_X10_number (by decide) (Ms.s 89 rfl) (Ms.n (by decide)) rfl (Nat.le_of_ble_eq_true rfl) (Nat.le_of_ble_eq_true rfl) ?_
  refine t_X10_number (B := B) (n := n) (s := s) (lo := 1) (hi1 := 13) Ms hB hb hn n600 hs (by decide) (fun _ _ => by decide) (fun _ _ => hr_n (by decide)) (fun σ1 Smx1 hs1 hk1 => ?_)
  show fEv g _ mX10_clause 243 [some (.ref 89), some (.int (nI 2)), some (.ref (134 + (dT D 2)))] [.int (nI (mnv B n 1 13 0 s)), .int (nI 0), .ref (134 + (dT D 2))] σ1 Q
  have Sm1 : fSm fRqA σ σ1 := (Smx1.to (fun a (q : a = 89) => Or.inl q))
  have Ms1 := Ms.sm Sm1
  have hB1 : ∀ i, i < 600 → fI σ1 90 i = nI (B i) := fun i hi => (Sm1.i (by unfold fRqA; omega) i).trans (hB i hi)
  have hn1 := (hk1 2 (by decide) (by decide) (by decide)).trans hn
  have hc1 := (hk1 7 (by decide) (by decide) (by decide)).trans hc
  have ho1 : ∀ j, j ≠ 4 → j ≠ 5 → j ≠ 6 → fI σ1 89 j = fI σ 89 j := fun j h1 h2 h3 => (hk1 j h1 h2 h3)
  have Rr1 := Rr.sm Smx1 hD (fun i h1 h2 (q : i = 89) => by omega)
  refine e_iastore 0 dX10_clause_243 (Ms1.s _ (fsh_readOrder _ (by omega))) (Ms1.n (by omega)) rfl (by omega) (by decide) ?_
  have Smx2 : fSm (fun a => a = 134 + (dT D 2)) σ1 (fsI σ1 (134 + (dT D 2)) 0 (nI (mnv B n 1 13 0 s))) := fSm_I rfl
  have Sm2 : fSm fRqA σ (fsI σ1 (134 + (dT D 2)) 0 (nI (mnv B n 1 13 0 s))) := Sm1.tr (Smx2.to (fun a (q : a = 134 + (dT D 2)) => (by omega : a = 89 ∨ a = 91 ∨ (94 ≤ a ∧ a < 100) ∨ (108 ≤ a ∧ a < 120) ∨ (134 ≤ a ∧ a < 140) ∨ (148 ≤ a ∧ a < 172))))
  have Ms2 := Ms.sm Sm2
  have hs2 : fPs (fsI σ1 (134 + (dT D 2)) 0 (nI (mnv B n 1 13 0 s))) 89 4 n (mnum B n 1 13 s) := hs1.sm (fun q => by rw [fI_I, if_neg (by omega)])
  have Rr2 : fRr (fsI σ1 (134 + (dT D 2)) 0 (nI (mnv B n 1 13 0 s))) D := Rr1.ne hD (by omega)
  have hB2 : ∀ i, i < 600 → fI (fsI σ1 (134 + (dT D 2)) 0 (nI (mnv B n 1 13 0 s))) 90 i = nI (B i) := fun i hi => by rw [fI_I, if_neg (by omega)]; exact hB1 i hi
  have hn2 : fI (fsI σ1 (134 + (dT D 2)) 0 (nI (mnv B n 1 13 0 s))) 89 2 = nI n := by rw [fI_I, if_neg (by omega)]; exact hn1
  have hc2 : fI (fsI σ1 (134 + (dT D 2)) 0 (nI (mnv B n 1 13 0 s))) 89 7 = nI c9 := by rw [fI_I, if_neg (by omega)]; exact hc1
  have ho2 : ∀ j, j ≠ 4 → j ≠ 5 → j ≠ 6 → fI (fsI σ1 (134 + (dT D 2)) 0 (nI (mnv B n 1 13 0 s))) 89 j = fI σ 89 j := fun j h1 h2 h3 => by rw [fI_I, if_neg (by omega)]; exact ho1 j h1 h2 h3
  have u0_2 : fI (fsI σ1 (134 + (dT D 2)) 0 (nI (mnv B n 1 13 0 s))) (134 + (dT D 2)) 0 = nI (mnv B n 1 13 0 s) := by rw [fI_I, if_pos ⟨rfl, rfl⟩]
  generalize fsI σ1 (134 + (dT D 2)) 0 (nI (mnv B n 1 13 0 s)) = σ2 at Smx2 Sm2 Ms2 hs2 Rr2 hB2 hn2 hc2 ho2 u0_2 ⊢
  refine e_aload_n dX10_clause_244 rfl rfl ?_
  refine e_iconst (nI 1) dX10_clause_245 (by decide) ?_
  refine e_aload_n dX10_clause_246 rfl rfl ?_
  refine e_iconst (nI 1) dX10_clause_247 (by decide) ?_
  refine e_bipush (nI 12) dX10_clause_248 (by decide) ?_
  refine e_callV (k := 89) [.int (nI 1), .int (nI 12)] dX10_clause_250 cc_X10_number lk_RX10_134 im_X10_number se_X10_number (by decide) (Ms2.s 89 rfl) (Ms2.n (by decide)) rfl (Nat.le_of_ble_eq_true rfl) (Nat.le_of_ble_eq_true rfl) ?_
  refine t_X10_number (B := B) (n := n) (s := mnum B n 1 13 s) (lo := 1) (hi1 := 13) Ms2 hB2 hb hn2 n600 hs2 (by decide) (fun _ _ => by decide) (fun _ _ => hr_n (by decide)) (fun σ3 Smx3 hs3 hk3 => ?_)
  show fEv g _ mX10_clause 253 [some (.ref 89), some (.int (nI 2)), some (.ref (134 + (dT D 2)))] [.int (nI (mnv B n 1 13 0 (mnum B n 1 13 s))), .int (nI 1), .ref (134 + (dT D 2))] σ3 Q
  have Sm3 : fSm fRqA σ σ3 := Sm2.tr (Smx3.to (fun a (q : a = 89) => Or.inl q))
  have Ms3 := Ms.sm Sm3
  have hB3 : ∀ i, i < 600 → fI σ3 90 i = nI (B i) := fun i hi => (Sm3.i (by unfold fRqA; omega) i).trans (hB i hi)
  have hn3 := (hk3 2 (by decide) (by decide) (by decide)).trans hn2
  have hc3 := (hk3 7 (by decide) (by decide) (by decide)).trans hc2
  have ho3 : ∀ j, j ≠ 4 → j ≠ 5 → j ≠ 6 → fI σ3 89 j = fI σ 89 j := fun j h1 h2 h3 => (hk3 j h1 h2 h3).trans (ho2 j h1 h2 h3)
  have Rr3 := Rr2.sm Smx3 hD (fun i h1 h2 (q : i = 89) => by omega)
  have u0_3 := (Smx3.i (fun (q : 134 + (dT D 2) = 89) => by omega) 0).trans u0_2
  refine e_iastore 1 dX10_clause_253 (Ms3.s _ (fsh_readOrder _ (by omega))) (Ms3.n (by omega)) rfl (by omega) (by decide) ?_
  have Smx4 : fSm (fun a => a = 134 + (dT D 2)) σ3 (fsI σ3 (134 + (dT D 2)) 1 (nI (mnv B n 1 13 0 (mnum B n 1 13 s)))) := fSm_I rfl
  have Sm4 : fSm fRqA σ (fsI σ3 (134 + (dT D 2)) 1 (nI (mnv B n 1 13 0 (mnum B n 1 13 s)))) := Sm3.tr (Smx4.to (fun a (q : a = 134 + (dT D 2)) => (by omega : a = 89 ∨ a = 91 ∨ (94 ≤ a ∧ a < 100) ∨ (108 ≤ a ∧ a < 120) ∨ (134 ≤ a ∧ a < 140) ∨ (148 ≤ a ∧ a < 172))))
  have Ms4 := Ms.sm Sm4
  have hs4 : fPs (fsI σ3 (134 + (dT D 2)) 1 (nI (mnv B n 1 13 0 (mnum B n 1 13 s)))) 89 4 n (mnum B n 1 13 (mnum B n 1 13 s)) := hs3.sm (fun q => by rw [fI_I, if_neg (by omega)])
  have Rr4 : fRr (fsI σ3 (134 + (dT D 2)) 1 (nI (mnv B n 1 13 0 (mnum B n 1 13 s)))) D := Rr3.ne hD (by omega)
  have hB4 : ∀ i, i < 600 → fI (fsI σ3 (134 + (dT D 2)) 1 (nI (mnv B n 1 13 0 (mnum B n 1 13 s)))) 90 i = nI (B i) := fun i hi => by rw [fI_I, if_neg (by omega)]; exact hB3 i hi
  have hn4 : fI (fsI σ3 (134 + (dT D 2)) 1 (nI (mnv B n 1 13 0 (mnum B n 1 13 s)))) 89 2 = nI n := by rw [fI_I, if_neg (by omega)]; exact hn3
  have hc4 : fI (fsI σ3 (134 + (dT D 2)) 1 (nI (mnv B n 1 13 0 (mnum B n 1 13 s)))) 89 7 = nI c9 := by rw [fI_I, if_neg (by omega)]; exact hc3
  have ho4 : ∀ j, j ≠ 4 → j ≠ 5 → j ≠ 6 → fI (fsI σ3 (134 + (dT D 2)) 1 (nI (mnv B n 1 13 0 (mnum B n 1 13 s)))) 89 j = fI σ 89 j := fun j h1 h2 h3 => by rw [fI_I, if_neg (by omega)]; exact ho3 j h1 h2 h3
  have u0_4 : fI (fsI σ3 (134 + (dT D 2)) 1 (nI (mnv B n 1 13 0 (mnum B n 1 13 s)))) (134 + (dT D 2)) 0 = nI (mnv B n 1 13 0 s) := by rw [fI_I, if_neg (by omega)]; exact u0_3
  have u1_4 : fI (fsI σ3 (134 + (dT D 2)) 1 (nI (mnv B n 1 13 0 (mnum B n 1 13 s)))) (134 + (dT D 2)) 1 = nI (mnv B n 1 13 0 (mnum B n 1 13 s)) := by rw [fI_I, if_pos ⟨rfl, rfl⟩]
  generalize fsI σ3 (134 + (dT D 2)) 1 (nI (mnv B n 1 13 0 (mnum B n 1 13 s))) = σ4 at Smx4 Sm4 Ms4 hs4 Rr4 hB4 hn4 hc4 ho4 u0_4 u1_4 ⊢
  refine e_aload_n dX10_clause_254 rfl rfl ?_
  refine e_iconst (nI 2) dX10_clause_255 (by decide) ?_
  refine e_aload_n dX10_clause_256 rfl rfl ?_
  refine e_iconst (nI 1) dX10_clause_257 (by decide) ?_
  refine e_bipush (nI 9) dX10_clause_258 (by decide) ?_
  refine e_callV (k := 89) [.int (nI 1), .int (nI 9)] dX10_clause_260 cc_X10_number lk_RX10_134 im_X10_number se_X10_number (by decide) (Ms4.s 89 rfl) (Ms4.n (by decide)) rfl (Nat.le_of_ble_eq_true rfl) (Nat.le_of_ble_eq_true rfl) ?_
  refine t_X10_number (B := B) (n := n) (s := mnum B n 1 13 (mnum B n 1 13 s)) (lo := 1) (hi1 := 10) Ms4 hB4 hb hn4 n600 hs4 (by decide) (fun _ _ => by decide) (fun _ _ => hr_n (by decide)) (fun σ5 Smx5 hs5 hk5 => ?_)
  show fEv g _ mX10_clause 263 [some (.ref 89), some (.int (nI 2)), some (.ref (134 + (dT D 2)))] [.int (nI (mnv B n 1 10 0 (mnum B n 1 13 (mnum B n 1 13 s)))), .int (nI 2), .ref (134 + (dT D 2))] σ5 Q
  have Sm5 : fSm fRqA σ σ5 := Sm4.tr (Smx5.to (fun a (q : a = 89) => Or.inl q))
  have Ms5 := Ms.sm Sm5
  have hB5 : ∀ i, i < 600 → fI σ5 90 i = nI (B i) := fun i hi => (Sm5.i (by unfold fRqA; omega) i).trans (hB i hi)
  have hn5 := (hk5 2 (by decide) (by decide) (by decide)).trans hn4
  have hc5 := (hk5 7 (by decide) (by decide) (by decide)).trans hc4
  have ho5 : ∀ j, j ≠ 4 → j ≠ 5 → j ≠ 6 → fI σ5 89 j = fI σ 89 j := fun j h1 h2 h3 => (hk5 j h1 h2 h3).trans (ho4 j h1 h2 h3)
  have Rr5 := Rr4.sm Smx5 hD (fun i h1 h2 (q : i = 89) => by omega)
  have u0_5 := (Smx5.i (fun (q : 134 + (dT D 2) = 89) => by omega) 0).trans u0_4
  have u1_5 := (Smx5.i (fun (q : 134 + (dT D 2) = 89) => by omega) 1).trans u1_4
  refine e_iastore 2 dX10_clause_263 (Ms5.s _ (fsh_readOrder _ (by omega))) (Ms5.n (by omega)) rfl (by omega) (by decide) ?_
  have Smx6 : fSm (fun a => a = 134 + (dT D 2)) σ5 (fsI σ5 (134 + (dT D 2)) 2 (nI (mnv B n 1 10 0 (mnum B n 1 13 (mnum B n 1 13 s))))) := fSm_I rfl
  have Sm6 : fSm fRqA σ (fsI σ5 (134 + (dT D 2)) 2 (nI (mnv B n 1 10 0 (mnum B n 1 13 (mnum B n 1 13 s))))) := Sm5.tr (Smx6.to (fun a (q : a = 134 + (dT D 2)) => (by omega : a = 89 ∨ a = 91 ∨ (94 ≤ a ∧ a < 100) ∨ (108 ≤ a ∧ a < 120) ∨ (134 ≤ a ∧ a < 140) ∨ (148 ≤ a ∧ a < 172))))
  have Ms6 := Ms.sm Sm6
  have hs6 : fPs (fsI σ5 (134 + (dT D 2)) 2 (nI (mnv B n 1 10 0 (mnum B n 1 13 (mnum B n 1 13 s))))) 89 4 n (mnum B n 1 10 (mnum B n 1 13 (mnum B n 1 13 s))) := hs5.sm (fun q => by rw [fI_I, if_neg (by omega)])
  have Rr6 : fRr (fsI σ5 (134 + (dT D 2)) 2 (nI (mnv B n 1 10 0 (mnum B n 1 13 (mnum B n 1 13 s))))) D := Rr5.ne hD (by omega)
  have hB6 : ∀ i, i < 600 → fI (fsI σ5 (134 + (dT D 2)) 2 (nI (mnv B n 1 10 0 (mnum B n 1 13 (mnum B n 1 13 s))))) 90 i = nI (B i) := fun i hi => by rw [fI_I, if_neg (by omega)]; exact hB5 i hi
  have hn6 : fI (fsI σ5 (134 + (dT D 2)) 2 (nI (mnv B n 1 10 0 (mnum B n 1 13 (mnum B n 1 13 s))))) 89 2 = nI n := by rw [fI_I, if_neg (by omega)]; exact hn5
  have hc6 : fI (fsI σ5 (134 + (dT D 2)) 2 (nI (mnv B n 1 10 0 (mnum B n 1 13 (mnum B n 1 13 s))))) 89 7 = nI c9 := by rw [fI_I, if_neg (by omega)]; exact hc5
  have ho6 : ∀ j, j ≠ 4 → j ≠ 5 → j ≠ 6 → fI (fsI σ5 (134 + (dT D 2)) 2 (nI (mnv B n 1 10 0 (mnum B n 1 13 (mnum B n 1 13 s))))) 89 j = fI σ 89 j := fun j h1 h2 h3 => by rw [fI_I, if_neg (by omega)]; exact ho5 j h1 h2 h3
  have u0_6 : fI (fsI σ5 (134 + (dT D 2)) 2 (nI (mnv B n 1 10 0 (mnum B n 1 13 (mnum B n 1 13 s))))) (134 + (dT D 2)) 0 = nI (mnv B n 1 13 0 s) := by rw [fI_I, if_neg (by omega)]; exact u0_5
  have u1_6 : fI (fsI σ5 (134 + (dT D 2)) 2 (nI (mnv B n 1 10 0 (mnum B n 1 13 (mnum B n 1 13 s))))) (134 + (dT D 2)) 1 = nI (mnv B n 1 13 0 (mnum B n 1 13 s)) := by rw [fI_I, if_neg (by omega)]; exact u1_5
  have u2_6 : fI (fsI σ5 (134 + (dT D 2)) 2 (nI (mnv B n 1 10 0 (mnum B n 1 13 (mnum B n 1 13 s))))) (134 + (dT D 2)) 2 = nI (mnv B n 1 10 0 (mnum B n 1 13 (mnum B n 1 13 s))) := by rw [fI_I, if_pos ⟨rfl, rfl⟩]
  generalize fsI σ5 (134 + (dT D 2)) 2 (nI (mnv B n 1 10 0 (mnum B n 1 13 (mnum B n 1 13 s)))) = σ6 at Smx6 Sm6 Ms6 hs6 Rr6 hB6 hn6 hc6 ho6 u0_6 u1_6 u2_6 ⊢
  refine e_aload_n dX10_clause_264 rfl rfl ?_
  refine e_iconst (nI 3) dX10_clause_265 (by decide) ?_
  refine e_aload_n dX10_clause_266 rfl rfl ?_
  refine e_iconst (nI 0) dX10_clause_267 (by decide) ?_
  refine e_bipush (nI 29) dX10_clause_268 (by decide) ?_
  refine e_callV (k := 89) [.int (nI 0), .int (nI 29)] dX10_clause_270 cc_X10_number lk_RX10_134 im_X10_number se_X10_number (by decide) (Ms6.s 89 rfl) (Ms6.n (by decide)) rfl (Nat.le_of_ble_eq_true rfl) (Nat.le_of_ble_eq_true rfl) ?_
  refine t_X10_number (B := B) (n := n) (s := mnum B n 1 10 (mnum B n 1 13 (mnum B n 1 13 s))) (lo := 0) (hi1 := 30) Ms6 hB6 hb hn6 n600 hs6 (by decide) (fun _ _ => by decide) (fun _ _ => hr_n (by decide)) (fun σ7 Smx7 hs7 hk7 => ?_)
  show fEv g _ mX10_clause 273 [some (.ref 89), some (.int (nI 2)), some (.ref (134 + (dT D 2)))] [.int (nI (mnv B n 0 30 0 (mnum B n 1 10 (mnum B n 1 13 (mnum B n 1 13 s))))), .int (nI 3), .ref (134 + (dT D 2))] σ7 Q
  have Sm7 : fSm fRqA σ σ7 := Sm6.tr (Smx7.to (fun a (q : a = 89) => Or.inl q))
  have Ms7 := Ms.sm Sm7
  have hB7 : ∀ i, i < 600 → fI σ7 90 i = nI (B i) := fun i hi => (Sm7.i (by unfold fRqA; omega) i).trans (hB i hi)
  have hn7 := (hk7 2 (by decide) (by decide) (by decide)).trans hn6
  have hc7 := (hk7 7 (by decide) (by decide) (by decide)).trans hc6
  have ho7 : ∀ j, j ≠ 4 → j ≠ 5 → j ≠ 6 → fI σ7 89 j = fI σ 89 j := fun j h1 h2 h3 => (hk7 j h1 h2 h3).trans (ho6 j h1 h2 h3)
  have Rr7 := Rr6.sm Smx7 hD (fun i h1 h2 (q : i = 89) => by omega)
  have u0_7 := (Smx7.i (fun (q : 134 + (dT D 2) = 89) => by omega) 0).trans u0_6
  have u1_7 := (Smx7.i (fun (q : 134 + (dT D 2) = 89) => by omega) 1).trans u1_6
  have u2_7 := (Smx7.i (fun (q : 134 + (dT D 2) = 89) => by omega) 2).trans u2_6
  refine e_iastore 3 dX10_clause_273 (Ms7.s _ (fsh_readOrder _ (by omega))) (Ms7.n (by omega)) rfl (by omega) (by decide) ?_
  have Smx8 : fSm (fun a => a = 134 + (dT D 2)) σ7 (fsI σ7 (134 + (dT D 2)) 3 (nI (mnv B n 0 30 0 (mnum B n 1 10 (mnum B n 1 13 (mnum B n 1 13 s)))))) := fSm_I rfl
  have Sm8 : fSm fRqA σ (fsI σ7 (134 + (dT D 2)) 3 (nI (mnv B n 0 30 0 (mnum B n 1 10 (mnum B n 1 13 (mnum B n 1 13 s)))))) := Sm7.tr (Smx8.to (fun a (q : a = 134 + (dT D 2)) => (by omega : a = 89 ∨ a = 91 ∨ (94 ≤ a ∧ a < 100) ∨ (108 ≤ a ∧ a < 120) ∨ (134 ≤ a ∧ a < 140) ∨ (148 ≤ a ∧ a < 172))))
  have Ms8 := Ms.sm Sm8
  have hs8 : fPs (fsI σ7 (134 + (dT D 2)) 3 (nI (mnv B n 0 30 0 (mnum B n 1 10 (mnum B n 1 13 (mnum B n 1 13 s)))))) 89 4 n (mnum B n 0 30 (mnum B n 1 10 (mnum B n 1 13 (mnum B n 1 13 s)))) := hs7.sm (fun q => by rw [fI_I, if_neg (by omega)])
  have Rr8 : fRr (fsI σ7 (134 + (dT D 2)) 3 (nI (mnv B n 0 30 0 (mnum B n 1 10 (mnum B n 1 13 (mnum B n 1 13 s)))))) D := Rr7.ne hD (by omega)
  have hB8 : ∀ i, i < 600 → fI (fsI σ7 (134 + (dT D 2)) 3 (nI (mnv B n 0 30 0 (mnum B n 1 10 (mnum B n 1 13 (mnum B n 1 13 s)))))) 90 i = nI (B i) := fun i hi => by rw [fI_I, if_neg (by omega)]; exact hB7 i hi
  have hn8 : fI (fsI σ7 (134 + (dT D 2)) 3 (nI (mnv B n 0 30 0 (mnum B n 1 10 (mnum B n 1 13 (mnum B n 1 13 s)))))) 89 2 = nI n := by rw [fI_I, if_neg (by omega)]; exact hn7
  have hc8 : fI (fsI σ7 (134 + (dT D 2)) 3 (nI (mnv B n 0 30 0 (mnum B n 1 10 (mnum B n 1 13 (mnum B n 1 13 s)))))) 89 7 = nI c9 := by rw [fI_I, if_neg (by omega)]; exact hc7
  have ho8 : ∀ j, j ≠ 4 → j ≠ 5 → j ≠ 6 → fI (fsI σ7 (134 + (dT D 2)) 3 (nI (mnv B n 0 30 0 (mnum B n 1 10 (mnum B n 1 13 (mnum B n 1 13 s)))))) 89 j = fI σ 89 j := fun j h1 h2 h3 => by rw [fI_I, if_neg (by omega)]; exact ho7 j h1 h2 h3
  have u0_8 : fI (fsI σ7 (134 + (dT D 2)) 3 (nI (mnv B n 0 30 0 (mnum B n 1 10 (mnum B n 1 13 (mnum B n 1 13 s)))))) (134 + (dT D 2)) 0 = nI (mnv B n 1 13 0 s) := by rw [fI_I, if_neg (by omega)]; exact u0_7
  have u1_8 : fI (fsI σ7 (134 + (dT D 2)) 3 (nI (mnv B n 0 30 0 (mnum B n 1 10 (mnum B n 1 13 (mnum B n 1 13 s)))))) (134 + (dT D 2)) 1 = nI (mnv B n 1 13 0 (mnum B n 1 13 s)) := by rw [fI_I, if_neg (by omega)]; exact u1_7
  have u2_8 : fI (fsI σ7 (134 + (dT D 2)) 3 (nI (mnv B n 0 30 0 (mnum B n 1 10 (mnum B n 1 13 (mnum B n 1 13 s)))))) (134 + (dT D 2)) 2 = nI (mnv B n 1 10 0 (mnum B n 1 13 (mnum B n 1 13 s))) := by rw [fI_I, if_neg (by omega)]; exact u2_7
  have u3_8 : fI (fsI σ7 (134 + (dT D 2)) 3 (nI (mnv B n 0 30 0 (mnum B n 1 10 (mnum B n 1 13 (mnum B n 1 13 s)))))) (134 + (dT D 2)) 3 = nI (mnv B n 0 30 0 (mnum B n 1 10 (mnum B n 1 13 (mnum B n 1 13 s)))) := by rw [fI_I, if_pos ⟨rfl, rfl⟩]
  generalize fsI σ7 (134 + (dT D 2)) 3 (nI (mnv B n 0 30 0 (mnum B n 1 10 (mnum B n 1 13 (mnum B n 1 13 s))))) = σ8 at Smx8 Sm8 Ms8 hs8 Rr8 hB8 hn8 hc8 ho8 u0_8 u1_8 u2_8 u3_8 ⊢
  refine e_aload_n dX10_clause_274 rfl rfl ?_
  refine e_iconst (nI 4) dX10_clause_275 (by decide) ?_
  refine e_aload_n dX10_clause_276 rfl rfl ?_
  refine e_iconst (nI 1) dX10_clause_277 (by decide) ?_
  refine e_bipush (nI 99) dX10_clause_278 (by decide) ?_
  refine e_callV (k := 89) [.int (nI 1), .int (nI 99)] dX10_clause_280 cc_X10_number lk_RX10_134 im_X10_number se_X10_number (by decide) (Ms8.s 89 rfl) (Ms8.n (by decide)) rfl (Nat.le_of_ble_eq_true rfl) (Nat.le_of_ble_eq_true rfl) ?_
  refine t_X10_number (B := B) (n := n) (s := mnum B n 0 30 (mnum B n 1 10 (mnum B n 1 13 (mnum B n 1 13 s)))) (lo := 1) (hi1 := 100) Ms8 hB8 hb hn8 n600 hs8 (by decide) (fun _ _ => by decide) (fun _ _ => hr_n (by decide)) (fun σ9 Smx9 hs9 hk9 => ?_)
  show fEv g _ mX10_clause 283 [some (.ref 89), some (.int (nI 2)), some (.ref (134 + (dT D 2)))] [.int (nI (mnv B n 1 100 0 (mnum B n 0 30 (mnum B n 1 10 (mnum B n 1 13 (mnum B n 1 13 s)))))), .int (nI 4), .ref (134 + (dT D 2))] σ9 Q
  have Sm9 : fSm fRqA σ σ9 := Sm8.tr (Smx9.to (fun a (q : a = 89) => Or.inl q))
  have Ms9 := Ms.sm Sm9
  have hB9 : ∀ i, i < 600 → fI σ9 90 i = nI (B i) := fun i hi => (Sm9.i (by unfold fRqA; omega) i).trans (hB i hi)
  have hn9 := (hk9 2 (by decide) (by decide) (by decide)).trans hn8
  have hc9 := (hk9 7 (by decide) (by decide) (by decide)).trans hc8
  have ho9 : ∀ j, j ≠ 4 → j ≠ 5 → j ≠ 6 → fI σ9 89 j = fI σ 89 j := fun j h1 h2 h3 => (hk9 j h1 h2 h3).trans (ho8 j h1 h2 h3)
  have Rr9 := Rr8.sm Smx9 hD (fun i h1 h2 (q : i = 89) => by omega)
  have u0_9 := (Smx9.i (fun (q : 134 + (dT D 2) = 89) => by omega) 0).trans u0_8
  have u1_9 := (Smx9.i (fun (q : 134 + (dT D 2) = 89) => by omega) 1).trans u1_8
  have u2_9 := (Smx9.i (fun (q : 134 + (dT D 2) = 89) => by omega) 2).trans u2_8
  have u3_9 := (Smx9.i (fun (q : 134 + (dT D 2) = 89) => by omega) 3).trans u3_8
  refine e_iastore 4 dX10_clause_283 (Ms9.s _ (fsh_readOrder _ (by omega))) (Ms9.n (by omega)) rfl (by omega) (by decide) ?_
  have Smx10 : fSm (fun a => a = 134 + (dT D 2)) σ9 (fsI σ9 (134 + (dT D 2)) 4 (nI (mnv B n 1 100 0 (mnum B n 0 30 (mnum B n 1 10 (mnum B n 1 13 (mnum B n 1 13 s))))))) := fSm_I rfl
  have Sm10 : fSm fRqA σ (fsI σ9 (134 + (dT D 2)) 4 (nI (mnv B n 1 100 0 (mnum B n 0 30 (mnum B n 1 10 (mnum B n 1 13 (mnum B n 1 13 s))))))) := Sm9.tr (Smx10.to (fun a (q : a = 134 + (dT D 2)) => (by omega : a = 89 ∨ a = 91 ∨ (94 ≤ a ∧ a < 100) ∨ (108 ≤ a ∧ a < 120) ∨ (134 ≤ a ∧ a < 140) ∨ (148 ≤ a ∧ a < 172))))
  have Ms10 := Ms.sm Sm10
  have hs10 : fPs (fsI σ9 (134 + (dT D 2)) 4 (nI (mnv B n 1 100 0 (mnum B n 0 30 (mnum B n 1 10 (mnum B n 1 13 (mnum B n 1 13 s))))))) 89 4 n (mnum B n 1 100 (mnum B n 0 30 (mnum B n 1 10 (mnum B n 1 13 (mnum B n 1 13 s))))) := hs9.sm (fun q => by rw [fI_I, if_neg (by omega)])
  have Rr10 : fRr (fsI σ9 (134 + (dT D 2)) 4 (nI (mnv B n 1 100 0 (mnum B n 0 30 (mnum B n 1 10 (mnum B n 1 13 (mnum B n 1 13 s))))))) D := Rr9.ne hD (by omega)
  have hB10 : ∀ i, i < 600 → fI (fsI σ9 (134 + (dT D 2)) 4 (nI (mnv B n 1 100 0 (mnum B n 0 30 (mnum B n 1 10 (mnum B n 1 13 (mnum B n 1 13 s))))))) 90 i = nI (B i) := fun i hi => by rw [fI_I, if_neg (by omega)]; exact hB9 i hi
  have hn10 : fI (fsI σ9 (134 + (dT D 2)) 4 (nI (mnv B n 1 100 0 (mnum B n 0 30 (mnum B n 1 10 (mnum B n 1 13 (mnum B n 1 13 s))))))) 89 2 = nI n := by rw [fI_I, if_neg (by omega)]; exact hn9
  have hc10 : fI (fsI σ9 (134 + (dT D 2)) 4 (nI (mnv B n 1 100 0 (mnum B n 0 30 (mnum B n 1 10 (mnum B n 1 13 (mnum B n 1 13 s))))))) 89 7 = nI c9 := by rw [fI_I, if_neg (by omega)]; exact hc9
  have ho10 : ∀ j, j ≠ 4 → j ≠ 5 → j ≠ 6 → fI (fsI σ9 (134 + (dT D 2)) 4 (nI (mnv B n 1 100 0 (mnum B n 0 30 (mnum B n 1 10 (mnum B n 1 13 (mnum B n 1 13 s))))))) 89 j = fI σ 89 j := fun j h1 h2 h3 => by rw [fI_I, if_neg (by omega)]; exact ho9 j h1 h2 h3
  have u0_10 : fI (fsI σ9 (134 + (dT D 2)) 4 (nI (mnv B n 1 100 0 (mnum B n 0 30 (mnum B n 1 10 (mnum B n 1 13 (mnum B n 1 13 s))))))) (134 + (dT D 2)) 0 = nI (mnv B n 1 13 0 s) := by rw [fI_I, if_neg (by omega)]; exact u0_9
  have u1_10 : fI (fsI σ9 (134 + (dT D 2)) 4 (nI (mnv B n 1 100 0 (mnum B n 0 30 (mnum B n 1 10 (mnum B n 1 13 (mnum B n 1 13 s))))))) (134 + (dT D 2)) 1 = nI (mnv B n 1 13 0 (mnum B n 1 13 s)) := by rw [fI_I, if_neg (by omega)]; exact u1_9
  have u2_10 : fI (fsI σ9 (134 + (dT D 2)) 4 (nI (mnv B n 1 100 0 (mnum B n 0 30 (mnum B n 1 10 (mnum B n 1 13 (mnum B n 1 13 s))))))) (134 + (dT D 2)) 2 = nI (mnv B n 1 10 0 (mnum B n 1 13 (mnum B n 1 13 s))) := by rw [fI_I, if_neg (by omega)]; exact u2_9
  have u3_10 : fI (fsI σ9 (134 + (dT D 2)) 4 (nI (mnv B n 1 100 0 (mnum B n 0 30 (mnum B n 1 10 (mnum B n 1 13 (mnum B n 1 13 s))))))) (134 + (dT D 2)) 3 = nI (mnv B n 0 30 0 (mnum B n 1 10 (mnum B n 1 13 (mnum B n 1 13 s)))) := by rw [fI_I, if_neg (by omega)]; exact u3_9
  have u4_10 : fI (fsI σ9 (134 + (dT D 2)) 4 (nI (mnv B n 1 100 0 (mnum B n 0 30 (mnum B n 1 10 (mnum B n 1 13 (mnum B n 1 13 s))))))) (134 + (dT D 2)) 4 = nI (mnv B n 1 100 0 (mnum B n 0 30 (mnum B n 1 10 (mnum B n 1 13 (mnum B n 1 13 s))))) := by rw [fI_I, if_pos ⟨rfl, rfl⟩]
  generalize fsI σ9 (134 + (dT D 2)) 4 (nI (mnv B n 1 100 0 (mnum B n 0 30 (mnum B n 1 10 (mnum B n 1 13 (mnum B n 1 13 s)))))) = σ10 at Smx10 Sm10 Ms10 hs10 Rr10 hB10 hn10 hc10 ho10 u0_10 u1_10 u2_10 u3_10 u4_10 ⊢
  refine e_goto 351 dX10_clause_284 (by decide) ?_
  refine e_iload_n dX10_clause_351 rfl rfl ?_
  refine e_iconst (nI 3) dX10_clause_352 (by decide) ?_
  refine e_icmp_lt 362 dX10_clause_353 (by decide) (fun _ => ?_) (fun c => absurd c (by decide))
  refine e_aload_n dX10_clause_362 rfl rfl ?_
  refine e_getR (q := 91) dX10_clause_363 fl_RX10_17 (Ms10.s 89 rfl) (Ms10.n (by decide)) rfl (Ms10.r 89 9 rfl) (by unfold fscr; omega) ?_
  refine e_iload_n dX10_clause_366 rfl rfl ?_
  refine e_dup2 dX10_clause_367 rfl rfl ?_
  refine e_iaload 2 dX10_clause_368 (Ms10.s 91 rfl) (Ms10.n (by decide)) rfl (by omega) (by decide) ?_
  refine e_int (nI (dT D 2)) (Rr10.1 2 (by decide)) ?_
  refine e_iconst (nI 1) dX10_clause_369 (by decide) ?_
  refine e_iadd dX10_clause_370 ?_
  refine e_int (nI (dT D 2 + 1)) (nI_add (dT D 2) 1) ?_
  refine e_iastore 2 dX10_clause_371 (Ms10.s 91 rfl) (Ms10.n (by decide)) rfl (by omega) (by decide) ?_
  refine e_aload_n dX10_clause_372 rfl rfl ?_
  refine e_callV (k := 89) [] dX10_clause_373 cc_X10_closes lk_RX10_145 im_X10_closes se_X10_closes (by decide) (Ms10.s 89 rfl) (Ms10.n (by decide)) rfl (Nat.le_of_ble_eq_true rfl) (Nat.le_of_ble_eq_true rfl) ?_
  refine t_X10_closes Ms10 hB10 hb hn10 n600 (hs10.sm (fun _ => rfl)) (fun σz Smz hsz hkz => fK_v ?_)
  show fEv g _ mX10_clause 376 [some (.ref 89), some (.int (nI 2)), some (.ref (134 + (dT D 2)))] [] σz Q
  have Smy : fSm fRqA σ σz := (Sm10.tr (fSm_I (A := fRqA) (by unfold fRqA; omega))).tr (Smz.to (fun a (q : a = 89) => Or.inl q))
  refine e_return dX10_clause_376 rfl (h _ Smy hsz (fun e q => ?_) ((hkz 2 (by decide) (by decide) (by decide)).trans hn10) ((hkz 7 (by decide) (by decide) (by decide)).trans hc10) (fun j h1 h2 h3 => (hkz j h1 h2 h3).trans (ho10 j h1 h2 h3)))
  obtain ⟨a9, h9⟩ := mse_ok q
  have hr9 : ∀ c, c < 5 → fI σ10 (134 + (dT D 2)) c = nI ((mr5 (mnv B n 1 13 0 s) (mnv B n 1 13 0 (mnum B n 1 13 s)) (mnv B n 1 10 0 (mnum B n 1 13 (mnum B n 1 13 s))) (mnv B n 0 30 0 (mnum B n 1 10 (mnum B n 1 13 (mnum B n 1 13 s)))) (mnv B n 1 100 0 (mnum B n 0 30 (mnum B n 1 10 (mnum B n 1 13 (mnum B n 1 13 s)))))) c) := fun c hc9 => by
    rcases (show c = 0 ∨ c = 1 ∨ c = 2 ∨ c = 3 ∨ c = 4 by omega) with rfl | rfl | rfl | rfl | rfl
    · exact u0_10
    · exact u1_10
    · exact u2_10
    · exact u3_10
    · exact u4_10
  exact (Rr10.AO hD hfl hr9).sm Smz (mns_ok hD (fun q => by have := of_decide_eq_true q; omega) (by decide) h9) (fun i h1 h2 (q : i = 89) => by omega)
set_option maxRecDepth 20000 in
theorem l_X10_cl3 {g : fGP} {d : Nat} {σ : fAH} {Q : fRes → fAH → Prop} {B : Nat → Nat} {n : Nat} {D : fSD} {s : fP} {c9 : Nat} (Ms : fMs g σ) (hB : ∀ i, i < 600 → fI σ 90 i = nI (B i)) (hb : ∀ i, B i < 256) (hn : fI σ 89 2 = nI n) (hn6 : n ≤ 600) (hc : fI σ 89 7 = nI c9) (Rr : fRr σ D) (hD : fWD D) (hs : fPs σ 89 4 n s) (h : ∀ σ', fSm fRqA σ σ' → fPs σ' 89 4 n (mse B n (mns B n 3 D s).1) → (∀ e, mse B n (mns B n 3 D s).1 = .inr e → fRr σ' (mns B n 3 D s).2) → fI σ' 89 2 = nI n → fI σ' 89 7 = nI c9 → (∀ j, j ≠ 4 → j ≠ 5 → j ≠ 6 → fI σ' 89 j = fI σ 89 j) → Q (.inl none) σ') : fEv g (d + 4) mX10_clause 121 [some (.ref 89), some (.int (nI 3)), none] [] σ Q := by
  obtain ⟨t0, t1, t2, t3, t4, t5, t6⟩ := id hD.1
  have n600 := hn6
  refine e_iload_n dX10_clause_121 rfl rfl ?_
  refine e_tswIn (off := 165) 287 dX10_clause_122 (by decide) (by decide) (by decide) (by decide) ?_
  refine e_aload_n dX10_clause_287 rfl rfl ?_
  refine e_getR (q := 91) dX10_clause_288 fl_RX10_17 (Ms.s 89 rfl) (Ms.n (by decide)) rfl (Ms.r 89 9 rfl) (by unfold fscr; omega) ?_
  refine e_iconst (nI 3) dX10_clause_291 (by decide) ?_
  refine e_aload_n dX10_clause_292 rfl rfl ?_
  refine e_iconst (nI 0) dX10_clause_293 (by decide) ?_
  refine e_bipush (nI 12) dX10_clause_294 (by decide) ?_
  refine e_callV (k := 89) [.int (nI 0), .int (nI 12)] dX10_clause_296 cc_X10_number lk_RX10_134 im_X10_number se_X10_number (by decide) (Ms.s 89 rfl) (Ms.n (by decide)) rfl (Nat.le_of_ble_eq_true rfl) (Nat.le_of_ble_eq_true rfl) ?_
  refine t_X10_number (B := B) (n := n) (s := s) (lo := 0) (hi1 := 13) Ms hB hb hn n600 hs (by decide) (fun _ _ => by decide) (fun _ _ => hr_n (by decide)) (fun σ1 Smx1 hs1 hk1 => ?_)
  show fEv g _ mX10_clause 299 [some (.ref 89), some (.int (nI 3)), none] [.int (nI (mnv B n 0 13 0 s)), .int (nI 3), .ref 91] σ1 Q
  have Sm1 : fSm fRqA σ σ1 := (Smx1.to (fun a (q : a = 89) => Or.inl q))
  have Ms1 := Ms.sm Sm1
  have hB1 : ∀ i, i < 600 → fI σ1 90 i = nI (B i) := fun i hi => (Sm1.i (by unfold fRqA; omega) i).trans (hB i hi)
  have hn1 := (hk1 2 (by decide) (by decide) (by decide)).trans hn
  have hc1 := (hk1 7 (by decide) (by decide) (by decide)).trans hc
  have ho1 : ∀ j, j ≠ 4 → j ≠ 5 → j ≠ 6 → fI σ1 89 j = fI σ 89 j := fun j h1 h2 h3 => (hk1 j h1 h2 h3)
  have Rr1 := Rr.sm Smx1 hD (fun i h1 h2 (q : i = 89) => by omega)
  refine e_iastore 3 dX10_clause_299 (Ms1.s 91 rfl) (Ms1.n (by decide)) rfl (by omega) (by decide) ?_
  refine e_goto 351 dX10_clause_300 (by decide) ?_
  refine e_iload_n dX10_clause_351 rfl rfl ?_
  refine e_iconst (nI 3) dX10_clause_352 (by decide) ?_
  refine e_icmp_lt 362 dX10_clause_353 (by decide) (fun c => absurd c (by decide)) (fun _ => ?_)
  refine e_iload_n dX10_clause_356 rfl rfl ?_
  refine e_bipush (nI 6) dX10_clause_357 (by decide) ?_
  refine e_icmp_ne 372 dX10_clause_359 (by decide) (fun _ => ?_) (fun c => absurd c (by decide))
  refine e_aload_n dX10_clause_372 rfl rfl ?_
  refine e_callV (k := 89) [] dX10_clause_373 cc_X10_closes lk_RX10_145 im_X10_closes se_X10_closes (by decide) (Ms1.s 89 rfl) (Ms1.n (by decide)) rfl (Nat.le_of_ble_eq_true rfl) (Nat.le_of_ble_eq_true rfl) ?_
  refine t_X10_closes Ms1 hB1 hb hn1 n600 (hs1.sm (fun _ => rfl)) (fun σz Smz hsz hkz => fK_v ?_)
  show fEv g _ mX10_clause 376 [some (.ref 89), some (.int (nI 3)), none] [] σz Q
  have Smy : fSm fRqA σ σz := (Sm1.tr (fSm_I (A := fRqA) (by unfold fRqA; omega))).tr (Smz.to (fun a (q : a = 89) => Or.inl q))
  refine e_return dX10_clause_376 rfl (h _ Smy hsz (fun e q => ?_) ((hkz 2 (by decide) (by decide) (by decide)).trans hn1) ((hkz 7 (by decide) (by decide) (by decide)).trans hc1) (fun j h1 h2 h3 => (hkz j h1 h2 h3).trans (ho1 j h1 h2 h3)))
  obtain ⟨a9, h9⟩ := mse_ok q
  exact (Rr1.St hD (by decide)).sm Smz (mns_ok hD (fun q => by have := of_decide_eq_true q; omega) (by decide) h9) (fun i h1 h2 (q : i = 89) => by omega)
set_option maxRecDepth 20000 in
theorem l_X10_cl4 {g : fGP} {d : Nat} {σ : fAH} {Q : fRes → fAH → Prop} {B : Nat → Nat} {n : Nat} {D : fSD} {s : fP} {c9 : Nat} (Ms : fMs g σ) (hB : ∀ i, i < 600 → fI σ 90 i = nI (B i)) (hb : ∀ i, B i < 256) (hn : fI σ 89 2 = nI n) (hn6 : n ≤ 600) (hc : fI σ 89 7 = nI c9) (Rr : fRr σ D) (hD : fWD D) (hs : fPs σ 89 4 n s) (h : ∀ σ', fSm fRqA σ σ' → fPs σ' 89 4 n (mse B n (mns B n 4 D s).1) → (∀ e, mse B n (mns B n 4 D s).1 = .inr e → fRr σ' (mns B n 4 D s).2) → fI σ' 89 2 = nI n → fI σ' 89 7 = nI c9 → (∀ j, j ≠ 4 → j ≠ 5 → j ≠ 6 → fI σ' 89 j = fI σ 89 j) → Q (.inl none) σ') : fEv g (d + 4) mX10_clause 121 [some (.ref 89), some (.int (nI 4)), none] [] σ Q := by
  obtain ⟨t0, t1, t2, t3, t4, t5, t6⟩ := id hD.1
  have n600 := hn6
  refine e_iload_n dX10_clause_121 rfl rfl ?_
  refine e_tswIn (off := 181) 303 dX10_clause_122 (by decide) (by decide) (by decide) (by decide) ?_
  refine e_aload_n dX10_clause_303 rfl rfl ?_
  refine e_getR (q := 91) dX10_clause_304 fl_RX10_17 (Ms.s 89 rfl) (Ms.n (by decide)) rfl (Ms.r 89 9 rfl) (by unfold fscr; omega) ?_
  refine e_iconst (nI 4) dX10_clause_307 (by decide) ?_
  refine e_aload_n dX10_clause_308 rfl rfl ?_
  refine e_iconst (nI 0) dX10_clause_309 (by decide) ?_
  refine e_bipush (nI 9) dX10_clause_310 (by decide) ?_
  refine e_callV (k := 89) [.int (nI 0), .int (nI 9)] dX10_clause_312 cc_X10_number lk_RX10_134 im_X10_number se_X10_number (by decide) (Ms.s 89 rfl) (Ms.n (by decide)) rfl (Nat.le_of_ble_eq_true rfl) (Nat.le_of_ble_eq_true rfl) ?_
  refine t_X10_number (B := B) (n := n) (s := s) (lo := 0) (hi1 := 10) Ms hB hb hn n600 hs (by decide) (fun _ _ => by decide) (fun _ _ => hr_n (by decide)) (fun σ1 Smx1 hs1 hk1 => ?_)
  show fEv g _ mX10_clause 315 [some (.ref 89), some (.int (nI 4)), none] [.int (nI (mnv B n 0 10 0 s)), .int (nI 4), .ref 91] σ1 Q
  have Sm1 : fSm fRqA σ σ1 := (Smx1.to (fun a (q : a = 89) => Or.inl q))
  have Ms1 := Ms.sm Sm1
  have hB1 : ∀ i, i < 600 → fI σ1 90 i = nI (B i) := fun i hi => (Sm1.i (by unfold fRqA; omega) i).trans (hB i hi)
  have hn1 := (hk1 2 (by decide) (by decide) (by decide)).trans hn
  have hc1 := (hk1 7 (by decide) (by decide) (by decide)).trans hc
  have ho1 : ∀ j, j ≠ 4 → j ≠ 5 → j ≠ 6 → fI σ1 89 j = fI σ 89 j := fun j h1 h2 h3 => (hk1 j h1 h2 h3)
  have Rr1 := Rr.sm Smx1 hD (fun i h1 h2 (q : i = 89) => by omega)
  refine e_iastore 4 dX10_clause_315 (Ms1.s 91 rfl) (Ms1.n (by decide)) rfl (by omega) (by decide) ?_
  refine e_goto 351 dX10_clause_316 (by decide) ?_
  refine e_iload_n dX10_clause_351 rfl rfl ?_
  refine e_iconst (nI 3) dX10_clause_352 (by decide) ?_
  refine e_icmp_lt 362 dX10_clause_353 (by decide) (fun c => absurd c (by decide)) (fun _ => ?_)
  refine e_iload_n dX10_clause_356 rfl rfl ?_
  refine e_bipush (nI 6) dX10_clause_357 (by decide) ?_
  refine e_icmp_ne 372 dX10_clause_359 (by decide) (fun _ => ?_) (fun c => absurd c (by decide))
  refine e_aload_n dX10_clause_372 rfl rfl ?_
  refine e_callV (k := 89) [] dX10_clause_373 cc_X10_closes lk_RX10_145 im_X10_closes se_X10_closes (by decide) (Ms1.s 89 rfl) (Ms1.n (by decide)) rfl (Nat.le_of_ble_eq_true rfl) (Nat.le_of_ble_eq_true rfl) ?_
  refine t_X10_closes Ms1 hB1 hb hn1 n600 (hs1.sm (fun _ => rfl)) (fun σz Smz hsz hkz => fK_v ?_)
  show fEv g _ mX10_clause 376 [some (.ref 89), some (.int (nI 4)), none] [] σz Q
  have Smy : fSm fRqA σ σz := (Sm1.tr (fSm_I (A := fRqA) (by unfold fRqA; omega))).tr (Smz.to (fun a (q : a = 89) => Or.inl q))
  refine e_return dX10_clause_376 rfl (h _ Smy hsz (fun e q => ?_) ((hkz 2 (by decide) (by decide) (by decide)).trans hn1) ((hkz 7 (by decide) (by decide) (by decide)).trans hc1) (fun j h1 h2 h3 => (hkz j h1 h2 h3).trans (ho1 j h1 h2 h3)))
  obtain ⟨a9, h9⟩ := mse_ok q
  exact (Rr1.St hD (by decide)).sm Smz (mns_ok hD (fun q => by have := of_decide_eq_true q; omega) (by decide) h9) (fun i h1 h2 (q : i = 89) => by omega)
set_option maxRecDepth 20000 in
theorem l_X10_cl5 {g : fGP} {d : Nat} {σ : fAH} {Q : fRes → fAH → Prop} {B : Nat → Nat} {n : Nat} {D : fSD} {s : fP} {c9 : Nat} (Ms : fMs g σ) (hB : ∀ i, i < 600 → fI σ 90 i = nI (B i)) (hb : ∀ i, B i < 256) (hn : fI σ 89 2 = nI n) (hn6 : n ≤ 600) (hc : fI σ 89 7 = nI c9) (Rr : fRr σ D) (hD : fWD D) (hs : fPs σ 89 4 n s) (h : ∀ σ', fSm fRqA σ σ' → fPs σ' 89 4 n (mse B n (mns B n 5 D s).1) → (∀ e, mse B n (mns B n 5 D s).1 = .inr e → fRr σ' (mns B n 5 D s).2) → fI σ' 89 2 = nI n → fI σ' 89 7 = nI c9 → (∀ j, j ≠ 4 → j ≠ 5 → j ≠ 6 → fI σ' 89 j = fI σ 89 j) → Q (.inl none) σ') : fEv g (d + 4) mX10_clause 121 [some (.ref 89), some (.int (nI 5)), none] [] σ Q := by
  obtain ⟨t0, t1, t2, t3, t4, t5, t6⟩ := id hD.1
  have n600 := hn6
  refine e_iload_n dX10_clause_121 rfl rfl ?_
  refine e_tswIn (off := 197) 319 dX10_clause_122 (by decide) (by decide) (by decide) (by decide) ?_
  refine e_aload_n dX10_clause_319 rfl rfl ?_
  refine e_getR (q := 91) dX10_clause_320 fl_RX10_17 (Ms.s 89 rfl) (Ms.n (by decide)) rfl (Ms.r 89 9 rfl) (by unfold fscr; omega) ?_
  refine e_iconst (nI 5) dX10_clause_323 (by decide) ?_
  refine e_aload_n dX10_clause_324 rfl rfl ?_
  refine e_iconst (nI 0) dX10_clause_325 (by decide) ?_
  refine e_bipush (nI 30) dX10_clause_326 (by decide) ?_
  refine e_callV (k := 89) [.int (nI 0), .int (nI 30)] dX10_clause_328 cc_X10_number lk_RX10_134 im_X10_number se_X10_number (by decide) (Ms.s 89 rfl) (Ms.n (by decide)) rfl (Nat.le_of_ble_eq_true rfl) (Nat.le_of_ble_eq_true rfl) ?_
  refine t_X10_number (B := B) (n := n) (s := s) (lo := 0) (hi1 := 31) Ms hB hb hn n600 hs (by decide) (fun _ _ => by decide) (fun _ _ => hr_n (by decide)) (fun σ1 Smx1 hs1 hk1 => ?_)
  show fEv g _ mX10_clause 331 [some (.ref 89), some (.int (nI 5)), none] [.int (nI (mnv B n 0 31 0 s)), .int (nI 5), .ref 91] σ1 Q
  have Sm1 : fSm fRqA σ σ1 := (Smx1.to (fun a (q : a = 89) => Or.inl q))
  have Ms1 := Ms.sm Sm1
  have hB1 : ∀ i, i < 600 → fI σ1 90 i = nI (B i) := fun i hi => (Sm1.i (by unfold fRqA; omega) i).trans (hB i hi)
  have hn1 := (hk1 2 (by decide) (by decide) (by decide)).trans hn
  have hc1 := (hk1 7 (by decide) (by decide) (by decide)).trans hc
  have ho1 : ∀ j, j ≠ 4 → j ≠ 5 → j ≠ 6 → fI σ1 89 j = fI σ 89 j := fun j h1 h2 h3 => (hk1 j h1 h2 h3)
  have Rr1 := Rr.sm Smx1 hD (fun i h1 h2 (q : i = 89) => by omega)
  refine e_iastore 5 dX10_clause_331 (Ms1.s 91 rfl) (Ms1.n (by decide)) rfl (by omega) (by decide) ?_
  refine e_goto 351 dX10_clause_332 (by decide) ?_
  refine e_iload_n dX10_clause_351 rfl rfl ?_
  refine e_iconst (nI 3) dX10_clause_352 (by decide) ?_
  refine e_icmp_lt 362 dX10_clause_353 (by decide) (fun c => absurd c (by decide)) (fun _ => ?_)
  refine e_iload_n dX10_clause_356 rfl rfl ?_
  refine e_bipush (nI 6) dX10_clause_357 (by decide) ?_
  refine e_icmp_ne 372 dX10_clause_359 (by decide) (fun _ => ?_) (fun c => absurd c (by decide))
  refine e_aload_n dX10_clause_372 rfl rfl ?_
  refine e_callV (k := 89) [] dX10_clause_373 cc_X10_closes lk_RX10_145 im_X10_closes se_X10_closes (by decide) (Ms1.s 89 rfl) (Ms1.n (by decide)) rfl (Nat.le_of_ble_eq_true rfl) (Nat.le_of_ble_eq_true rfl) ?_
  refine t_X10_closes Ms1 hB1 hb hn1 n600 (hs1.sm (fun _ => rfl)) (fun σz Smz hsz hkz => fK_v ?_)
  show fEv g _ mX10_clause 376 [some (.ref 89), some (.int (nI 5)), none] [] σz Q
  have Smy : fSm fRqA σ σz := (Sm1.tr (fSm_I (A := fRqA) (by unfold fRqA; omega))).tr (Smz.to (fun a (q : a = 89) => Or.inl q))
  refine e_return dX10_clause_376 rfl (h _ Smy hsz (fun e q => ?_) ((hkz 2 (by decide) (by decide) (by decide)).trans hn1) ((hkz 7 (by decide) (by decide) (by decide)).trans hc1) (fun j h1 h2 h3 => (hkz j h1 h2 h3).trans (ho1 j h1 h2 h3)))
  obtain ⟨a9, h9⟩ := mse_ok q
  exact (Rr1.St hD (by decide)).sm Smz (mns_ok hD (fun q => by have := of_decide_eq_true q; omega) (by decide) h9) (fun i h1 h2 (q : i = 89) => by omega)
set_option maxRecDepth 20000 in
theorem l_X10_cl6 {g : fGP} {d : Nat} {σ : fAH} {Q : fRes → fAH → Prop} {B : Nat → Nat} {n : Nat} {D : fSD} {s : fP} {c9 : Nat} (Ms : fMs g σ) (hB : ∀ i, i < 600 → fI σ 90 i = nI (B i)) (hb : ∀ i, B i < 256) (hn : fI σ 89 2 = nI n) (hn6 : n ≤ 600) (hc : fI σ 89 7 = nI c9) (Rr : fRr σ D) (hD : fWD D) (hs : fPs σ 89 4 n s) (hfl : dT D 6 < 24) (h : ∀ σ', fSm fRqA σ σ' → fPs σ' 89 4 n (mse B n (mns B n 6 D s).1) → (∀ e, mse B n (mns B n 6 D s).1 = .inr e → fRr σ' (mns B n 6 D s).2) → fI σ' 89 2 = nI n → fI σ' 89 7 = nI c9 → (∀ j, j ≠ 4 → j ≠ 5 → j ≠ 6 → fI σ' 89 j = fI σ 89 j) → Q (.inl none) σ') : fEv g (d + 4) mX10_clause 121 [some (.ref 89), some (.int (nI 6)), none] [] σ Q := by
  obtain ⟨t0, t1, t2, t3, t4, t5, t6⟩ := id hD.1
  have n600 := hn6
  refine e_iload_n dX10_clause_121 rfl rfl ?_
  refine e_tswOut 335 dX10_clause_122 (by decide) (by decide) ?_
  refine e_aload_n dX10_clause_335 rfl rfl ?_
  refine e_aload_n dX10_clause_336 rfl rfl ?_
  refine e_getR (q := 147) dX10_clause_337 fl_RX10_43 (Ms.s 89 rfl) (Ms.n (by decide)) rfl (Ms.r 89 17 rfl) (by unfold fscr; omega) ?_
  refine e_aload_n dX10_clause_340 rfl rfl ?_
  refine e_getR (q := 91) dX10_clause_341 fl_RX10_17 (Ms.s 89 rfl) (Ms.n (by decide)) rfl (Ms.r 89 9 rfl) (by unfold fscr; omega) ?_
  refine e_bipush (nI 6) dX10_clause_344 (by decide) ?_
  refine e_iaload 6 dX10_clause_346 (Ms.s 91 rfl) (Ms.n (by decide)) rfl (by omega) (by decide) ?_
  refine e_int (nI (dT D 6)) (Rr.1 6 (by decide)) ?_
  refine e_aaload (q := 148 + (dT D 6)) (dT D 6) dX10_clause_347 (Ms.s 147 rfl) (by decide) (Ms.n (by decide)) rfl (by omega) (by decide) (Ms.r 147 _ (frf_readOdds _ (by omega))) (by unfold fscr; omega) ?_
  refine e_callV (k := 89) [.ref (148 + (dT D 6))] dX10_clause_348 cc_X10_readsOdds lk_RX10_142 im_X10_readsOdds se_X10_readsOdds (by decide) (Ms.s 89 rfl) (Ms.n (by decide)) rfl (Nat.le_of_ble_eq_true rfl) (Nat.le_of_ble_eq_true rfl) ?_
  refine t_X10_readsOdds Ms hB hb hn n600 hc Rr hD hs hfl (fun σ1 Sm1 hs1 Rr1 row1 hn1 hc1 ho1 => fK_v ?_)
  show fEv g _ mX10_clause 351 [some (.ref 89), some (.int (nI 6)), none] [] σ1 Q
  have Ms1 := Ms.sm Sm1
  have hB1 : ∀ i, i < 600 → fI σ1 90 i = nI (B i) := fun i hi => (Sm1.i (by unfold fRqA; omega) i).trans (hB i hi)
  refine e_iload_n dX10_clause_351 rfl rfl ?_
  refine e_iconst (nI 3) dX10_clause_352 (by decide) ?_
  refine e_icmp_lt 362 dX10_clause_353 (by decide) (fun c => absurd c (by decide)) (fun _ => ?_)
  refine e_iload_n dX10_clause_356 rfl rfl ?_
  refine e_bipush (nI 6) dX10_clause_357 (by decide) ?_
  refine e_icmp_ne 372 dX10_clause_359 (by decide) (fun c => absurd c (by decide)) (fun _ => ?_)
  refine e_aload_n dX10_clause_362 rfl rfl ?_
  refine e_getR (q := 91) dX10_clause_363 fl_RX10_17 (Ms1.s 89 rfl) (Ms1.n (by decide)) rfl (Ms1.r 89 9 rfl) (by unfold fscr; omega) ?_
  refine e_iload_n dX10_clause_366 rfl rfl ?_
  refine e_dup2 dX10_clause_367 rfl rfl ?_
  refine e_iaload 6 dX10_clause_368 (Ms1.s 91 rfl) (Ms1.n (by decide)) rfl (by omega) (by decide) ?_
  refine e_int (nI (dT D 6)) (Rr1.1 6 (by decide)) ?_
  refine e_iconst (nI 1) dX10_clause_369 (by decide) ?_
  refine e_iadd dX10_clause_370 ?_
  refine e_int (nI (dT D 6 + 1)) (nI_add (dT D 6) 1) ?_
  refine e_iastore 6 dX10_clause_371 (Ms1.s 91 rfl) (Ms1.n (by decide)) rfl (by omega) (by decide) ?_
  refine e_aload_n dX10_clause_372 rfl rfl ?_
  refine e_callV (k := 89) [] dX10_clause_373 cc_X10_closes lk_RX10_145 im_X10_closes se_X10_closes (by decide) (Ms1.s 89 rfl) (Ms1.n (by decide)) rfl (Nat.le_of_ble_eq_true rfl) (Nat.le_of_ble_eq_true rfl) ?_
  refine t_X10_closes Ms1 hB1 hb hn1 n600 (hs1.sm (fun _ => rfl)) (fun σz Smz hsz hkz => fK_v ?_)
  show fEv g _ mX10_clause 376 [some (.ref 89), some (.int (nI 6)), none] [] σz Q
  have Smy : fSm fRqA σ σz := (Sm1.tr (fSm_I (A := fRqA) (by unfold fRqA; omega))).tr (Smz.to (fun a (q : a = 89) => Or.inl q))
  refine e_return dX10_clause_376 rfl (h _ Smy hsz (fun e q => ?_) ((hkz 2 (by decide) (by decide) (by decide)).trans hn1) ((hkz 7 (by decide) (by decide) (by decide)).trans hc1) (fun j h1 h2 h3 => (hkz j h1 h2 h3).trans (ho1 j h1 h2 h3)))
  obtain ⟨a9, h9⟩ := mse_ok q
  exact (Rr1.AZ hD hfl (row1 a9 h9)).sm Smz (mns_ok hD (fun q => by have := of_decide_eq_true q; omega) (by decide) h9) (fun i h1 h2 (q : i = 89) => by omega)
set_option maxRecDepth 20000 in
theorem l_X10_let {g : fGP} {d : Nat} {σ : fAH} {Q : fRes → fAH → Prop} {B : Nat → Nat} {n : Nat} {kk : Int32} (Ms : fMs g σ) (hB : ∀ i, i < 600 → fI σ 90 i = nI (B i)) (hb : ∀ i, B i < 256) (hn : fI σ 89 2 = nI n) (hn6 : n ≤ 600)  : ∀ (k a : Nat), a + k = n → fEv g (d + 1) mX10_clause 111 [some (.ref 89), some (.int kk), none] [] (fsI σ 89 4 (nI (msc (qlt B) k a))) Q → fEv g (d + 1) mX10_clause 72 [some (.ref 89), some (.int kk), none] [] (fsI σ 89 4 (nI a)) Q := by
  intro k
  induction k with
  | zero =>
    intro a ha h
    refine e_aload_n dX10_clause_72 rfl rfl ?_
    refine e_aload_n dX10_clause_73 rfl rfl ?_
    refine e_getI dX10_clause_74 fl_RX10_85 (Ms.s 89 rfl) (Ms.n (by decide)) rfl ?_
    refine e_int (nI a) (by rw [fI_I, if_pos ⟨rfl, rfl⟩]) ?_
    refine e_callV (k := 89) [.int (nI a)] dX10_clause_77 cc_X10_byteAt lk_RX10_88 im_X10_byteAt se_X10_byteAt (by decide) (Ms.s 89 rfl) (Ms.n (by decide)) rfl (Nat.le_of_ble_eq_true rfl) (Nat.le_of_ble_eq_true rfl) ?_
    refine t_X10_byteAt Ms hB hn hn6 (by omega) (fK_i ?_)
    show fEv g _ mX10_clause 80 [some (.ref 89), some (.int kk), none] [.int (mba B n a)] (fsI σ 89 4 (nI a)) Q
    refine e_bipush (nI 97) dX10_clause_80 (by decide) ?_
    refine e_icmp_lt 111 dX10_clause_82 (by decide) (fun c82 => ?_) (fun c82 => ?_)
    · rw [mba_lt (hb a) (by decide)] at c82
      exact h
    · rw [mba_lt (hb a) (by decide)] at c82
      refine e_aload_n dX10_clause_85 rfl rfl ?_
      refine e_aload_n dX10_clause_86 rfl rfl ?_
      refine e_getI dX10_clause_87 fl_RX10_85 (Ms.s 89 rfl) (Ms.n (by decide)) rfl ?_
      refine e_int (nI a) (by rw [fI_I, if_pos ⟨rfl, rfl⟩]) ?_
      refine e_callV (k := 89) [.int (nI a)] dX10_clause_90 cc_X10_byteAt lk_RX10_88 im_X10_byteAt se_X10_byteAt (by decide) (Ms.s 89 rfl) (Ms.n (by decide)) rfl (Nat.le_of_ble_eq_true rfl) (Nat.le_of_ble_eq_true rfl) ?_
      refine t_X10_byteAt Ms hB hn hn6 (by omega) (fK_i ?_)
      show fEv g _ mX10_clause 93 [some (.ref 89), some (.int kk), none] [.int (mba B n a)] (fsI σ 89 4 (nI a)) Q
      refine e_bipush (nI 122) dX10_clause_93 (by decide) ?_
      refine e_icmp_gt 111 dX10_clause_95 (by decide) (fun c95 => ?_) (fun c95 => ?_)
      · rw [mba_gt (hb a) (by decide)] at c95
        exact h
      · rw [mba_gt (hb a) (by decide)] at c95
        refine e_aload_n dX10_clause_98 rfl rfl ?_
        refine e_dup dX10_clause_99 rfl ?_
        refine e_getI dX10_clause_100 fl_RX10_85 (Ms.s 89 rfl) (Ms.n (by decide)) rfl ?_
        refine e_int (nI a) (by rw [fI_I, if_pos ⟨rfl, rfl⟩]) ?_
        refine e_iconst (nI 1) dX10_clause_103 (by decide) ?_
        refine e_iadd dX10_clause_104 ?_
        refine e_int (nI (a + 1)) (nI_add a 1) ?_
        refine e_putI dX10_clause_105 fl_RX10_85 (Ms.s 89 rfl) (Ms.n (by decide)) rfl rfl ?_
        refine e_goto 72 dX10_clause_108 (by decide) ?_
        omega
  | succ k ih =>
    intro a ha h
    refine e_aload_n dX10_clause_72 rfl rfl ?_
    refine e_aload_n dX10_clause_73 rfl rfl ?_
    refine e_getI dX10_clause_74 fl_RX10_85 (Ms.s 89 rfl) (Ms.n (by decide)) rfl ?_
    refine e_int (nI a) (by rw [fI_I, if_pos ⟨rfl, rfl⟩]) ?_
    refine e_callV (k := 89) [.int (nI a)] dX10_clause_77 cc_X10_byteAt lk_RX10_88 im_X10_byteAt se_X10_byteAt (by decide) (Ms.s 89 rfl) (Ms.n (by decide)) rfl (Nat.le_of_ble_eq_true rfl) (Nat.le_of_ble_eq_true rfl) ?_
    refine t_X10_byteAt Ms hB hn hn6 (by omega) (fK_i ?_)
    show fEv g _ mX10_clause 80 [some (.ref 89), some (.int kk), none] [.int (mba B n a)] (fsI σ 89 4 (nI a)) Q
    refine e_bipush (nI 97) dX10_clause_80 (by decide) ?_
    refine e_icmp_lt 111 dX10_clause_82 (by decide) (fun c82 => ?_) (fun c82 => ?_)
    · rw [mba_lt (hb a) (by decide)] at c82
      rw [msc_f (decide_eq_false (by omega))] at h
      exact h
    · rw [mba_lt (hb a) (by decide)] at c82
      refine e_aload_n dX10_clause_85 rfl rfl ?_
      refine e_aload_n dX10_clause_86 rfl rfl ?_
      refine e_getI dX10_clause_87 fl_RX10_85 (Ms.s 89 rfl) (Ms.n (by decide)) rfl ?_
      refine e_int (nI a) (by rw [fI_I, if_pos ⟨rfl, rfl⟩]) ?_
      refine e_callV (k := 89) [.int (nI a)] dX10_clause_90 cc_X10_byteAt lk_RX10_88 im_X10_byteAt se_X10_byteAt (by decide) (Ms.s 89 rfl) (Ms.n (by decide)) rfl (Nat.le_of_ble_eq_true rfl) (Nat.le_of_ble_eq_true rfl) ?_
      refine t_X10_byteAt Ms hB hn hn6 (by omega) (fK_i ?_)
      show fEv g _ mX10_clause 93 [some (.ref 89), some (.int kk), none] [.int (mba B n a)] (fsI σ 89 4 (nI a)) Q
      refine e_bipush (nI 122) dX10_clause_93 (by decide) ?_
      refine e_icmp_gt 111 dX10_clause_95 (by decide) (fun c95 => ?_) (fun c95 => ?_)
      · rw [mba_gt (hb a) (by decide)] at c95
        rw [msc_f (decide_eq_false (by omega))] at h
        exact h
      · rw [mba_gt (hb a) (by decide)] at c95
        refine e_aload_n dX10_clause_98 rfl rfl ?_
        refine e_dup dX10_clause_99 rfl ?_
        refine e_getI dX10_clause_100 fl_RX10_85 (Ms.s 89 rfl) (Ms.n (by decide)) rfl ?_
        refine e_int (nI a) (by rw [fI_I, if_pos ⟨rfl, rfl⟩]) ?_
        refine e_iconst (nI 1) dX10_clause_103 (by decide) ?_
        refine e_iadd dX10_clause_104 ?_
        refine e_int (nI (a + 1)) (nI_add a 1) ?_
        refine e_putI dX10_clause_105 fl_RX10_85 (Ms.s 89 rfl) (Ms.n (by decide)) rfl rfl ?_
        refine e_goto 72 dX10_clause_108 (by decide) ?_
        rw [fsI_2]
        rw [msc_t (decide_eq_true (by omega))] at h
        exact ih (a + 1) (by omega) h
set_option maxRecDepth 20000 in
theorem t_X10_clause {g : fGP} {d : Nat} {σ : fAH} {Q : fRes → fAH → Prop} {B : Nat → Nat} {n : Nat} {D : fSD} {a c8 : Nat} (Ms : fMs g σ) (hB : ∀ i, i < 600 → fI σ 90 i = nI (B i)) (hb : ∀ i, B i < 256) (hn : fI σ 89 2 = nI n) (hn6 : n ≤ 600) (hc : fI σ 89 7 = nI c8) (hc6 : c8 ≤ 60) (Rr : fRr σ D) (hD : fWD D) (hs : fPs σ 89 4 n (.inr a)) (hbl : mbl B n a = a) (h : ∀ σ', fSm fRqA σ σ' → fPs σ' 89 4 n (mcla B n a c8 D).1 → (∀ e, (mcla B n a c8 D).1 = .inr e → fRr σ' (mcla B n a c8 D).2 ∧ fI σ' 89 7 = nI (c8 + 1)) → fI σ' 89 2 = nI n → (∀ j, j ≠ 4 → j ≠ 5 → j ≠ 6 → j ≠ 7 → fI σ' 89 j = fI σ 89 j) → Q (.inl none) σ') : fEv g (d + 5) mX10_clause 0 (fent [.ref 89] 3) [] σ Q := by
  obtain ⟨t0, t1, t2, t3, t4, t5, t6⟩ := id hD.1
  have hs : a ≤ n ∧ fI σ 89 4 = nI a ∧ fI σ 89 5 = nI 0 ∧ fI σ 89 6 = -1 := hs
  have hat := hs.2.1
  have ha := hs.1
  show fEv g (d + 5) mX10_clause 0 [some (.ref 89), none, none] [] σ Q
  refine e_aload_n dX10_clause_0 rfl rfl ?_
  refine e_callV (k := 89) [] dX10_clause_1 cc_X10_kindHere lk_RX10_125 im_X10_kindHere se_X10_kindHere (by decide) (Ms.s 89 rfl) (Ms.n (by decide)) rfl (Nat.le_of_ble_eq_true rfl) (Nat.le_of_ble_eq_true rfl) ?_
  refine t_X10_kindHere Ms hB hb hn hn6 hat ha hbl hs.2.2.1 (fK_i ?_)
  show fEv g _ mX10_clause 4 [some (.ref 89), none, none] [.int (mo (mwr B a (mlt B n a)))] σ Q
  refine e_istore_n (L1 := [some (.ref 89), some (.int (mo (mwr B a (mlt B n a)))), none]) dX10_clause_4 rfl (by decide) rfl ?_
  cases hw : mwr B a (mlt B n a) with
  | none =>
    rw [mcla_n hw] at h
    show fEv g _ mX10_clause 5 [some (.ref 89), some (.int (-1)), none] [] σ Q
    refine e_iload_n dX10_clause_5 rfl rfl ?_
    refine e_iconst (-1) dX10_clause_6 (by decide) ?_
    refine e_icmp_ne 22 dX10_clause_7 (by decide) (fun c => absurd rfl c) (fun _ => ?_)
    refine e_aload_n dX10_clause_10 rfl rfl ?_
    refine e_iconst (nI 1) dX10_clause_11 (by decide) ?_
    refine e_aload_n dX10_clause_12 rfl rfl ?_
    refine e_getI dX10_clause_13 fl_RX10_85 (Ms.s 89 rfl) (Ms.n (by decide)) rfl ?_
    refine e_int (nI a) hat ?_
    refine e_callV (k := 89) [.int (nI 1), .int (nI a)] dX10_clause_16 cc_X10_wrong lk_RX10_105 im_X10_wrong se_X10_wrong (by decide) (Ms.s 89 rfl) (Ms.n (by decide)) rfl (Nat.le_of_ble_eq_true rfl) (Nat.le_of_ble_eq_true rfl) ?_
    refine t_X10_wrong Ms hs.2.2.1 (fK_v ?_)
    show fEv g _ mX10_clause 19 [some (.ref 89), some (.int ((-1))), none] [] (fsI (fsI σ 89 5 (nI 1)) 89 6 (nI a)) Q
    refine e_goto 64 dX10_clause_19 (by decide) ?_
    refine e_aload_n dX10_clause_64 rfl rfl ?_
    refine e_getI dX10_clause_65 fl_RX10_92 (Ms.s 89 rfl) (Ms.n (by decide)) rfl ?_
    refine e_int (nI 1) (by rw [fI_I, if_neg (by omega), fI_I, if_pos ⟨rfl, rfl⟩]) ?_
    refine e_if_eq 72 dX10_clause_68 (by decide) (fun c => absurd c (by decide)) (fun _ => ?_)
    exact e_return dX10_clause_71 rfl (h _ ((fSm_I (A := fRqA) (Or.inl rfl)).tr (fSm_I (Or.inl rfl))) ⟨by rw [fI_I, if_neg (by omega), fI_I, if_pos ⟨rfl, rfl⟩], by rw [fI_I, if_pos ⟨rfl, rfl⟩], by show 1 ≤ 1; decide, by show 1 ≤ 3; decide, by show a ≤ n; omega, a, ha, by rw [fI_I, if_neg (by omega), fI_I, if_neg (by omega)]; exact hat⟩ (fun e q => by cases q) (by rw [fI_I, if_neg (by omega), fI_I, if_neg (by omega)]; exact hn) (fun j h1 h2 h3 h4 => by rw [fI_I, if_neg (by omega), fI_I, if_neg (by omega)]))
  | some k =>
    have hk7 := mwr_lt hw
    rcases w7 hk7 with rfl | rfl | rfl | rfl | rfl | rfl | rfl
    · show fEv g _ mX10_clause 5 [some (.ref 89), some (.int (nI 0)), none] [] σ Q
      refine e_iload_n dX10_clause_5 rfl rfl ?_
      refine e_iconst (-1) dX10_clause_6 (by decide) ?_
      refine e_icmp_ne 22 dX10_clause_7 (by decide) (fun _ => ?_) (fun c => absurd c (by decide))
      refine e_aload_n dX10_clause_22 rfl rfl ?_
      refine e_getI dX10_clause_23 fl_RX10_128 (Ms.s 89 rfl) (Ms.n (by decide)) rfl ?_
      refine e_int (nI c8) hc ?_
      refine e_bipush (nI 60) dX10_clause_26 (by decide) ?_
      refine e_icmp_eq 55 dX10_clause_28 (by decide) (fun c28 => ?_) (fun c28 => ?_)
      · rw [nI_inj (by omega) (by omega)] at c28
        refine e_aload_n dX10_clause_55 rfl rfl ?_
        refine e_iconst (nI 3) dX10_clause_56 (by decide) ?_
        refine e_aload_n dX10_clause_57 rfl rfl ?_
        refine e_getI dX10_clause_58 fl_RX10_85 (Ms.s 89 rfl) (Ms.n (by decide)) rfl ?_
        refine e_int (nI a) hat ?_
        refine e_callV (k := 89) [.int (nI 3), .int (nI a)] dX10_clause_61 cc_X10_wrong lk_RX10_105 im_X10_wrong se_X10_wrong (by decide) (Ms.s 89 rfl) (Ms.n (by decide)) rfl (Nat.le_of_ble_eq_true rfl) (Nat.le_of_ble_eq_true rfl) ?_
        refine t_X10_wrong Ms hs.2.2.1 (fK_v ?_)
        show fEv g _ mX10_clause 64 [some (.ref 89), some (.int (nI 0)), none] [] (fsI (fsI σ 89 5 (nI 3)) 89 6 (nI a)) Q
        refine e_aload_n dX10_clause_64 rfl rfl ?_
        refine e_getI dX10_clause_65 fl_RX10_92 (Ms.s 89 rfl) (Ms.n (by decide)) rfl ?_
        refine e_int (nI 3) (by rw [fI_I, if_neg (by omega), fI_I, if_pos ⟨rfl, rfl⟩]) ?_
        refine e_if_eq 72 dX10_clause_68 (by decide) (fun c => absurd c (by decide)) (fun _ => ?_)
        rw [mcla_f hw (by first | exact Or.inl (by omega) | exact Or.inr (decide_eq_true (by omega)))] at h
        exact e_return dX10_clause_71 rfl (h _ ((fSm_I (A := fRqA) (Or.inl rfl)).tr (fSm_I (Or.inl rfl))) ⟨by rw [fI_I, if_neg (by omega), fI_I, if_pos ⟨rfl, rfl⟩], by rw [fI_I, if_pos ⟨rfl, rfl⟩], by show 1 ≤ 3; decide, by show 3 ≤ 3; decide, by show a ≤ n; omega, a, ha, by rw [fI_I, if_neg (by omega), fI_I, if_neg (by omega)]; exact hat⟩ (fun e q => by cases q) (by rw [fI_I, if_neg (by omega), fI_I, if_neg (by omega)]; exact hn) (fun j h1 h2 h3 h4 => by rw [fI_I, if_neg (by omega), fI_I, if_neg (by omega)]))
      · rw [nI_inj (by omega) (by omega)] at c28
        refine e_iload_n dX10_clause_31 rfl rfl ?_
        refine e_iconst (nI 3) dX10_clause_32 (by decide) ?_
        refine e_icmp_lt 42 dX10_clause_33 (by decide) (fun _ => ?_) (fun c => absurd c (by decide))
        refine e_aload_n dX10_clause_42 rfl rfl ?_
        refine e_getR (q := 91) dX10_clause_43 fl_RX10_17 (Ms.s 89 rfl) (Ms.n (by decide)) rfl (Ms.r 89 9 rfl) (by unfold fscr; omega) ?_
        refine e_iload_n dX10_clause_46 rfl rfl ?_
        refine e_iaload 0 dX10_clause_47 (Ms.s 91 rfl) (Ms.n (by decide)) rfl (by omega) (by decide) ?_
        refine e_int (nI (dT D 0)) (Rr.1 0 (by decide)) ?_
        refine e_iload_n dX10_clause_48 rfl rfl ?_
        refine e_callS [.int (nI 0)] dX10_clause_49 cc_X10_mostOf lk_RX10_131 st_X10_mostOf in_RX10 rfl (Nat.le_of_ble_eq_true rfl) (Nat.le_of_ble_eq_true rfl) ?_
        refine t_X10_mostOf (k := 0) (by decide) (fK_i ?_)
        show fEv g _ mX10_clause 52 [some (.ref 89), some (.int (nI 0)), none] [.int (nI 6), .int (nI (dT D 0))] σ Q
        refine e_icmp_ne 64 dX10_clause_52 (by decide) (fun c52 => ?_) (fun c52 => ?_)
        · rw [nI_inj (by omega) (by omega)] at c52
          refine e_aload_n dX10_clause_64 rfl rfl ?_
          refine e_getI dX10_clause_65 fl_RX10_92 (Ms.s 89 rfl) (Ms.n (by decide)) rfl ?_
          refine e_int (nI 0) hs.2.2.1 ?_
          refine e_if_eq 72 dX10_clause_68 (by decide) (fun _ => ?_) (fun c => absurd c (by decide))
          have hf9 : ¬ (60 ≤ c8 ∨ mfl D 0 = true) := fun q => q.elim (fun q => by omega) (fun q => by have := of_decide_eq_true q; omega)
          have k9 := l_X10_let (kk := nI 0) (d := d + 4) (Q := Q) Ms hB hb hn hn6 (n - a) a (by omega) ?_
          · rw [fsI_id hat] at k9; exact k9
          rw [show msc (qlt B) (n - a) a = mlt B n a from rfl]
          refine e_aload_n dX10_clause_111 rfl rfl ?_
          refine e_dup dX10_clause_112 rfl ?_
          refine e_getI dX10_clause_113 fl_RX10_128 (Ms.s 89 rfl) (Ms.n (by decide)) rfl ?_
          refine e_int (nI c8) (by rw [fI_I, if_neg (by omega)]; exact hc) ?_
          refine e_iconst (nI 1) dX10_clause_116 (by decide) ?_
          refine e_iadd dX10_clause_117 ?_
          refine e_int (nI (c8 + 1)) (nI_add c8 1) ?_
          refine e_putI dX10_clause_118 fl_RX10_128 (Ms.s 89 rfl) (Ms.n (by decide)) rfl rfl ?_
          have Smx : fSm fRqA σ (fsI (fsI σ 89 4 (nI (mlt B n a))) 89 7 (nI (c8 + 1))) := (fSm_I (Or.inl rfl)).tr (fSm_I (Or.inl rfl))
          have Sm89 : fSm (fun a => a = 89) σ (fsI (fsI σ 89 4 (nI (mlt B n a))) 89 7 (nI (c8 + 1))) := (fSm_I (A := fun a => a = 89) rfl).tr (fSm_I rfl)
          have hcl := mcla_s (D := D) (c := c8) hw hf9
          rw [hcl] at h
          refine l_X10_cl0 (c9 := c8 + 1) (s := .inr (mlt B n a)) (Ms.sm Smx) (fun i hi => (Sm89.i (fun (q : 90 = 89) => by omega) i).trans (hB i hi)) hb (by rw [fI_I, if_neg (by omega), fI_I, if_neg (by omega)]; exact hn) hn6 (by rw [fI_I, if_pos ⟨rfl, rfl⟩]) (Rr.sm Sm89 hD (fun i h1 h2 (q : i = 89) => by omega)) hD ⟨(mlt_b (B := B) ha).2, by rw [fI_I, if_neg (by omega), fI_I, if_pos ⟨rfl, rfl⟩], by rw [fI_I, if_neg (by omega), fI_I, if_neg (by omega)]; exact hs.2.2.1, by rw [fI_I, if_neg (by omega), fI_I, if_neg (by omega)]; exact hs.2.2.2⟩ (by have q9 : ¬ mfl D 0 = true := fun q => hf9 (Or.inr q); have q8 : ¬ ((0 = 0 ∧ 6 ≤ dT D 0) ∨ (0 = 1 ∧ 12 ≤ dT D 1) ∨ (0 = 2 ∧ 6 ≤ dT D 2) ∨ (0 = 6 ∧ 24 ≤ dT D 6)) := fun q => q9 (decide_eq_true q); omega) (fun σ' Sm' hs' Rr' hn' hc' ho' => h σ' (Smx.tr Sm') hs' (fun e q => ⟨Rr' e q, hc'⟩) hn' (fun j h1 h2 h3 h4 => (ho' j h1 h2 h3).trans (by rw [fI_I, if_neg (by omega), fI_I, if_neg (by omega)])))
        · rw [nI_inj (by omega) (by omega)] at c52
          refine e_aload_n dX10_clause_55 rfl rfl ?_
          refine e_iconst (nI 3) dX10_clause_56 (by decide) ?_
          refine e_aload_n dX10_clause_57 rfl rfl ?_
          refine e_getI dX10_clause_58 fl_RX10_85 (Ms.s 89 rfl) (Ms.n (by decide)) rfl ?_
          refine e_int (nI a) hat ?_
          refine e_callV (k := 89) [.int (nI 3), .int (nI a)] dX10_clause_61 cc_X10_wrong lk_RX10_105 im_X10_wrong se_X10_wrong (by decide) (Ms.s 89 rfl) (Ms.n (by decide)) rfl (Nat.le_of_ble_eq_true rfl) (Nat.le_of_ble_eq_true rfl) ?_
          refine t_X10_wrong Ms hs.2.2.1 (fK_v ?_)
          show fEv g _ mX10_clause 64 [some (.ref 89), some (.int (nI 0)), none] [] (fsI (fsI σ 89 5 (nI 3)) 89 6 (nI a)) Q
          refine e_aload_n dX10_clause_64 rfl rfl ?_
          refine e_getI dX10_clause_65 fl_RX10_92 (Ms.s 89 rfl) (Ms.n (by decide)) rfl ?_
          refine e_int (nI 3) (by rw [fI_I, if_neg (by omega), fI_I, if_pos ⟨rfl, rfl⟩]) ?_
          refine e_if_eq 72 dX10_clause_68 (by decide) (fun c => absurd c (by decide)) (fun _ => ?_)
          rw [mcla_f hw (by first | exact Or.inl (by omega) | exact Or.inr (decide_eq_true (by omega)))] at h
          exact e_return dX10_clause_71 rfl (h _ ((fSm_I (A := fRqA) (Or.inl rfl)).tr (fSm_I (Or.inl rfl))) ⟨by rw [fI_I, if_neg (by omega), fI_I, if_pos ⟨rfl, rfl⟩], by rw [fI_I, if_pos ⟨rfl, rfl⟩], by show 1 ≤ 3; decide, by show 3 ≤ 3; decide, by show a ≤ n; omega, a, ha, by rw [fI_I, if_neg (by omega), fI_I, if_neg (by omega)]; exact hat⟩ (fun e q => by cases q) (by rw [fI_I, if_neg (by omega), fI_I, if_neg (by omega)]; exact hn) (fun j h1 h2 h3 h4 => by rw [fI_I, if_neg (by omega), fI_I, if_neg (by omega)]))
    · show fEv g _ mX10_clause 5 [some (.ref 89), some (.int (nI 1)), none] [] σ Q
      refine e_iload_n dX10_clause_5 rfl rfl ?_
      refine e_iconst (-1) dX10_clause_6 (by decide) ?_
      refine e_icmp_ne 22 dX10_clause_7 (by decide) (fun _ => ?_) (fun c => absurd c (by decide))
      refine e_aload_n dX10_clause_22 rfl rfl ?_
      refine e_getI dX10_clause_23 fl_RX10_128 (Ms.s 89 rfl) (Ms.n (by decide)) rfl ?_
      refine e_int (nI c8) hc ?_
      refine e_bipush (nI 60) dX10_clause_26 (by decide) ?_
      refine e_icmp_eq 55 dX10_clause_28 (by decide) (fun c28 => ?_) (fun c28 => ?_)
      · rw [nI_inj (by omega) (by omega)] at c28
        refine e_aload_n dX10_clause_55 rfl rfl ?_
        refine e_iconst (nI 3) dX10_clause_56 (by decide) ?_
        refine e_aload_n dX10_clause_57 rfl rfl ?_
        refine e_getI dX10_clause_58 fl_RX10_85 (Ms.s 89 rfl) (Ms.n (by decide)) rfl ?_
        refine e_int (nI a) hat ?_
        refine e_callV (k := 89) [.int (nI 3), .int (nI a)] dX10_clause_61 cc_X10_wrong lk_RX10_105 im_X10_wrong se_X10_wrong (by decide) (Ms.s 89 rfl) (Ms.n (by decide)) rfl (Nat.le_of_ble_eq_true rfl) (Nat.le_of_ble_eq_true rfl) ?_
        refine t_X10_wrong Ms hs.2.2.1 (fK_v ?_)
        show fEv g _ mX10_clause 64 [some (.ref 89), some (.int (nI 1)), none] [] (fsI (fsI σ 89 5 (nI 3)) 89 6 (nI a)) Q
        refine e_aload_n dX10_clause_64 rfl rfl ?_
        refine e_getI dX10_clause_65 fl_RX10_92 (Ms.s 89 rfl) (Ms.n (by decide)) rfl ?_
        refine e_int (nI 3) (by rw [fI_I, if_neg (by omega), fI_I, if_pos ⟨rfl, rfl⟩]) ?_
        refine e_if_eq 72 dX10_clause_68 (by decide) (fun c => absurd c (by decide)) (fun _ => ?_)
        rw [mcla_f hw (by first | exact Or.inl (by omega) | exact Or.inr (decide_eq_true (by omega)))] at h
        exact e_return dX10_clause_71 rfl (h _ ((fSm_I (A := fRqA) (Or.inl rfl)).tr (fSm_I (Or.inl rfl))) ⟨by rw [fI_I, if_neg (by omega), fI_I, if_pos ⟨rfl, rfl⟩], by rw [fI_I, if_pos ⟨rfl, rfl⟩], by show 1 ≤ 3; decide, by show 3 ≤ 3; decide, by show a ≤ n; omega, a, ha, by rw [fI_I, if_neg (by omega), fI_I, if_neg (by omega)]; exact hat⟩ (fun e q => by cases q) (by rw [fI_I, if_neg (by omega), fI_I, if_neg (by omega)]; exact hn) (fun j h1 h2 h3 h4 => by rw [fI_I, if_neg (by omega), fI_I, if_neg (by omega)]))
      · rw [nI_inj (by omega) (by omega)] at c28
        refine e_iload_n dX10_clause_31 rfl rfl ?_
        refine e_iconst (nI 3) dX10_clause_32 (by decide) ?_
        refine e_icmp_lt 42 dX10_clause_33 (by decide) (fun _ => ?_) (fun c => absurd c (by decide))
        refine e_aload_n dX10_clause_42 rfl rfl ?_
        refine e_getR (q := 91) dX10_clause_43 fl_RX10_17 (Ms.s 89 rfl) (Ms.n (by decide)) rfl (Ms.r 89 9 rfl) (by unfold fscr; omega) ?_
        refine e_iload_n dX10_clause_46 rfl rfl ?_
        refine e_iaload 1 dX10_clause_47 (Ms.s 91 rfl) (Ms.n (by decide)) rfl (by omega) (by decide) ?_
        refine e_int (nI (dT D 1)) (Rr.1 1 (by decide)) ?_
        refine e_iload_n dX10_clause_48 rfl rfl ?_
        refine e_callS [.int (nI 1)] dX10_clause_49 cc_X10_mostOf lk_RX10_131 st_X10_mostOf in_RX10 rfl (Nat.le_of_ble_eq_true rfl) (Nat.le_of_ble_eq_true rfl) ?_
        refine t_X10_mostOf (k := 1) (by decide) (fK_i ?_)
        show fEv g _ mX10_clause 52 [some (.ref 89), some (.int (nI 1)), none] [.int (nI 12), .int (nI (dT D 1))] σ Q
        refine e_icmp_ne 64 dX10_clause_52 (by decide) (fun c52 => ?_) (fun c52 => ?_)
        · rw [nI_inj (by omega) (by omega)] at c52
          refine e_aload_n dX10_clause_64 rfl rfl ?_
          refine e_getI dX10_clause_65 fl_RX10_92 (Ms.s 89 rfl) (Ms.n (by decide)) rfl ?_
          refine e_int (nI 0) hs.2.2.1 ?_
          refine e_if_eq 72 dX10_clause_68 (by decide) (fun _ => ?_) (fun c => absurd c (by decide))
          have hf9 : ¬ (60 ≤ c8 ∨ mfl D 1 = true) := fun q => q.elim (fun q => by omega) (fun q => by have := of_decide_eq_true q; omega)
          have k9 := l_X10_let (kk := nI 1) (d := d + 4) (Q := Q) Ms hB hb hn hn6 (n - a) a (by omega) ?_
          · rw [fsI_id hat] at k9; exact k9
          rw [show msc (qlt B) (n - a) a = mlt B n a from rfl]
          refine e_aload_n dX10_clause_111 rfl rfl ?_
          refine e_dup dX10_clause_112 rfl ?_
          refine e_getI dX10_clause_113 fl_RX10_128 (Ms.s 89 rfl) (Ms.n (by decide)) rfl ?_
          refine e_int (nI c8) (by rw [fI_I, if_neg (by omega)]; exact hc) ?_
          refine e_iconst (nI 1) dX10_clause_116 (by decide) ?_
          refine e_iadd dX10_clause_117 ?_
          refine e_int (nI (c8 + 1)) (nI_add c8 1) ?_
          refine e_putI dX10_clause_118 fl_RX10_128 (Ms.s 89 rfl) (Ms.n (by decide)) rfl rfl ?_
          have Smx : fSm fRqA σ (fsI (fsI σ 89 4 (nI (mlt B n a))) 89 7 (nI (c8 + 1))) := (fSm_I (Or.inl rfl)).tr (fSm_I (Or.inl rfl))
          have Sm89 : fSm (fun a => a = 89) σ (fsI (fsI σ 89 4 (nI (mlt B n a))) 89 7 (nI (c8 + 1))) := (fSm_I (A := fun a => a = 89) rfl).tr (fSm_I rfl)
          have hcl := mcla_s (D := D) (c := c8) hw hf9
          rw [hcl] at h
          refine l_X10_cl1 (c9 := c8 + 1) (s := .inr (mlt B n a)) (Ms.sm Smx) (fun i hi => (Sm89.i (fun (q : 90 = 89) => by omega) i).trans (hB i hi)) hb (by rw [fI_I, if_neg (by omega), fI_I, if_neg (by omega)]; exact hn) hn6 (by rw [fI_I, if_pos ⟨rfl, rfl⟩]) (Rr.sm Sm89 hD (fun i h1 h2 (q : i = 89) => by omega)) hD ⟨(mlt_b (B := B) ha).2, by rw [fI_I, if_neg (by omega), fI_I, if_pos ⟨rfl, rfl⟩], by rw [fI_I, if_neg (by omega), fI_I, if_neg (by omega)]; exact hs.2.2.1, by rw [fI_I, if_neg (by omega), fI_I, if_neg (by omega)]; exact hs.2.2.2⟩ (by have q9 : ¬ mfl D 1 = true := fun q => hf9 (Or.inr q); have q8 : ¬ ((1 = 0 ∧ 6 ≤ dT D 0) ∨ (1 = 1 ∧ 12 ≤ dT D 1) ∨ (1 = 2 ∧ 6 ≤ dT D 2) ∨ (1 = 6 ∧ 24 ≤ dT D 6)) := fun q => q9 (decide_eq_true q); omega) (fun σ' Sm' hs' Rr' hn' hc' ho' => h σ' (Smx.tr Sm') hs' (fun e q => ⟨Rr' e q, hc'⟩) hn' (fun j h1 h2 h3 h4 => (ho' j h1 h2 h3).trans (by rw [fI_I, if_neg (by omega), fI_I, if_neg (by omega)])))
        · rw [nI_inj (by omega) (by omega)] at c52
          refine e_aload_n dX10_clause_55 rfl rfl ?_
          refine e_iconst (nI 3) dX10_clause_56 (by decide) ?_
          refine e_aload_n dX10_clause_57 rfl rfl ?_
          refine e_getI dX10_clause_58 fl_RX10_85 (Ms.s 89 rfl) (Ms.n (by decide)) rfl ?_
          refine e_int (nI a) hat ?_
          refine e_callV (k := 89) [.int (nI 3), .int (nI a)] dX10_clause_61 cc_X10_wrong lk_RX10_105 im_X10_wrong se_X10_wrong (by decide) (Ms.s 89 rfl) (Ms.n (by decide)) rfl (Nat.le_of_ble_eq_true rfl) (Nat.le_of_ble_eq_true rfl) ?_
          refine t_X10_wrong Ms hs.2.2.1 (fK_v ?_)
          show fEv g _ mX10_clause 64 [some (.ref 89), some (.int (nI 1)), none] [] (fsI (fsI σ 89 5 (nI 3)) 89 6 (nI a)) Q
          refine e_aload_n dX10_clause_64 rfl rfl ?_
          refine e_getI dX10_clause_65 fl_RX10_92 (Ms.s 89 rfl) (Ms.n (by decide)) rfl ?_
          refine e_int (nI 3) (by rw [fI_I, if_neg (by omega), fI_I, if_pos ⟨rfl, rfl⟩]) ?_
          refine e_if_eq 72 dX10_clause_68 (by decide) (fun c => absurd c (by decide)) (fun _ => ?_)
          rw [mcla_f hw (by first | exact Or.inl (by omega) | exact Or.inr (decide_eq_true (by omega)))] at h
          exact e_return dX10_clause_71 rfl (h _ ((fSm_I (A := fRqA) (Or.inl rfl)).tr (fSm_I (Or.inl rfl))) ⟨by rw [fI_I, if_neg (by omega), fI_I, if_pos ⟨rfl, rfl⟩], by rw [fI_I, if_pos ⟨rfl, rfl⟩], by show 1 ≤ 3; decide, by show 3 ≤ 3; decide, by show a ≤ n; omega, a, ha, by rw [fI_I, if_neg (by omega), fI_I, if_neg (by omega)]; exact hat⟩ (fun e q => by cases q) (by rw [fI_I, if_neg (by omega), fI_I, if_neg (by omega)]; exact hn) (fun j h1 h2 h3 h4 => by rw [fI_I, if_neg (by omega), fI_I, if_neg (by omega)]))
    · show fEv g _ mX10_clause 5 [some (.ref 89), some (.int (nI 2)), none] [] σ Q
      refine e_iload_n dX10_clause_5 rfl rfl ?_
      refine e_iconst (-1) dX10_clause_6 (by decide) ?_
      refine e_icmp_ne 22 dX10_clause_7 (by decide) (fun _ => ?_) (fun c => absurd c (by decide))
      refine e_aload_n dX10_clause_22 rfl rfl ?_
      refine e_getI dX10_clause_23 fl_RX10_128 (Ms.s 89 rfl) (Ms.n (by decide)) rfl ?_
      refine e_int (nI c8) hc ?_
      refine e_bipush (nI 60) dX10_clause_26 (by decide) ?_
      refine e_icmp_eq 55 dX10_clause_28 (by decide) (fun c28 => ?_) (fun c28 => ?_)
      · rw [nI_inj (by omega) (by omega)] at c28
        refine e_aload_n dX10_clause_55 rfl rfl ?_
        refine e_iconst (nI 3) dX10_clause_56 (by decide) ?_
        refine e_aload_n dX10_clause_57 rfl rfl ?_
        refine e_getI dX10_clause_58 fl_RX10_85 (Ms.s 89 rfl) (Ms.n (by decide)) rfl ?_
        refine e_int (nI a) hat ?_
        refine e_callV (k := 89) [.int (nI 3), .int (nI a)] dX10_clause_61 cc_X10_wrong lk_RX10_105 im_X10_wrong se_X10_wrong (by decide) (Ms.s 89 rfl) (Ms.n (by decide)) rfl (Nat.le_of_ble_eq_true rfl) (Nat.le_of_ble_eq_true rfl) ?_
        refine t_X10_wrong Ms hs.2.2.1 (fK_v ?_)
        show fEv g _ mX10_clause 64 [some (.ref 89), some (.int (nI 2)), none] [] (fsI (fsI σ 89 5 (nI 3)) 89 6 (nI a)) Q
        refine e_aload_n dX10_clause_64 rfl rfl ?_
        refine e_getI dX10_clause_65 fl_RX10_92 (Ms.s 89 rfl) (Ms.n (by decide)) rfl ?_
        refine e_int (nI 3) (by rw [fI_I, if_neg (by omega), fI_I, if_pos ⟨rfl, rfl⟩]) ?_
        refine e_if_eq 72 dX10_clause_68 (by decide) (fun c => absurd c (by decide)) (fun _ => ?_)
        rw [mcla_f hw (by first | exact Or.inl (by omega) | exact Or.inr (decide_eq_true (by omega)))] at h
        exact e_return dX10_clause_71 rfl (h _ ((fSm_I (A := fRqA) (Or.inl rfl)).tr (fSm_I (Or.inl rfl))) ⟨by rw [fI_I, if_neg (by omega), fI_I, if_pos ⟨rfl, rfl⟩], by rw [fI_I, if_pos ⟨rfl, rfl⟩], by show 1 ≤ 3; decide, by show 3 ≤ 3; decide, by show a ≤ n; omega, a, ha, by rw [fI_I, if_neg (by omega), fI_I, if_neg (by omega)]; exact hat⟩ (fun e q => by cases q) (by rw [fI_I, if_neg (by omega), fI_I, if_neg (by omega)]; exact hn) (fun j h1 h2 h3 h4 => by rw [fI_I, if_neg (by omega), fI_I, if_neg (by omega)]))
      · rw [nI_inj (by omega) (by omega)] at c28
        refine e_iload_n dX10_clause_31 rfl rfl ?_
        refine e_iconst (nI 3) dX10_clause_32 (by decide) ?_
        refine e_icmp_lt 42 dX10_clause_33 (by decide) (fun _ => ?_) (fun c => absurd c (by decide))
        refine e_aload_n dX10_clause_42 rfl rfl ?_
        refine e_getR (q := 91) dX10_clause_43 fl_RX10_17 (Ms.s 89 rfl) (Ms.n (by decide)) rfl (Ms.r 89 9 rfl) (by unfold fscr; omega) ?_
        refine e_iload_n dX10_clause_46 rfl rfl ?_
        refine e_iaload 2 dX10_clause_47 (Ms.s 91 rfl) (Ms.n (by decide)) rfl (by omega) (by decide) ?_
        refine e_int (nI (dT D 2)) (Rr.1 2 (by decide)) ?_
        refine e_iload_n dX10_clause_48 rfl rfl ?_
        refine e_callS [.int (nI 2)] dX10_clause_49 cc_X10_mostOf lk_RX10_131 st_X10_mostOf in_RX10 rfl (Nat.le_of_ble_eq_true rfl) (Nat.le_of_ble_eq_true rfl) ?_
        refine t_X10_mostOf (k := 2) (by decide) (fK_i ?_)
        show fEv g _ mX10_clause 52 [some (.ref 89), some (.int (nI 2)), none] [.int (nI 6), .int (nI (dT D 2))] σ Q
        refine e_icmp_ne 64 dX10_clause_52 (by decide) (fun c52 => ?_) (fun c52 => ?_)
        · rw [nI_inj (by omega) (by omega)] at c52
          refine e_aload_n dX10_clause_64 rfl rfl ?_
          refine e_getI dX10_clause_65 fl_RX10_92 (Ms.s 89 rfl) (Ms.n (by decide)) rfl ?_
          refine e_int (nI 0) hs.2.2.1 ?_
          refine e_if_eq 72 dX10_clause_68 (by decide) (fun _ => ?_) (fun c => absurd c (by decide))
          have hf9 : ¬ (60 ≤ c8 ∨ mfl D 2 = true) := fun q => q.elim (fun q => by omega) (fun q => by have := of_decide_eq_true q; omega)
          have k9 := l_X10_let (kk := nI 2) (d := d + 4) (Q := Q) Ms hB hb hn hn6 (n - a) a (by omega) ?_
          · rw [fsI_id hat] at k9; exact k9
          rw [show msc (qlt B) (n - a) a = mlt B n a from rfl]
          refine e_aload_n dX10_clause_111 rfl rfl ?_
          refine e_dup dX10_clause_112 rfl ?_
          refine e_getI dX10_clause_113 fl_RX10_128 (Ms.s 89 rfl) (Ms.n (by decide)) rfl ?_
          refine e_int (nI c8) (by rw [fI_I, if_neg (by omega)]; exact hc) ?_
          refine e_iconst (nI 1) dX10_clause_116 (by decide) ?_
          refine e_iadd dX10_clause_117 ?_
          refine e_int (nI (c8 + 1)) (nI_add c8 1) ?_
          refine e_putI dX10_clause_118 fl_RX10_128 (Ms.s 89 rfl) (Ms.n (by decide)) rfl rfl ?_
          have Smx : fSm fRqA σ (fsI (fsI σ 89 4 (nI (mlt B n a))) 89 7 (nI (c8 + 1))) := (fSm_I (Or.inl rfl)).tr (fSm_I (Or.inl rfl))
          have Sm89 : fSm (fun a => a = 89) σ (fsI (fsI σ 89 4 (nI (mlt B n a))) 89 7 (nI (c8 + 1))) := (fSm_I (A := fun a => a = 89) rfl).tr (fSm_I rfl)
          have hcl := mcla_s (D := D) (c := c8) hw hf9
          rw [hcl] at h
          refine l_X10_cl2 (c9 := c8 + 1) (s := .inr (mlt B n a)) (Ms.sm Smx) (fun i hi => (Sm89.i (fun (q : 90 = 89) => by omega) i).trans (hB i hi)) hb (by rw [fI_I, if_neg (by omega), fI_I, if_neg (by omega)]; exact hn) hn6 (by rw [fI_I, if_pos ⟨rfl, rfl⟩]) (Rr.sm Sm89 hD (fun i h1 h2 (q : i = 89) => by omega)) hD ⟨(mlt_b (B := B) ha).2, by rw [fI_I, if_neg (by omega), fI_I, if_pos ⟨rfl, rfl⟩], by rw [fI_I, if_neg (by omega), fI_I, if_neg (by omega)]; exact hs.2.2.1, by rw [fI_I, if_neg (by omega), fI_I, if_neg (by omega)]; exact hs.2.2.2⟩ (by have q9 : ¬ mfl D 2 = true := fun q => hf9 (Or.inr q); have q8 : ¬ ((2 = 0 ∧ 6 ≤ dT D 0) ∨ (2 = 1 ∧ 12 ≤ dT D 1) ∨ (2 = 2 ∧ 6 ≤ dT D 2) ∨ (2 = 6 ∧ 24 ≤ dT D 6)) := fun q => q9 (decide_eq_true q); omega) (fun σ' Sm' hs' Rr' hn' hc' ho' => h σ' (Smx.tr Sm') hs' (fun e q => ⟨Rr' e q, hc'⟩) hn' (fun j h1 h2 h3 h4 => (ho' j h1 h2 h3).trans (by rw [fI_I, if_neg (by omega), fI_I, if_neg (by omega)])))
        · rw [nI_inj (by omega) (by omega)] at c52
          refine e_aload_n dX10_clause_55 rfl rfl ?_
          refine e_iconst (nI 3) dX10_clause_56 (by decide) ?_
          refine e_aload_n dX10_clause_57 rfl rfl ?_
          refine e_getI dX10_clause_58 fl_RX10_85 (Ms.s 89 rfl) (Ms.n (by decide)) rfl ?_
          refine e_int (nI a) hat ?_
          refine e_callV (k := 89) [.int (nI 3), .int (nI a)] dX10_clause_61 cc_X10_wrong lk_RX10_105 im_X10_wrong se_X10_wrong (by decide) (Ms.s 89 rfl) (Ms.n (by decide)) rfl (Nat.le_of_ble_eq_true rfl) (Nat.le_of_ble_eq_true rfl) ?_
          refine t_X10_wrong Ms hs.2.2.1 (fK_v ?_)
          show fEv g _ mX10_clause 64 [some (.ref 89), some (.int (nI 2)), none] [] (fsI (fsI σ 89 5 (nI 3)) 89 6 (nI a)) Q
          refine e_aload_n dX10_clause_64 rfl rfl ?_
          refine e_getI dX10_clause_65 fl_RX10_92 (Ms.s 89 rfl) (Ms.n (by decide)) rfl ?_
          refine e_int (nI 3) (by rw [fI_I, if_neg (by omega), fI_I, if_pos ⟨rfl, rfl⟩]) ?_
          refine e_if_eq 72 dX10_clause_68 (by decide) (fun c => absurd c (by decide)) (fun _ => ?_)
          rw [mcla_f hw (by first | exact Or.inl (by omega) | exact Or.inr (decide_eq_true (by omega)))] at h
          exact e_return dX10_clause_71 rfl (h _ ((fSm_I (A := fRqA) (Or.inl rfl)).tr (fSm_I (Or.inl rfl))) ⟨by rw [fI_I, if_neg (by omega), fI_I, if_pos ⟨rfl, rfl⟩], by rw [fI_I, if_pos ⟨rfl, rfl⟩], by show 1 ≤ 3; decide, by show 3 ≤ 3; decide, by show a ≤ n; omega, a, ha, by rw [fI_I, if_neg (by omega), fI_I, if_neg (by omega)]; exact hat⟩ (fun e q => by cases q) (by rw [fI_I, if_neg (by omega), fI_I, if_neg (by omega)]; exact hn) (fun j h1 h2 h3 h4 => by rw [fI_I, if_neg (by omega), fI_I, if_neg (by omega)]))
    · show fEv g _ mX10_clause 5 [some (.ref 89), some (.int (nI 3)), none] [] σ Q
      refine e_iload_n dX10_clause_5 rfl rfl ?_
      refine e_iconst (-1) dX10_clause_6 (by decide) ?_
      refine e_icmp_ne 22 dX10_clause_7 (by decide) (fun _ => ?_) (fun c => absurd c (by decide))
      refine e_aload_n dX10_clause_22 rfl rfl ?_
      refine e_getI dX10_clause_23 fl_RX10_128 (Ms.s 89 rfl) (Ms.n (by decide)) rfl ?_
      refine e_int (nI c8) hc ?_
      refine e_bipush (nI 60) dX10_clause_26 (by decide) ?_
      refine e_icmp_eq 55 dX10_clause_28 (by decide) (fun c28 => ?_) (fun c28 => ?_)
      · rw [nI_inj (by omega) (by omega)] at c28
        refine e_aload_n dX10_clause_55 rfl rfl ?_
        refine e_iconst (nI 3) dX10_clause_56 (by decide) ?_
        refine e_aload_n dX10_clause_57 rfl rfl ?_
        refine e_getI dX10_clause_58 fl_RX10_85 (Ms.s 89 rfl) (Ms.n (by decide)) rfl ?_
        refine e_int (nI a) hat ?_
        refine e_callV (k := 89) [.int (nI 3), .int (nI a)] dX10_clause_61 cc_X10_wrong lk_RX10_105 im_X10_wrong se_X10_wrong (by decide) (Ms.s 89 rfl) (Ms.n (by decide)) rfl (Nat.le_of_ble_eq_true rfl) (Nat.le_of_ble_eq_true rfl) ?_
        refine t_X10_wrong Ms hs.2.2.1 (fK_v ?_)
        show fEv g _ mX10_clause 64 [some (.ref 89), some (.int (nI 3)), none] [] (fsI (fsI σ 89 5 (nI 3)) 89 6 (nI a)) Q
        refine e_aload_n dX10_clause_64 rfl rfl ?_
        refine e_getI dX10_clause_65 fl_RX10_92 (Ms.s 89 rfl) (Ms.n (by decide)) rfl ?_
        refine e_int (nI 3) (by rw [fI_I, if_neg (by omega), fI_I, if_pos ⟨rfl, rfl⟩]) ?_
        refine e_if_eq 72 dX10_clause_68 (by decide) (fun c => absurd c (by decide)) (fun _ => ?_)
        rw [mcla_f hw (by first | exact Or.inl (by omega) | exact Or.inr (decide_eq_true (by omega)))] at h
        exact e_return dX10_clause_71 rfl (h _ ((fSm_I (A := fRqA) (Or.inl rfl)).tr (fSm_I (Or.inl rfl))) ⟨by rw [fI_I, if_neg (by omega), fI_I, if_pos ⟨rfl, rfl⟩], by rw [fI_I, if_pos ⟨rfl, rfl⟩], by show 1 ≤ 3; decide, by show 3 ≤ 3; decide, by show a ≤ n; omega, a, ha, by rw [fI_I, if_neg (by omega), fI_I, if_neg (by omega)]; exact hat⟩ (fun e q => by cases q) (by rw [fI_I, if_neg (by omega), fI_I, if_neg (by omega)]; exact hn) (fun j h1 h2 h3 h4 => by rw [fI_I, if_neg (by omega), fI_I, if_neg (by omega)]))
      · rw [nI_inj (by omega) (by omega)] at c28
        refine e_iload_n dX10_clause_31 rfl rfl ?_
        refine e_iconst (nI 3) dX10_clause_32 (by decide) ?_
        refine e_icmp_lt 42 dX10_clause_33 (by decide) (fun c => absurd c (by decide)) (fun _ => ?_)
        refine e_iload_n dX10_clause_36 rfl rfl ?_
        refine e_bipush (nI 6) dX10_clause_37 (by decide) ?_
        refine e_icmp_ne 64 dX10_clause_39 (by decide) (fun _ => ?_) (fun c => absurd c (by decide))
        refine e_aload_n dX10_clause_64 rfl rfl ?_
        refine e_getI dX10_clause_65 fl_RX10_92 (Ms.s 89 rfl) (Ms.n (by decide)) rfl ?_
        refine e_int (nI 0) hs.2.2.1 ?_
        refine e_if_eq 72 dX10_clause_68 (by decide) (fun _ => ?_) (fun c => absurd c (by decide))
        have hf9 : ¬ (60 ≤ c8 ∨ mfl D 3 = true) := fun q => q.elim (fun q => by omega) (fun q => by have := of_decide_eq_true q; omega)
        have k9 := l_X10_let (kk := nI 3) (d := d + 4) (Q := Q) Ms hB hb hn hn6 (n - a) a (by omega) ?_
        · rw [fsI_id hat] at k9; exact k9
        rw [show msc (qlt B) (n - a) a = mlt B n a from rfl]
        refine e_aload_n dX10_clause_111 rfl rfl ?_
        refine e_dup dX10_clause_112 rfl ?_
        refine e_getI dX10_clause_113 fl_RX10_128 (Ms.s 89 rfl) (Ms.n (by decide)) rfl ?_
        refine e_int (nI c8) (by rw [fI_I, if_neg (by omega)]; exact hc) ?_
        refine e_iconst (nI 1) dX10_clause_116 (by decide) ?_
        refine e_iadd dX10_clause_117 ?_
        refine e_int (nI (c8 + 1)) (nI_add c8 1) ?_
        refine e_putI dX10_clause_118 fl_RX10_128 (Ms.s 89 rfl) (Ms.n (by decide)) rfl rfl ?_
        have Smx : fSm fRqA σ (fsI (fsI σ 89 4 (nI (mlt B n a))) 89 7 (nI (c8 + 1))) := (fSm_I (Or.inl rfl)).tr (fSm_I (Or.inl rfl))
        have Sm89 : fSm (fun a => a = 89) σ (fsI (fsI σ 89 4 (nI (mlt B n a))) 89 7 (nI (c8 + 1))) := (fSm_I (A := fun a => a = 89) rfl).tr (fSm_I rfl)
        have hcl := mcla_s (D := D) (c := c8) hw hf9
        rw [hcl] at h
        refine l_X10_cl3 (c9 := c8 + 1) (s := .inr (mlt B n a)) (Ms.sm Smx) (fun i hi => (Sm89.i (fun (q : 90 = 89) => by omega) i).trans (hB i hi)) hb (by rw [fI_I, if_neg (by omega), fI_I, if_neg (by omega)]; exact hn) hn6 (by rw [fI_I, if_pos ⟨rfl, rfl⟩]) (Rr.sm Sm89 hD (fun i h1 h2 (q : i = 89) => by omega)) hD ⟨(mlt_b (B := B) ha).2, by rw [fI_I, if_neg (by omega), fI_I, if_pos ⟨rfl, rfl⟩], by rw [fI_I, if_neg (by omega), fI_I, if_neg (by omega)]; exact hs.2.2.1, by rw [fI_I, if_neg (by omega), fI_I, if_neg (by omega)]; exact hs.2.2.2⟩ (fun σ' Sm' hs' Rr' hn' hc' ho' => h σ' (Smx.tr Sm') hs' (fun e q => ⟨Rr' e q, hc'⟩) hn' (fun j h1 h2 h3 h4 => (ho' j h1 h2 h3).trans (by rw [fI_I, if_neg (by omega), fI_I, if_neg (by omega)])))
    · show fEv g _ mX10_clause 5 [some (.ref 89), some (.int (nI 4)), none] [] σ Q
      refine e_iload_n dX10_clause_5 rfl rfl ?_
      refine e_iconst (-1) dX10_clause_6 (by decide) ?_
      refine e_icmp_ne 22 dX10_clause_7 (by decide) (fun _ => ?_) (fun c => absurd c (by decide))
      refine e_aload_n dX10_clause_22 rfl rfl ?_
      refine e_getI dX10_clause_23 fl_RX10_128 (Ms.s 89 rfl) (Ms.n (by decide)) rfl ?_
      refine e_int (nI c8) hc ?_
      refine e_bipush (nI 60) dX10_clause_26 (by decide) ?_
      refine e_icmp_eq 55 dX10_clause_28 (by decide) (fun c28 => ?_) (fun c28 => ?_)
      · rw [nI_inj (by omega) (by omega)] at c28
        refine e_aload_n dX10_clause_55 rfl rfl ?_
        refine e_iconst (nI 3) dX10_clause_56 (by decide) ?_
        refine e_aload_n dX10_clause_57 rfl rfl ?_
        refine e_getI dX10_clause_58 fl_RX10_85 (Ms.s 89 rfl) (Ms.n (by decide)) rfl ?_
        refine e_int (nI a) hat ?_
        refine e_callV (k := 89) [.int (nI 3), .int (nI a)] dX10_clause_61 cc_X10_wrong lk_RX10_105 im_X10_wrong se_X10_wrong (by decide) (Ms.s 89 rfl) (Ms.n (by decide)) rfl (Nat.le_of_ble_eq_true rfl) (Nat.le_of_ble_eq_true rfl) ?_
        refine t_X10_wrong Ms hs.2.2.1 (fK_v ?_)
        show fEv g _ mX10_clause 64 [some (.ref 89), some (.int (nI 4)), none] [] (fsI (fsI σ 89 5 (nI 3)) 89 6 (nI a)) Q
        refine e_aload_n dX10_clause_64 rfl rfl ?_
        refine e_getI dX10_clause_65 fl_RX10_92 (Ms.s 89 rfl) (Ms.n (by decide)) rfl ?_
        refine e_int (nI 3) (by rw [fI_I, if_neg (by omega), fI_I, if_pos ⟨rfl, rfl⟩]) ?_
        refine e_if_eq 72 dX10_clause_68 (by decide) (fun c => absurd c (by decide)) (fun _ => ?_)
        rw [mcla_f hw (by first | exact Or.inl (by omega) | exact Or.inr (decide_eq_true (by omega)))] at h
        exact e_return dX10_clause_71 rfl (h _ ((fSm_I (A := fRqA) (Or.inl rfl)).tr (fSm_I (Or.inl rfl))) ⟨by rw [fI_I, if_neg (by omega), fI_I, if_pos ⟨rfl, rfl⟩], by rw [fI_I, if_pos ⟨rfl, rfl⟩], by show 1 ≤ 3; decide, by show 3 ≤ 3; decide, by show a ≤ n; omega, a, ha, by rw [fI_I, if_neg (by omega), fI_I, if_neg (by omega)]; exact hat⟩ (fun e q => by cases q) (by rw [fI_I, if_neg (by omega), fI_I, if_neg (by omega)]; exact hn) (fun j h1 h2 h3 h4 => by rw [fI_I, if_neg (by omega), fI_I, if_neg (by omega)]))
      · rw [nI_inj (by omega) (by omega)] at c28
        refine e_iload_n dX10_clause_31 rfl rfl ?_
        refine e_iconst (nI 3) dX10_clause_32 (by decide) ?_
        refine e_icmp_lt 42 dX10_clause_33 (by decide) (fun c => absurd c (by decide)) (fun _ => ?_)
        refine e_iload_n dX10_clause_36 rfl rfl ?_
        refine e_bipush (nI 6) dX10_clause_37 (by decide) ?_
        refine e_icmp_ne 64 dX10_clause_39 (by decide) (fun _ => ?_) (fun c => absurd c (by decide))
        refine e_aload_n dX10_clause_64 rfl rfl ?_
        refine e_getI dX10_clause_65 fl_RX10_92 (Ms.s 89 rfl) (Ms.n (by decide)) rfl ?_
        refine e_int (nI 0) hs.2.2.1 ?_
        refine e_if_eq 72 dX10_clause_68 (by decide) (fun _ => ?_) (fun c => absurd c (by decide))
        have hf9 : ¬ (60 ≤ c8 ∨ mfl D 4 = true) := fun q => q.elim (fun q => by omega) (fun q => by have := of_decide_eq_true q; omega)
        have k9 := l_X10_let (kk := nI 4) (d := d + 4) (Q := Q) Ms hB hb hn hn6 (n - a) a (by omega) ?_
        · rw [fsI_id hat] at k9; exact k9
        rw [show msc (qlt B) (n - a) a = mlt B n a from rfl]
        refine e_aload_n dX10_clause_111 rfl rfl ?_
        refine e_dup dX10_clause_112 rfl ?_
        refine e_getI dX10_clause_113 fl_RX10_128 (Ms.s 89 rfl) (Ms.n (by decide)) rfl ?_
        refine e_int (nI c8) (by rw [fI_I, if_neg (by omega)]; exact hc) ?_
        refine e_iconst (nI 1) dX10_clause_116 (by decide) ?_
        refine e_iadd dX10_clause_117 ?_
        refine e_int (nI (c8 + 1)) (nI_add c8 1) ?_
        refine e_putI dX10_clause_118 fl_RX10_128 (Ms.s 89 rfl) (Ms.n (by decide)) rfl rfl ?_
        have Smx : fSm fRqA σ (fsI (fsI σ 89 4 (nI (mlt B n a))) 89 7 (nI (c8 + 1))) := (fSm_I (Or.inl rfl)).tr (fSm_I (Or.inl rfl))
        have Sm89 : fSm (fun a => a = 89) σ (fsI (fsI σ 89 4 (nI (mlt B n a))) 89 7 (nI (c8 + 1))) := (fSm_I (A := fun a => a = 89) rfl).tr (fSm_I rfl)
        have hcl := mcla_s (D := D) (c := c8) hw hf9
        rw [hcl] at h
        refine l_X10_cl4 (c9 := c8 + 1) (s := .inr (mlt B n a)) (Ms.sm Smx) (fun i hi => (Sm89.i (fun (q : 90 = 89) => by omega) i).trans (hB i hi)) hb (by rw [fI_I, if_neg (by omega), fI_I, if_neg (by omega)]; exact hn) hn6 (by rw [fI_I, if_pos ⟨rfl, rfl⟩]) (Rr.sm Sm89 hD (fun i h1 h2 (q : i = 89) => by omega)) hD ⟨(mlt_b (B := B) ha).2, by rw [fI_I, if_neg (by omega), fI_I, if_pos ⟨rfl, rfl⟩], by rw [fI_I, if_neg (by omega), fI_I, if_neg (by omega)]; exact hs.2.2.1, by rw [fI_I, if_neg (by omega), fI_I, if_neg (by omega)]; exact hs.2.2.2⟩ (fun σ' Sm' hs' Rr' hn' hc' ho' => h σ' (Smx.tr Sm') hs' (fun e q => ⟨Rr' e q, hc'⟩) hn' (fun j h1 h2 h3 h4 => (ho' j h1 h2 h3).trans (by rw [fI_I, if_neg (by omega), fI_I, if_neg (by omega)])))
    · show fEv g _ mX10_clause 5 [some (.ref 89), some (.int (nI 5)), none] [] σ Q
      refine e_iload_n dX10_clause_5 rfl rfl ?_
      refine e_iconst (-1) dX10_clause_6 (by decide) ?_
      refine e_icmp_ne 22 dX10_clause_7 (by decide) (fun _ => ?_) (fun c => absurd c (by decide))
      refine e_aload_n dX10_clause_22 rfl rfl ?_
      refine e_getI dX10_clause_23 fl_RX10_128 (Ms.s 89 rfl) (Ms.n (by decide)) rfl ?_
      refine e_int (nI c8) hc ?_
      refine e_bipush (nI 60) dX10_clause_26 (by decide) ?_
      refine e_icmp_eq 55 dX10_clause_28 (by decide) (fun c28 => ?_) (fun c28 => ?_)
      · rw [nI_inj (by omega) (by omega)] at c28
        refine e_aload_n dX10_clause_55 rfl rfl ?_
        refine e_iconst (nI 3) dX10_clause_56 (by decide) ?_
        refine e_aload_n dX10_clause_57 rfl rfl ?_
        refine e_getI dX10_clause_58 fl_RX10_85 (Ms.s 89 rfl) (Ms.n (by decide)) rfl ?_
        refine e_int (nI a) hat ?_
        refine e_callV (k := 89) [.int (nI 3), .int (nI a)] dX10_clause_61 cc_X10_wrong lk_RX10_105 im_X10_wrong se_X10_wrong (by decide) (Ms.s 89 rfl) (Ms.n (by decide)) rfl (Nat.le_of_ble_eq_true rfl) (Nat.le_of_ble_eq_true rfl) ?_
        refine t_X10_wrong Ms hs.2.2.1 (fK_v ?_)
        show fEv g _ mX10_clause 64 [some (.ref 89), some (.int (nI 5)), none] [] (fsI (fsI σ 89 5 (nI 3)) 89 6 (nI a)) Q
        refine e_aload_n dX10_clause_64 rfl rfl ?_
        refine e_getI dX10_clause_65 fl_RX10_92 (Ms.s 89 rfl) (Ms.n (by decide)) rfl ?_
        refine e_int (nI 3) (by rw [fI_I, if_neg (by omega), fI_I, if_pos ⟨rfl, rfl⟩]) ?_
        refine e_if_eq 72 dX10_clause_68 (by decide) (fun c => absurd c (by decide)) (fun _ => ?_)
        rw [mcla_f hw (by first | exact Or.inl (by omega) | exact Or.inr (decide_eq_true (by omega)))] at h
        exact e_return dX10_clause_71 rfl (h _ ((fSm_I (A := fRqA) (Or.inl rfl)).tr (fSm_I (Or.inl rfl))) ⟨by rw [fI_I, if_neg (by omega), fI_I, if_pos ⟨rfl, rfl⟩], by rw [fI_I, if_pos ⟨rfl, rfl⟩], by show 1 ≤ 3; decide, by show 3 ≤ 3; decide, by show a ≤ n; omega, a, ha, by rw [fI_I, if_neg (by omega), fI_I, if_neg (by omega)]; exact hat⟩ (fun e q => by cases q) (by rw [fI_I, if_neg (by omega), fI_I, if_neg (by omega)]; exact hn) (fun j h1 h2 h3 h4 => by rw [fI_I, if_neg (by omega), fI_I, if_neg (by omega)]))
      · rw [nI_inj (by omega) (by omega)] at c28
        refine e_iload_n dX10_clause_31 rfl rfl ?_
        refine e_iconst (nI 3) dX10_clause_32 (by decide) ?_
        refine e_icmp_lt 42 dX10_clause_33 (by decide) (fun c => absurd c (by decide)) (fun _ => ?_)
        refine e_iload_n dX10_clause_36 rfl rfl ?_
        refine e_bipush (nI 6) dX10_clause_37 (by decide) ?_
        refine e_icmp_ne 64 dX10_clause_39 (by decide) (fun _ => ?_) (fun c => absurd c (by decide))
        refine e_aload_n dX10_clause_64 rfl rfl ?_
        refine e_getI dX10_clause_65 fl_RX10_92 (Ms.s 89 rfl) (Ms.n (by decide)) rfl ?_
        refine e_int (nI 0) hs.2.2.1 ?_
        refine e_if_eq 72 dX10_clause_68 (by decide) (fun _ => ?_) (fun c => absurd c (by decide))
        have hf9 : ¬ (60 ≤ c8 ∨ mfl D 5 = true) := fun q => q.elim (fun q => by omega) (fun q => by have := of_decide_eq_true q; omega)
        have k9 := l_X10_let (kk := nI 5) (d := d + 4) (Q := Q) Ms hB hb hn hn6 (n - a) a (by omega) ?_
        · rw [fsI_id hat] at k9; exact k9
        rw [show msc (qlt B) (n - a) a = mlt B n a from rfl]
        refine e_aload_n dX10_clause_111 rfl rfl ?_
        refine e_dup dX10_clause_112 rfl ?_
        refine e_getI dX10_clause_113 fl_RX10_128 (Ms.s 89 rfl) (Ms.n (by decide)) rfl ?_
        refine e_int (nI c8) (by rw [fI_I, if_neg (by omega)]; exact hc) ?_
        refine e_iconst (nI 1) dX10_clause_116 (by decide) ?_
        refine e_iadd dX10_clause_117 ?_
        refine e_int (nI (c8 + 1)) (nI_add c8 1) ?_
        refine e_putI dX10_clause_118 fl_RX10_128 (Ms.s 89 rfl) (Ms.n (by decide)) rfl rfl ?_
        have Smx : fSm fRqA σ (fsI (fsI σ 89 4 (nI (mlt B n a))) 89 7 (nI (c8 + 1))) := (fSm_I (Or.inl rfl)).tr (fSm_I (Or.inl rfl))
        have Sm89 : fSm (fun a => a = 89) σ (fsI (fsI σ 89 4 (nI (mlt B n a))) 89 7 (nI (c8 + 1))) := (fSm_I (A := fun a => a = 89) rfl).tr (fSm_I rfl)
        have hcl := mcla_s (D := D) (c := c8) hw hf9
        rw [hcl] at h
        refine l_X10_cl5 (c9 := c8 + 1) (s := .inr (mlt B n a)) (Ms.sm Smx) (fun i hi => (Sm89.i (fun (q : 90 = 89) => by omega) i).trans (hB i hi)) hb (by rw [fI_I, if_neg (by omega), fI_I, if_neg (by omega)]; exact hn) hn6 (by rw [fI_I, if_pos ⟨rfl, rfl⟩]) (Rr.sm Sm89 hD (fun i h1 h2 (q : i = 89) => by omega)) hD ⟨(mlt_b (B := B) ha).2, by rw [fI_I, if_neg (by omega), fI_I, if_pos ⟨rfl, rfl⟩], by rw [fI_I, if_neg (by omega), fI_I, if_neg (by omega)]; exact hs.2.2.1, by rw [fI_I, if_neg (by omega), fI_I, if_neg (by omega)]; exact hs.2.2.2⟩ (fun σ' Sm' hs' Rr' hn' hc' ho' => h σ' (Smx.tr Sm') hs' (fun e q => ⟨Rr' e q, hc'⟩) hn' (fun j h1 h2 h3 h4 => (ho' j h1 h2 h3).trans (by rw [fI_I, if_neg (by omega), fI_I, if_neg (by omega)])))
    · show fEv g _ mX10_clause 5 [some (.ref 89), some (.int (nI 6)), none] [] σ Q
      refine e_iload_n dX10_clause_5 rfl rfl ?_
      refine e_iconst (-1) dX10_clause_6 (by decide) ?_
      refine e_icmp_ne 22 dX10_clause_7 (by decide) (fun _ => ?_) (fun c => absurd c (by decide))
      refine e_aload_n dX10_clause_22 rfl rfl ?_
      refine e_getI dX10_clause_23 fl_RX10_128 (Ms.s 89 rfl) (Ms.n (by decide)) rfl ?_
      refine e_int (nI c8) hc ?_
      refine e_bipush (nI 60) dX10_clause_26 (by decide) ?_
      refine e_icmp_eq 55 dX10_clause_28 (by decide) (fun c28 => ?_) (fun c28 => ?_)
      · rw [nI_inj (by omega) (by omega)] at c28
        refine e_aload_n dX10_clause_55 rfl rfl ?_
        refine e_iconst (nI 3) dX10_clause_56 (by decide) ?_
        refine e_aload_n dX10_clause_57 rfl rfl ?_
        refine e_getI dX10_clause_58 fl_RX10_85 (Ms.s 89 rfl) (Ms.n (by decide)) rfl ?_
        refine e_int (nI a) hat ?_
        refine e_callV (k := 89) [.int (nI 3), .int (nI a)] dX10_clause_61 cc_X10_wrong lk_RX10_105 im_X10_wrong se_X10_wrong (by decide) (Ms.s 89 rfl) (Ms.n (by decide)) rfl (Nat.le_of_ble_eq_true rfl) (Nat.le_of_ble_eq_true rfl) ?_
        refine t_X10_wrong Ms hs.2.2.1 (fK_v ?_)
        show fEv g _ mX10_clause 64 [some (.ref 89), some (.int (nI 6)), none] [] (fsI (fsI σ 89 5 (nI 3)) 89 6 (nI a)) Q
        refine e_aload_n dX10_clause_64 rfl rfl ?_
        refine e_getI dX10_clause_65 fl_RX10_92 (Ms.s 89 rfl) (Ms.n (by decide)) rfl ?_
        refine e_int (nI 3) (by rw [fI_I, if_neg (by omega), fI_I, if_pos ⟨rfl, rfl⟩]) ?_
        refine e_if_eq 72 dX10_clause_68 (by decide) (fun c => absurd c (by decide)) (fun _ => ?_)
        rw [mcla_f hw (by first | exact Or.inl (by omega) | exact Or.inr (decide_eq_true (by omega)))] at h
        exact e_return dX10_clause_71 rfl (h _ ((fSm_I (A := fRqA) (Or.inl rfl)).tr (fSm_I (Or.inl rfl))) ⟨by rw [fI_I, if_neg (by omega), fI_I, if_pos ⟨rfl, rfl⟩], by rw [fI_I, if_pos ⟨rfl, rfl⟩], by show 1 ≤ 3; decide, by show 3 ≤ 3; decide, by show a ≤ n; omega, a, ha, by rw [fI_I, if_neg (by omega), fI_I, if_neg (by omega)]; exact hat⟩ (fun e q => by cases q) (by rw [fI_I, if_neg (by omega), fI_I, if_neg (by omega)]; exact hn) (fun j h1 h2 h3 h4 => by rw [fI_I, if_neg (by omega), fI_I, if_neg (by omega)]))
      · rw [nI_inj (by omega) (by omega)] at c28
        refine e_iload_n dX10_clause_31 rfl rfl ?_
        refine e_iconst (nI 3) dX10_clause_32 (by decide) ?_
        refine e_icmp_lt 42 dX10_clause_33 (by decide) (fun c => absurd c (by decide)) (fun _ => ?_)
        refine e_iload_n dX10_clause_36 rfl rfl ?_
        refine e_bipush (nI 6) dX10_clause_37 (by decide) ?_
        refine e_icmp_ne 64 dX10_clause_39 (by decide) (fun c => absurd c (by decide)) (fun _ => ?_)
        refine e_aload_n dX10_clause_42 rfl rfl ?_
        refine e_getR (q := 91) dX10_clause_43 fl_RX10_17 (Ms.s 89 rfl) (Ms.n (by decide)) rfl (Ms.r 89 9 rfl) (by unfold fscr; omega) ?_
        refine e_iload_n dX10_clause_46 rfl rfl ?_
        refine e_iaload 6 dX10_clause_47 (Ms.s 91 rfl) (Ms.n (by decide)) rfl (by omega) (by decide) ?_
        refine e_int (nI (dT D 6)) (Rr.1 6 (by decide)) ?_
        refine e_iload_n dX10_clause_48 rfl rfl ?_
        refine e_callS [.int (nI 6)] dX10_clause_49 cc_X10_mostOf lk_RX10_131 st_X10_mostOf in_RX10 rfl (Nat.le_of_ble_eq_true rfl) (Nat.le_of_ble_eq_true rfl) ?_
        refine t_X10_mostOf (k := 6) (by decide) (fK_i ?_)
        show fEv g _ mX10_clause 52 [some (.ref 89), some (.int (nI 6)), none] [.int (nI 24), .int (nI (dT D 6))] σ Q
        refine e_icmp_ne 64 dX10_clause_52 (by decide) (fun c52 => ?_) (fun c52 => ?_)
        · rw [nI_inj (by omega) (by omega)] at c52
          refine e_aload_n dX10_clause_64 rfl rfl ?_
          refine e_getI dX10_clause_65 fl_RX10_92 (Ms.s 89 rfl) (Ms.n (by decide)) rfl ?_
          refine e_int (nI 0) hs.2.2.1 ?_
          refine e_if_eq 72 dX10_clause_68 (by decide) (fun _ => ?_) (fun c => absurd c (by decide))
          have hf9 : ¬ (60 ≤ c8 ∨ mfl D 6 = true) := fun q => q.elim (fun q => by omega) (fun q => by have := of_decide_eq_true q; omega)
          have k9 := l_X10_let (kk := nI 6) (d := d + 4) (Q := Q) Ms hB hb hn hn6 (n - a) a (by omega) ?_
          · rw [fsI_id hat] at k9; exact k9
          rw [show msc (qlt B) (n - a) a = mlt B n a from rfl]
          refine e_aload_n dX10_clause_111 rfl rfl ?_
          refine e_dup dX10_clause_112 rfl ?_
          refine e_getI dX10_clause_113 fl_RX10_128 (Ms.s 89 rfl) (Ms.n (by decide)) rfl ?_
          refine e_int (nI c8) (by rw [fI_I, if_neg (by omega)]; exact hc) ?_
          refine e_iconst (nI 1) dX10_clause_116 (by decide) ?_
          refine e_iadd dX10_clause_117 ?_
          refine e_int (nI (c8 + 1)) (nI_add c8 1) ?_
          refine e_putI dX10_clause_118 fl_RX10_128 (Ms.s 89 rfl) (Ms.n (by decide)) rfl rfl ?_
          have Smx : fSm fRqA σ (fsI (fsI σ 89 4 (nI (mlt B n a))) 89 7 (nI (c8 + 1))) := (fSm_I (Or.inl rfl)).tr (fSm_I (Or.inl rfl))
          have Sm89 : fSm (fun a => a = 89) σ (fsI (fsI σ 89 4 (nI (mlt B n a))) 89 7 (nI (c8 + 1))) := (fSm_I (A := fun a => a = 89) rfl).tr (fSm_I rfl)
          have hcl := mcla_s (D := D) (c := c8) hw hf9
          rw [hcl] at h
          refine l_X10_cl6 (c9 := c8 + 1) (s := .inr (mlt B n a)) (Ms.sm Smx) (fun i hi => (Sm89.i (fun (q : 90 = 89) => by omega) i).trans (hB i hi)) hb (by rw [fI_I, if_neg (by omega), fI_I, if_neg (by omega)]; exact hn) hn6 (by rw [fI_I, if_pos ⟨rfl, rfl⟩]) (Rr.sm Sm89 hD (fun i h1 h2 (q : i = 89) => by omega)) hD ⟨(mlt_b (B := B) ha).2, by rw [fI_I, if_neg (by omega), fI_I, if_pos ⟨rfl, rfl⟩], by rw [fI_I, if_neg (by omega), fI_I, if_neg (by omega)]; exact hs.2.2.1, by rw [fI_I, if_neg (by omega), fI_I, if_neg (by omega)]; exact hs.2.2.2⟩ (by have q9 : ¬ mfl D 6 = true := fun q => hf9 (Or.inr q); have q8 : ¬ ((6 = 0 ∧ 6 ≤ dT D 0) ∨ (6 = 1 ∧ 12 ≤ dT D 1) ∨ (6 = 2 ∧ 6 ≤ dT D 2) ∨ (6 = 6 ∧ 24 ≤ dT D 6)) := fun q => q9 (decide_eq_true q); omega) (fun σ' Sm' hs' Rr' hn' hc' ho' => h σ' (Smx.tr Sm') hs' (fun e q => ⟨Rr' e q, hc'⟩) hn' (fun j h1 h2 h3 h4 => (ho' j h1 h2 h3).trans (by rw [fI_I, if_neg (by omega), fI_I, if_neg (by omega)])))
        · rw [nI_inj (by omega) (by omega)] at c52
          refine e_aload_n dX10_clause_55 rfl rfl ?_
          refine e_iconst (nI 3) dX10_clause_56 (by decide) ?_
          refine e_aload_n dX10_clause_57 rfl rfl ?_
          refine e_getI dX10_clause_58 fl_RX10_85 (Ms.s 89 rfl) (Ms.n (by decide)) rfl ?_
          refine e_int (nI a) hat ?_
          refine e_callV (k := 89) [.int (nI 3), .int (nI a)] dX10_clause_61 cc_X10_wrong lk_RX10_105 im_X10_wrong se_X10_wrong (by decide) (Ms.s 89 rfl) (Ms.n (by decide)) rfl (Nat.le_of_ble_eq_true rfl) (Nat.le_of_ble_eq_true rfl) ?_
          refine t_X10_wrong Ms hs.2.2.1 (fK_v ?_)
          show fEv g _ mX10_clause 64 [some (.ref 89), some (.int (nI 6)), none] [] (fsI (fsI σ 89 5 (nI 3)) 89 6 (nI a)) Q
          refine e_aload_n dX10_clause_64 rfl rfl ?_
          refine e_getI dX10_clause_65 fl_RX10_92 (Ms.s 89 rfl) (Ms.n (by decide)) rfl ?_
          refine e_int (nI 3) (by rw [fI_I, if_neg (by omega), fI_I, if_pos ⟨rfl, rfl⟩]) ?_
          refine e_if_eq 72 dX10_clause_68 (by decide) (fun c => absurd c (by decide)) (fun _ => ?_)
          rw [mcla_f hw (by first | exact Or.inl (by omega) | exact Or.inr (decide_eq_true (by omega)))] at h
          exact e_return dX10_clause_71 rfl (h _ ((fSm_I (A := fRqA) (Or.inl rfl)).tr (fSm_I (Or.inl rfl))) ⟨by rw [fI_I, if_neg (by omega), fI_I, if_pos ⟨rfl, rfl⟩], by rw [fI_I, if_pos ⟨rfl, rfl⟩], by show 1 ≤ 3; decide, by show 3 ≤ 3; decide, by show a ≤ n; omega, a, ha, by rw [fI_I, if_neg (by omega), fI_I, if_neg (by omega)]; exact hat⟩ (fun e q => by cases q) (by rw [fI_I, if_neg (by omega), fI_I, if_neg (by omega)]; exact hn) (fun j h1 h2 h3 h4 => by rw [fI_I, if_neg (by omega), fI_I, if_neg (by omega)]))
