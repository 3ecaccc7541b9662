/-- the cells that the reference's nights change -/
def fRA (tr : Bool) : Nat → Prop := fun a => a = 197 ∨ (tr = true ∧ 283 ≤ a ∧ a < 295)
def fRA9 : Nat → Prop := fun a => a = 197
def fWN (S : Nat → Nat) (c k : Nat) : Prop := S 151 ≤ 891 * S 155 + 99 * c ∧ S 153 ≤ S 152 ∧ S 154 ≤ 12 * S 155 + k
theorem mcp6 {S : Nat → Nat} {p q : Nat} : mup (mup (mup (mup (mup (mup S (q * 6) (S (p * 6))) (q * 6 + 1) (S (p * 6 + 1))) (q * 6 + 2) (S (p * 6 + 2))) (q * 6 + 3) (S (p * 6 + 3))) (q * 6 + 4) (S (p * 6 + 4))) (q * 6 + 5) (S (p * 6 + 5)) = mcp S p q := by
  funext j
  unfold mcp
  simp only [mup]
  by_cases e : q * 6 ≤ j ∧ j < q * 6 + 6
  · rw [if_pos e]
    rcases (show j = q * 6 ∨ j = q * 6 + 1 ∨ j = q * 6 + 2 ∨ j = q * 6 + 3 ∨ j = q * 6 + 4 ∨ j = q * 6 + 5 by omega) with e | e | e | e | e | e
    · rw [if_neg (by omega), if_neg (by omega), if_neg (by omega), if_neg (by omega), if_neg (by omega), if_pos e, e, Nat.sub_self, Nat.add_zero]
    · rw [if_neg (by omega), if_neg (by omega), if_neg (by omega), if_neg (by omega), if_pos e, e, show q * 6 + 1 - q * 6 = 1 by omega]
    · rw [if_neg (by omega), if_neg (by omega), if_neg (by omega), if_pos e, e, show q * 6 + 2 - q * 6 = 2 by omega]
    · rw [if_neg (by omega), if_neg (by omega), if_pos e, e, show q * 6 + 3 - q * 6 = 3 by omega]
    · rw [if_neg (by omega), if_pos e, e, show q * 6 + 4 - q * 6 = 4 by omega]
    · rw [if_pos e, e, show q * 6 + 5 - q * 6 = 5 by omega]
  · rw [if_neg e, if_neg (by omega), if_neg (by omega), if_neg (by omega), if_neg (by omega), if_neg (by omega), if_neg (by omega)]
theorem mcpS {S S1 S2 S3 S4 S5 S6 : Nat → Nat} {p q : Nat} (h : p < q) (h1 : mup S (q * 6) (S (p * 6)) = S1) (h2 : mup S1 (q * 6 + 1) (S1 (p * 6 + 1)) = S2) (h3 : mup S2 (q * 6 + 2) (S2 (p * 6 + 2)) = S3) (h4 : mup S3 (q * 6 + 3) (S3 (p * 6 + 3)) = S4) (h5 : mup S4 (q * 6 + 4) (S4 (p * 6 + 4)) = S5) (h6 : mup S5 (q * 6 + 5) (S5 (p * 6 + 5)) = S6) : S6 = mcp S p q := by
  have a1 : ∀ j, j < q * 6 → S1 j = S j := fun j hj => by rw [← h1, mup_n _ _ (by omega)]
  have a2 : ∀ j, j < q * 6 → S2 j = S j := fun j hj => by rw [← h2, mup_n _ _ (by omega), a1 j hj]
  have a3 : ∀ j, j < q * 6 → S3 j = S j := fun j hj => by rw [← h3, mup_n _ _ (by omega), a2 j hj]
  have a4 : ∀ j, j < q * 6 → S4 j = S j := fun j hj => by rw [← h4, mup_n _ _ (by omega), a3 j hj]
  have a5 : ∀ j, j < q * 6 → S5 j = S j := fun j hj => by rw [← h5, mup_n _ _ (by omega), a4 j hj]
  rw [a1 _ (by omega)] at h2
  rw [a2 _ (by omega)] at h3
  rw [a3 _ (by omega)] at h4
  rw [a4 _ (by omega)] at h5
  rw [a5 _ (by omega)] at h6
  rw [← h6, ← h5, ← h4, ← h3, ← h2, ← h1]
  exact mcp6
theorem ssh16 (x : Int32) (m : Int32) (w : Nat) (hm : m.toBitVec = BitVec.ofNat 32 (2 ^ w - 1)) (hw : w ≤ 8) : x >>> (nI 16 &&& 31) &&& m = nI (x.toBitVec.toNat / 65536 % 2 ^ w) := by
  rw [← ush16 x m w hm hw]
  have e1 : ((nI 16).toUInt32 &&& Int32.toUInt32 31) = 16 := by decide
  rw [e1]
  apply Int32.toBitVec_inj.1
  show (x.toBitVec.sshiftRight' ((nI 16 &&& 31).toBitVec.smod 32)) &&& m.toBitVec = (x.toBitVec >>> (16 : Nat)) &&& m.toBitVec
  have e2 : ((nI 16 &&& 31).toBitVec.smod 32) = 16#32 := by decide
  rw [e2, hm]
  show x.toBitVec.sshiftRight 16 &&& _ = _
  apply BitVec.eq_of_getLsbD_eq
  intro i hi
  rw [BitVec.getLsbD_and, BitVec.getLsbD_and]
  by_cases e : i < 16
  · rw [BitVec.getLsbD_sshiftRight, BitVec.getLsbD_ushiftRight]
    rw [if_pos (by omega)]
    rw [show decide (32 ≤ i) = false from decide_eq_false (by omega)]
    simp
  · have : (BitVec.ofNat 32 (2 ^ w - 1)).getLsbD i = false := by
      rw [BitVec.getLsbD_ofNat, Nat.testBit_two_pow_sub_one, decide_eq_false (show ¬ i < w by omega), Bool.and_false]
    rw [this, Bool.and_false, Bool.and_false]
set_option maxRecDepth 20000 in
theorem t_X10_draws8 {g : fGP} {d : Nat} {σ : fAH} {Q : fRes → fAH → Prop} {D : fSD} {S : Nat → Nat} {sd : Int32} (Ms : fMs g σ) (Mr : fMr σ D S sd) (hD : fWD D) (h : ∀ σ', fSm fRA9 σ σ' → fMr σ' D S (sdn sd) → Q (.inl (some (.int (nI (d8 sd))))) σ') : fEv g d mX10_draws 0 (fent [.ref 89, .int (nI 3)] 2) [] σ Q := by
  show fEv g d mX10_draws 0 [some (.ref 89), some (.int (nI 3))] [] σ Q
  refine e_aload_n dX10_draws_0 rfl rfl ?_
  refine e_getR (q := 197) dX10_draws_1 fl_RX10_49 (Ms.s 89 rfl) (Ms.n (by decide)) rfl (Ms.r 89 19 rfl) (by unfold fscr; omega) ?_
  refine e_sipush (nI 156) dX10_draws_4 (by decide) ?_
  refine e_aload_n dX10_draws_7 rfl rfl ?_
  refine e_getR (q := 197) dX10_draws_8 fl_RX10_49 (Ms.s 89 rfl) (Ms.n (by decide)) rfl (Ms.r 89 19 rfl) (by unfold fscr; omega) ?_
  refine e_sipush (nI 156) dX10_draws_11 (by decide) ?_
  refine e_iaload 156 dX10_draws_14 (Ms.s 197 rfl) (Ms.n (by decide)) rfl (by omega) (by decide) ?_
  refine e_int (sd) Mr.seed ?_
  refine e_ldcI (1103515245) dX10_draws_15 kc_RX10_189 ?_
  refine e_imul dX10_draws_17 ?_
  refine e_sipush (nI 12345) dX10_draws_18 (by decide) ?_
  refine e_iadd dX10_draws_21 ?_
  refine e_int (sdn sd) rfl ?_
  refine e_iastore 156 dX10_draws_22 (Ms.s 197 rfl) (Ms.n (by decide)) rfl (by omega) (by decide) ?_
  have Mr1 := Mr.setd hD (sdn sd)
  have Smx1 : fSm (fRA9) σ (fsI σ 197 156 (sdn sd)) := fSm_I rfl
  have Sm1 := Smx1
  generalize fsI σ 197 156 (sdn sd) = σ1 at Mr1 Sm1 Smx1 ⊢
  have Ms1 := Ms.sm Sm1
  refine e_aload_n dX10_draws_23 rfl rfl ?_
  refine e_getR (q := 197) dX10_draws_24 fl_RX10_49 (Ms1.s 89 rfl) (Ms1.n (by decide)) rfl (Ms1.r 89 19 rfl) (by unfold fscr; omega) ?_
  refine e_sipush (nI 156) dX10_draws_27 (by decide) ?_
  refine e_iaload 156 dX10_draws_30 (Ms1.s 197 rfl) (Ms1.n (by decide)) rfl (by omega) (by decide) ?_
  refine e_int (sdn sd) Mr1.seed ?_
  refine e_bipush (nI 16) dX10_draws_31 (by decide) ?_
  refine e_ishr dX10_draws_33 ?_
  refine e_iconst (nI 1) dX10_draws_34 (by decide) ?_
  refine e_iload_n dX10_draws_35 rfl rfl ?_
  refine e_ishl dX10_draws_36 ?_
  refine e_int (nI 8) (by decide) ?_
  refine e_iconst (nI 1) dX10_draws_37 (by decide) ?_
  refine e_isub dX10_draws_38 ?_
  refine e_int (nI 7) (by decide) ?_
  refine e_iand dX10_draws_39 ?_
  refine e_int (nI (d8 sd)) (ssh16 (sdn sd) (nI 7) 3 (by decide) (by decide)) ?_
  exact e_ireturn .int dX10_draws_40 rfl rfl (h _ Sm1 Mr1)
set_option maxRecDepth 20000 in
theorem t_X10_draws4 {g : fGP} {d : Nat} {σ : fAH} {Q : fRes → fAH → Prop} {D : fSD} {S : Nat → Nat} {sd : Int32} (Ms : fMs g σ) (Mr : fMr σ D S sd) (hD : fWD D) (h : ∀ σ', fSm fRA9 σ σ' → fMr σ' D S (sdn sd) → Q (.inl (some (.int (nI (d4 sd))))) σ') : fEv g d mX10_draws 0 (fent [.ref 89, .int (nI 2)] 2) [] σ Q := by
  show fEv g d mX10_draws 0 [some (.ref 89), some (.int (nI 2))] [] σ Q
  refine e_aload_n dX10_draws_0 rfl rfl ?_
  refine e_getR (q := 197) dX10_draws_1 fl_RX10_49 (Ms.s 89 rfl) (Ms.n (by decide)) rfl (Ms.r 89 19 rfl) (by unfold fscr; omega) ?_
  refine e_sipush (nI 156) dX10_draws_4 (by decide) ?_
  refine e_aload_n dX10_draws_7 rfl rfl ?_
  refine e_getR (q := 197) dX10_draws_8 fl_RX10_49 (Ms.s 89 rfl) (Ms.n (by decide)) rfl (Ms.r 89 19 rfl) (by unfold fscr; omega) ?_
  refine e_sipush (nI 156) dX10_draws_11 (by decide) ?_
  refine e_iaload 156 dX10_draws_14 (Ms.s 197 rfl) (Ms.n (by decide)) rfl (by omega) (by decide) ?_
  refine e_int (sd) Mr.seed ?_
  refine e_ldcI (1103515245) dX10_draws_15 kc_RX10_189 ?_
  refine e_imul dX10_draws_17 ?_
  refine e_sipush (nI 12345) dX10_draws_18 (by decide) ?_
  refine e_iadd dX10_draws_21 ?_
  refine e_int (sdn sd) rfl ?_
  refine e_iastore 156 dX10_draws_22 (Ms.s 197 rfl) (Ms.n (by decide)) rfl (by omega) (by decide) ?_
  have Mr1 := Mr.setd hD (sdn sd)
  have Smx1 : fSm (fRA9) σ (fsI σ 197 156 (sdn sd)) := fSm_I rfl
  have Sm1 := Smx1
  generalize fsI σ 197 156 (sdn sd) = σ1 at Mr1 Sm1 Smx1 ⊢
  have Ms1 := Ms.sm Sm1
  refine e_aload_n dX10_draws_23 rfl rfl ?_
  refine e_getR (q := 197) dX10_draws_24 fl_RX10_49 (Ms1.s 89 rfl) (Ms1.n (by decide)) rfl (Ms1.r 89 19 rfl) (by unfold fscr; omega) ?_
  refine e_sipush (nI 156) dX10_draws_27 (by decide) ?_
  refine e_iaload 156 dX10_draws_30 (Ms1.s 197 rfl) (Ms1.n (by decide)) rfl (by omega) (by decide) ?_
  refine e_int (sdn sd) Mr1.seed ?_
  refine e_bipush (nI 16) dX10_draws_31 (by decide) ?_
  refine e_ishr dX10_draws_33 ?_
  refine e_iconst (nI 1) dX10_draws_34 (by decide) ?_
  refine e_iload_n dX10_draws_35 rfl rfl ?_
  refine e_ishl dX10_draws_36 ?_
  refine e_int (nI 4) (by decide) ?_
  refine e_iconst (nI 1) dX10_draws_37 (by decide) ?_
  refine e_isub dX10_draws_38 ?_
  refine e_int (nI 3) (by decide) ?_
  refine e_iand dX10_draws_39 ?_
  refine e_int (nI (d4 sd)) (ssh16 (sdn sd) (nI 3) 2 (by decide) (by decide)) ?_
  exact e_ireturn .int dX10_draws_40 rfl rfl (h _ Sm1 Mr1)
set_option maxRecDepth 20000 in
theorem t_X10_lineOf {g : fGP} {d : Nat} {σ : fAH} {Q : fRes → fAH → Prop} {D : fSD} {S : Nat → Nat} {sd : Int32} {s p v : Nat} (Ms : fMs g σ) (Mr : fMr σ D S sd) (hD : fWD D) (hW : fWS D S) (hs : s < dT D 1) (hv9 : v < 100) (hpc : mpc D S s = some p) (h : Q (.inl (some (.int (nI (mln D S s v))))) σ) : fEv g (d + 2) mX10_lineOf 0 (fent [.ref 89, .int (nI s), .int (nI v)] 4) [] σ Q := by
  obtain ⟨t0, t1, t2, t3, t4, t5, t6⟩ := id hD.1
  obtain ⟨s0, s1, s2, s3, s4, s5, s6⟩ := hD.2.2.1 s hs
  have sb := hD.s2 hs
  have np := hW.n hD
  have hp := (mpc_lt hpc).1
  have ml : mdir D s v < 1000 := by unfold mdir; split <;> (try split) <;> omega
  show fEv g (d + 2) mX10_lineOf 0 [some (.ref 89), some (.int (nI s)), some (.int (nI v)), none] [] σ Q
  refine e_aload_n dX10_lineOf_0 rfl rfl ?_
  refine e_getR (q := 120) dX10_lineOf_1 fl_RX10_34 (Ms.s 89 rfl) (Ms.n (by decide)) rfl (Ms.r 89 14 rfl) (by unfold fscr; omega) ?_
  refine e_iload_n dX10_lineOf_4 rfl rfl ?_
  refine e_aaload (q := 121 + s) s dX10_lineOf_5 (Ms.s 120 rfl) (by decide) (Ms.n (by decide)) rfl (by omega) (by decide) (Ms.r 120 _ (frf_slot _ (by omega))) (by unfold fscr; omega) ?_
  refine e_iconst (nI 2) dX10_lineOf_6 (by decide) ?_
  refine e_iaload 2 dX10_lineOf_7 (Ms.s _ (fsh_slot _ (by omega))) (Ms.n (by omega)) rfl (by omega) (by decide) ?_
  refine e_int (nI (dS D s 2)) (Mr.slot s (by omega) 2 (by omega)) ?_
  refine e_iload_n dX10_lineOf_8 rfl rfl ?_
  refine e_if_ne 16 dX10_lineOf_9 (by decide) (fun c9 => ?_) (fun c9 => ?_)
  · rw [nI_z (by omega)] at c9
    refine e_iload_n dX10_lineOf_16 rfl rfl ?_
    refine e_iconst (nI 1) dX10_lineOf_17 (by decide) ?_
    refine e_icmp_ne 25 dX10_lineOf_18 (by decide) (fun c18 => ?_) (fun c18 => ?_)
    · rw [nI_inj (by omega) (by omega)] at c18
      refine e_iconst (nI 0) dX10_lineOf_25 (by decide) ?_
      have hv : mdir D s v = dS D s 2 := by unfold mdir; rw [if_neg (by omega), if_neg (by omega)]
      refine e_iadd dX10_lineOf_26 ?_
      refine e_int (nI (mdir D s v)) ((nI_add _ 0).trans (by rw [hv]; rfl)) ?_
      refine e_istore_n (L1 := [some (.ref 89), some (.int (nI s)), some (.int (nI v)), some (.int (nI (mdir D s v)))]) dX10_lineOf_27 rfl (by decide) rfl ?_
      refine e_aload_n dX10_lineOf_28 rfl rfl ?_
      refine e_iload_n dX10_lineOf_29 rfl rfl ?_
      refine e_aload_n dX10_lineOf_30 rfl rfl ?_
      refine e_iload_n dX10_lineOf_31 rfl rfl ?_
      refine e_callV (k := 89) [.int (nI s)] dX10_lineOf_32 cc_X10_pieceOf lk_RX10_168 im_X10_pieceOf se_X10_pieceOf (by decide) (Ms.s 89 rfl) (Ms.n (by decide)) rfl (Nat.le_of_ble_eq_true rfl) (Nat.le_of_ble_eq_true rfl) ?_
      refine t_X10_pieceOf Ms Mr hD hW (by omega) (fK_i ?_)
      show fEv g _ mX10_lineOf 35 [some (.ref 89), some (.int (nI s)), some (.int (nI v)), some (.int (nI (mdir D s v)))] [.int (mo (mpc D S s)), .int (nI s), .ref 89] σ Q
      refine e_int (nI p) (by rw [hpc]; rfl) ?_
      refine e_iload_n dX10_lineOf_35 rfl rfl ?_
      refine e_callV (k := 89) [.int (nI s), .int (nI p), .int (nI (mdir D s v))] dX10_lineOf_36 cc_X10_isInside lk_RX10_171 im_X10_isInside se_X10_isInside (by decide) (Ms.s 89 rfl) (Ms.n (by decide)) rfl (Nat.le_of_ble_eq_true rfl) (Nat.le_of_ble_eq_true rfl) ?_
      refine t_X10_isInside Ms Mr hD hW (by omega) (by omega) (by omega) (fK_i ?_)
      show fEv g _ mX10_lineOf 39 [some (.ref 89), some (.int (nI s)), some (.int (nI v)), some (.int (nI (mdir D s v)))] [.int (nI (bn (mins D S s p (mdir D s v))))] σ Q
      refine e_if_eq 46 dX10_lineOf_39 (by decide) (fun c39 => ?_) (fun c39 => ?_)
      · have c39 := bn0 c39
        refine e_aload_n dX10_lineOf_46 rfl rfl ?_
        refine e_getR (q := 120) dX10_lineOf_47 fl_RX10_34 (Ms.s 89 rfl) (Ms.n (by decide)) rfl (Ms.r 89 14 rfl) (by unfold fscr; omega) ?_
        refine e_iload_n dX10_lineOf_50 rfl rfl ?_
        refine e_aaload (q := 121 + s) s dX10_lineOf_51 (Ms.s 120 rfl) (by decide) (Ms.n (by decide)) rfl (by omega) (by decide) (Ms.r 120 _ (frf_slot _ (by omega))) (by unfold fscr; omega) ?_
        refine e_iconst (nI 2) dX10_lineOf_52 (by decide) ?_
        refine e_iaload 2 dX10_lineOf_53 (Ms.s _ (fsh_slot _ (by omega))) (Ms.n (by omega)) rfl (by omega) (by decide) ?_
        refine e_int (nI (dS D s 2)) (Mr.slot s (by omega) 2 (by omega)) ?_
        have hm : mln D S s v = dS D s 2 := by unfold mln; rw [hpc]; exact if_neg (by show ¬ mins D S s p (mdir D s v) = true; rw [c39]; exact Bool.false_ne_true)
        rw [hm] at h
        exact e_ireturn .int dX10_lineOf_54 rfl rfl h
      · have c39 := bn1 c39
        refine e_iload_n dX10_lineOf_42 rfl rfl ?_
        refine e_goto 54 dX10_lineOf_43 (by decide) ?_
        have hm : mln D S s v = mdir D s v := by unfold mln; rw [hpc]; exact if_pos c39
        rw [hm] at h
        exact e_ireturn .int dX10_lineOf_54 rfl rfl h
    · rw [nI_inj (by omega) (by omega)] at c18
      refine e_iconst (nI 1) dX10_lineOf_21 (by decide) ?_
      refine e_goto 26 dX10_lineOf_22 (by decide) ?_
      have hv : mdir D s v = dS D s 2 + 1 := by unfold mdir; rw [if_neg (by omega), if_pos (by omega)]
      refine e_iadd dX10_lineOf_26 ?_
      refine e_int (nI (mdir D s v)) ((nI_add _ 1).trans (by rw [hv])) ?_
      refine e_istore_n (L1 := [some (.ref 89), some (.int (nI s)), some (.int (nI v)), some (.int (nI (mdir D s v)))]) dX10_lineOf_27 rfl (by decide) rfl ?_
      refine e_aload_n dX10_lineOf_28 rfl rfl ?_
      refine e_iload_n dX10_lineOf_29 rfl rfl ?_
      refine e_aload_n dX10_lineOf_30 rfl rfl ?_
      refine e_iload_n dX10_lineOf_31 rfl rfl ?_
      refine e_callV (k := 89) [.int (nI s)] dX10_lineOf_32 cc_X10_pieceOf lk_RX10_168 im_X10_pieceOf se_X10_pieceOf (by decide) (Ms.s 89 rfl) (Ms.n (by decide)) rfl (Nat.le_of_ble_eq_true rfl) (Nat.le_of_ble_eq_true rfl) ?_
      refine t_X10_pieceOf Ms Mr hD hW (by omega) (fK_i ?_)
      show fEv g _ mX10_lineOf 35 [some (.ref 89), some (.int (nI s)), some (.int (nI v)), some (.int (nI (mdir D s v)))] [.int (mo (mpc D S s)), .int (nI s), .ref 89] σ Q
      refine e_int (nI p) (by rw [hpc]; rfl) ?_
      refine e_iload_n dX10_lineOf_35 rfl rfl ?_
      refine e_callV (k := 89) [.int (nI s), .int (nI p), .int (nI (mdir D s v))] dX10_lineOf_36 cc_X10_isInside lk_RX10_171 im_X10_isInside se_X10_isInside (by decide) (Ms.s 89 rfl) (Ms.n (by decide)) rfl (Nat.le_of_ble_eq_true rfl) (Nat.le_of_ble_eq_true rfl) ?_
      refine t_X10_isInside Ms Mr hD hW (by omega) (by omega) (by omega) (fK_i ?_)
      show fEv g _ mX10_lineOf 39 [some (.ref 89), some (.int (nI s)), some (.int (nI v)), some (.int (nI (mdir D s v)))] [.int (nI (bn (mins D S s p (mdir D s v))))] σ Q
      refine e_if_eq 46 dX10_lineOf_39 (by decide) (fun c39 => ?_) (fun c39 => ?_)
      · have c39 := bn0 c39
        refine e_aload_n dX10_lineOf_46 rfl rfl ?_
        refine e_getR (q := 120) dX10_lineOf_47 fl_RX10_34 (Ms.s 89 rfl) (Ms.n (by decide)) rfl (Ms.r 89 14 rfl) (by unfold fscr; omega) ?_
        refine e_iload_n dX10_lineOf_50 rfl rfl ?_
        refine e_aaload (q := 121 + s) s dX10_lineOf_51 (Ms.s 120 rfl) (by decide) (Ms.n (by decide)) rfl (by omega) (by decide) (Ms.r 120 _ (frf_slot _ (by omega))) (by unfold fscr; omega) ?_
        refine e_iconst (nI 2) dX10_lineOf_52 (by decide) ?_
        refine e_iaload 2 dX10_lineOf_53 (Ms.s _ (fsh_slot _ (by omega))) (Ms.n (by omega)) rfl (by omega) (by decide) ?_
        refine e_int (nI (dS D s 2)) (Mr.slot s (by omega) 2 (by omega)) ?_
        have hm : mln D S s v = dS D s 2 := by unfold mln; rw [hpc]; exact if_neg (by show ¬ mins D S s p (mdir D s v) = true; rw [c39]; exact Bool.false_ne_true)
        rw [hm] at h
        exact e_ireturn .int dX10_lineOf_54 rfl rfl h
      · have c39 := bn1 c39
        refine e_iload_n dX10_lineOf_42 rfl rfl ?_
        refine e_goto 54 dX10_lineOf_43 (by decide) ?_
        have hm : mln D S s v = mdir D s v := by unfold mln; rw [hpc]; exact if_pos c39
        rw [hm] at h
        exact e_ireturn .int dX10_lineOf_54 rfl rfl h
  · rw [nI_z (by omega)] at c9
    refine e_iconst (-1) dX10_lineOf_12 (by decide) ?_
    refine e_goto 26 dX10_lineOf_13 (by decide) ?_
    have hv : mdir D s v = dS D s 2 - 1 := by unfold mdir; rw [if_pos (by omega)]
    refine e_iadd dX10_lineOf_26 ?_
    refine e_int (nI (mdir D s v)) ((hl_m (by omega)).trans (by rw [hv])) ?_
    refine e_istore_n (L1 := [some (.ref 89), some (.int (nI s)), some (.int (nI v)), some (.int (nI (mdir D s v)))]) dX10_lineOf_27 rfl (by decide) rfl ?_
    refine e_aload_n dX10_lineOf_28 rfl rfl ?_
    refine e_iload_n dX10_lineOf_29 rfl rfl ?_
    refine e_aload_n dX10_lineOf_30 rfl rfl ?_
    refine e_iload_n dX10_lineOf_31 rfl rfl ?_
    refine e_callV (k := 89) [.int (nI s)] dX10_lineOf_32 cc_X10_pieceOf lk_RX10_168 im_X10_pieceOf se_X10_pieceOf (by decide) (Ms.s 89 rfl) (Ms.n (by decide)) rfl (Nat.le_of_ble_eq_true rfl) (Nat.le_of_ble_eq_true rfl) ?_
    refine t_X10_pieceOf Ms Mr hD hW (by omega) (fK_i ?_)
    show fEv g _ mX10_lineOf 35 [some (.ref 89), some (.int (nI s)), some (.int (nI v)), some (.int (nI (mdir D s v)))] [.int (mo (mpc D S s)), .int (nI s), .ref 89] σ Q
    refine e_int (nI p) (by rw [hpc]; rfl) ?_
    refine e_iload_n dX10_lineOf_35 rfl rfl ?_
    refine e_callV (k := 89) [.int (nI s), .int (nI p), .int (nI (mdir D s v))] dX10_lineOf_36 cc_X10_isInside lk_RX10_171 im_X10_isInside se_X10_isInside (by decide) (Ms.s 89 rfl) (Ms.n (by decide)) rfl (Nat.le_of_ble_eq_true rfl) (Nat.le_of_ble_eq_true rfl) ?_
    refine t_X10_isInside Ms Mr hD hW (by omega) (by omega) (by omega) (fK_i ?_)
    show fEv g _ mX10_lineOf 39 [some (.ref 89), some (.int (nI s)), some (.int (nI v)), some (.int (nI (mdir D s v)))] [.int (nI (bn (mins D S s p (mdir D s v))))] σ Q
    refine e_if_eq 46 dX10_lineOf_39 (by decide) (fun c39 => ?_) (fun c39 => ?_)
    · have c39 := bn0 c39
      refine e_aload_n dX10_lineOf_46 rfl rfl ?_
      refine e_getR (q := 120) dX10_lineOf_47 fl_RX10_34 (Ms.s 89 rfl) (Ms.n (by decide)) rfl (Ms.r 89 14 rfl) (by unfold fscr; omega) ?_
      refine e_iload_n dX10_lineOf_50 rfl rfl ?_
      refine e_aaload (q := 121 + s) s dX10_lineOf_51 (Ms.s 120 rfl) (by decide) (Ms.n (by decide)) rfl (by omega) (by decide) (Ms.r 120 _ (frf_slot _ (by omega))) (by unfold fscr; omega) ?_
      refine e_iconst (nI 2) dX10_lineOf_52 (by decide) ?_
      refine e_iaload 2 dX10_lineOf_53 (Ms.s _ (fsh_slot _ (by omega))) (Ms.n (by omega)) rfl (by omega) (by decide) ?_
      refine e_int (nI (dS D s 2)) (Mr.slot s (by omega) 2 (by omega)) ?_
      have hm : mln D S s v = dS D s 2 := by unfold mln; rw [hpc]; exact if_neg (by show ¬ mins D S s p (mdir D s v) = true; rw [c39]; exact Bool.false_ne_true)
      rw [hm] at h
      exact e_ireturn .int dX10_lineOf_54 rfl rfl h
    · have c39 := bn1 c39
      refine e_iload_n dX10_lineOf_42 rfl rfl ?_
      refine e_goto 54 dX10_lineOf_43 (by decide) ?_
      have hm : mln D S s v = mdir D s v := by unfold mln; rw [hpc]; exact if_pos c39
      rw [hm] at h
      exact e_ireturn .int dX10_lineOf_54 rfl rfl h
set_option maxRecDepth 20000 in
theorem t_X10_bruises {g : fGP} {d : Nat} {σ : fAH} {Q : fRes → fAH → Prop} {D : fSD} {S : Nat → Nat} {sd : Int32} {s c k : Nat} (Ms : fMs g σ) (Mr : fMr σ D S sd) (hD : fWD D) (hW : fWS D S) (hN : fWN S c k) (hk : k ≤ 12) (hs : s < dT D 1) (h : ∀ σ', fSm fRA9 σ σ' → fMr σ' D (mbru S s) sd → Q (.inl none) σ') : fEv g d mX10_bruises 0 (fent [.ref 89, .int (nI s)] 2) [] σ Q := by
  obtain ⟨t0, t1, t2, t3, t4, t5, t6⟩ := id hD.1
  have dp := hW.2.2.1 s hs
  have n5 := hW.2.2.2.2
  have n4 := hN.2.2
  show fEv g d mX10_bruises 0 [some (.ref 89), some (.int (nI s))] [] σ Q
  refine e_aload_n dX10_bruises_0 rfl rfl ?_
  refine e_getR (q := 197) dX10_bruises_1 fl_RX10_49 (Ms.s 89 rfl) (Ms.n (by decide)) rfl (Ms.r 89 19 rfl) (by unfold fscr; omega) ?_
  refine e_bipush (nI 121) dX10_bruises_4 (by decide) ?_
  refine e_iload_n dX10_bruises_6 rfl rfl ?_
  refine e_iadd dX10_bruises_7 ?_
  refine e_int (nI (121 + s)) (nI_add 121 s) ?_
  refine e_aload_n dX10_bruises_8 rfl rfl ?_
  refine e_getR (q := 197) dX10_bruises_9 fl_RX10_49 (Ms.s 89 rfl) (Ms.n (by decide)) rfl (Ms.r 89 19 rfl) (by unfold fscr; omega) ?_
  refine e_bipush (nI 121) dX10_bruises_12 (by decide) ?_
  refine e_iload_n dX10_bruises_14 rfl rfl ?_
  refine e_iadd dX10_bruises_15 ?_
  refine e_int (nI (121 + s)) (nI_add 121 s) ?_
  refine e_iaload (121 + s) dX10_bruises_16 (Ms.s 197 rfl) (Ms.n (by decide)) rfl (by omega) (by decide) ?_
  refine e_int (nI (S (121 + s))) (Mr.s (121 + s) (by omega)) ?_
  refine e_iconst (nI 1) dX10_bruises_17 (by decide) ?_
  refine e_icmp_le 35 dX10_bruises_18 (by decide) (fun c18 => ?_) (fun c18 => ?_)
  · rw [nI_le' (by omega) (by omega)] at c18
    refine e_iconst (nI 1) dX10_bruises_35 (by decide) ?_
    refine e_iastore (121 + s) dX10_bruises_36 (Ms.s 197 rfl) (Ms.n (by decide)) rfl (by omega) (by decide) ?_
    have Mr1 := Mr.set hD (i := 121 + s) (v := 1) (by omega) (by omega)
    have Smx1 : fSm (fRA9) σ (fsI σ 197 (121 + s) (nI 1)) := fSm_I rfl
    have Sm1 := Smx1
    generalize fsI σ 197 (121 + s) (nI 1) = σ1 at Mr1 Sm1 Smx1 ⊢
    generalize hS1 : mup S (121 + s) 1 = S1 at Mr1
    have Ms1 := Ms.sm Sm1
    have b1 : S1 154 = S 154 := by rw [← hS1, mup_n _ _ (by omega)]
    refine e_aload_n dX10_bruises_37 rfl rfl ?_
    refine e_getR (q := 197) dX10_bruises_38 fl_RX10_49 (Ms1.s 89 rfl) (Ms1.n (by decide)) rfl (Ms1.r 89 19 rfl) (by unfold fscr; omega) ?_
    refine e_sipush (nI 154) dX10_bruises_41 (by decide) ?_
    refine e_dup2 dX10_bruises_44 rfl rfl ?_
    refine e_iaload 154 dX10_bruises_45 (Ms1.s 197 rfl) (Ms1.n (by decide)) rfl (by omega) (by decide) ?_
    refine e_int (nI (S1 154)) (Mr1.s 154 (by omega)) ?_
    refine e_iconst (nI 1) dX10_bruises_46 (by decide) ?_
    refine e_iadd dX10_bruises_47 ?_
    refine e_int (nI (S1 154 + 1)) (nI_add (S1 154) 1) ?_
    refine e_iastore 154 dX10_bruises_48 (Ms1.s 197 rfl) (Ms1.n (by decide)) rfl (by omega) (by decide) ?_
    have Mr2 := Mr1.set hD (i := 154) (v := S1 154 + 1) (by omega) (by omega)
    have Smx2 : fSm (fRA9) σ1 (fsI σ1 197 154 (nI (S1 154 + 1))) := fSm_I rfl
    have Sm2 := Sm1.tr Smx2
    generalize fsI σ1 197 154 (nI (S1 154 + 1)) = σ2 at Mr2 Sm2 Smx2 ⊢
    generalize hS2 : mup S1 154 (S1 154 + 1) = S2 at Mr2
    have Ms2 := Ms.sm Sm2
    have e9 : S2 = mbru S s := by rw [← hS2, ← hS1]; show _ = mup (mup S _ _) _ _; rw [if_neg (by omega)]
    rw [e9] at Mr2
    exact e_return dX10_bruises_49 rfl (h _ Sm2 Mr2)
  · rw [nI_le' (by omega) (by omega)] at c18
    refine e_aload_n dX10_bruises_21 rfl rfl ?_
    refine e_getR (q := 197) dX10_bruises_22 fl_RX10_49 (Ms.s 89 rfl) (Ms.n (by decide)) rfl (Ms.r 89 19 rfl) (by unfold fscr; omega) ?_
    refine e_bipush (nI 121) dX10_bruises_25 (by decide) ?_
    refine e_iload_n dX10_bruises_27 rfl rfl ?_
    refine e_iadd dX10_bruises_28 ?_
    refine e_int (nI (121 + s)) (nI_add 121 s) ?_
    refine e_iaload (121 + s) dX10_bruises_29 (Ms.s 197 rfl) (Ms.n (by decide)) rfl (by omega) (by decide) ?_
    refine e_int (nI (S (121 + s))) (Mr.s (121 + s) (by omega)) ?_
    refine e_iconst (nI 1) dX10_bruises_30 (by decide) ?_
    refine e_isub dX10_bruises_31 ?_
    refine e_int (nI ((S (121 + s)) - 1)) (pk_sub (by omega)) ?_
    refine e_goto 36 dX10_bruises_32 (by decide) ?_
    refine e_iastore (121 + s) dX10_bruises_36 (Ms.s 197 rfl) (Ms.n (by decide)) rfl (by omega) (by decide) ?_
    have Mr1 := Mr.set hD (i := 121 + s) (v := (S (121 + s)) - 1) (by omega) (by omega)
    have Smx1 : fSm (fRA9) σ (fsI σ 197 (121 + s) (nI ((S (121 + s)) - 1))) := fSm_I rfl
    have Sm1 := Smx1
    generalize fsI σ 197 (121 + s) (nI ((S (121 + s)) - 1)) = σ1 at Mr1 Sm1 Smx1 ⊢
    generalize hS1 : mup S (121 + s) ((S (121 + s)) - 1) = S1 at Mr1
    have Ms1 := Ms.sm Sm1
    have b1 : S1 154 = S 154 := by rw [← hS1, mup_n _ _ (by omega)]
    refine e_aload_n dX10_bruises_37 rfl rfl ?_
    refine e_getR (q := 197) dX10_bruises_38 fl_RX10_49 (Ms1.s 89 rfl) (Ms1.n (by decide)) rfl (Ms1.r 89 19 rfl) (by unfold fscr; omega) ?_
    refine e_sipush (nI 154) dX10_bruises_41 (by decide) ?_
    refine e_dup2 dX10_bruises_44 rfl rfl ?_
    refine e_iaload 154 dX10_bruises_45 (Ms1.s 197 rfl) (Ms1.n (by decide)) rfl (by omega) (by decide) ?_
    refine e_int (nI (S1 154)) (Mr1.s 154 (by omega)) ?_
    refine e_iconst (nI 1) dX10_bruises_46 (by decide) ?_
    refine e_iadd dX10_bruises_47 ?_
    refine e_int (nI (S1 154 + 1)) (nI_add (S1 154) 1) ?_
    refine e_iastore 154 dX10_bruises_48 (Ms1.s 197 rfl) (Ms1.n (by decide)) rfl (by omega) (by decide) ?_
    have Mr2 := Mr1.set hD (i := 154) (v := S1 154 + 1) (by omega) (by omega)
    have Smx2 : fSm (fRA9) σ1 (fsI σ1 197 154 (nI (S1 154 + 1))) := fSm_I rfl
    have Sm2 := Sm1.tr Smx2
    generalize fsI σ1 197 154 (nI (S1 154 + 1)) = σ2 at Mr2 Sm2 Smx2 ⊢
    generalize hS2 : mup S1 154 (S1 154 + 1) = S2 at Mr2
    have Ms2 := Ms.sm Sm2
    have e9 : S2 = mbru S s := by rw [← hS2, ← hS1]; show _ = mup (mup S _ _) _ _; rw [if_pos (by omega)]
    rw [e9] at Mr2
    exact e_return dX10_bruises_49 rfl (h _ Sm2 Mr2)
set_option maxRecDepth 20000 in
theorem t_X10_splits {g : fGP} {d : Nat} {σ : fAH} {Q : fRes → fAH → Prop} {D : fSD} {S : Nat → Nat} {T : Nat → Int32} {sd : Int32} {s p ln c9 c k : Nat} {tr : Bool} (Ms : fMs g σ) (Mr : fMr σ D S sd) (hD : fWD D) (hW : fWS D S) (hC : fWC D S) (hN : fWN S c k) (htr : fI σ 89 31 = nI (bn tr)) (hs : s < dT D 1) (hz : S (133 + s) = 0) (hpc : mpc D S s = some p) (hln : ln < 1000) (h : ∀ σ', fSm (fRA tr) σ σ' → fMr σ' D (mspl D S s ln) sd → (tr = true → fMt σ S T → fMt σ' (mspl D S s ln) (mnt D S T s ln c9)) → Q (.inl none) σ') : fEv g (d + 2) mX10_splits 0 (fent [.ref 89, .int (nI s), .int (nI ln), .int (nI c9)] 8) [] σ Q := by
  obtain ⟨t0, t1, t2, t3, t4, t5, t6⟩ := id hD.1
  obtain ⟨s0, s1, s2, s3, s4, s5, s6⟩ := hD.2.2.1 s hs
  have sb := hD.s2 hs
  have np := hW.n hD
  have n5 := hW.2.2.2.2
  have n3 := hN.2.1
  have hlt := hC.lt hs hz
  have h18 : S 120 < 18 := by have := hW.1; omega
  have hp := (mpc_lt hpc).1
  show fEv g (d + 2) mX10_splits 0 [some (.ref 89), some (.int (nI s)), some (.int (nI ln)), some (.int (nI c9)), none, none, none, none] [] σ Q
  refine e_aload_n dX10_splits_0 rfl rfl ?_
  refine e_iload_n dX10_splits_1 rfl rfl ?_
  refine e_callV (k := 89) [.int (nI s)] dX10_splits_2 cc_X10_pieceOf lk_RX10_168 im_X10_pieceOf se_X10_pieceOf (by decide) (Ms.s 89 rfl) (Ms.n (by decide)) rfl (Nat.le_of_ble_eq_true rfl) (Nat.le_of_ble_eq_true rfl) ?_
  refine t_X10_pieceOf Ms Mr hD hW (by omega) (fK_i ?_)
  show fEv g _ mX10_splits 5 [some (.ref 89), some (.int (nI s)), some (.int (nI ln)), some (.int (nI c9)), none, none, none, none] [.int (mo (mpc D S s))] σ Q
  refine e_int (nI p) (by rw [hpc]; rfl) ?_
  refine e_istore (L1 := [some (.ref 89), some (.int (nI s)), some (.int (nI ln)), some (.int (nI c9)), some (.int (nI p)), none, none, none]) dX10_splits_5 (by decide) rfl ?_
  refine e_aload_n dX10_splits_7 rfl rfl ?_
  refine e_getR (q := 197) dX10_splits_8 fl_RX10_49 (Ms.s 89 rfl) (Ms.n (by decide)) rfl (Ms.r 89 19 rfl) (by unfold fscr; omega) ?_
  refine e_bipush (nI 120) dX10_splits_11 (by decide) ?_
  refine e_iaload 120 dX10_splits_13 (Ms.s 197 rfl) (Ms.n (by decide)) rfl (by omega) (by decide) ?_
  refine e_int (nI (S 120)) (Mr.s 120 (by omega)) ?_
  refine e_istore (L1 := [some (.ref 89), some (.int (nI s)), some (.int (nI ln)), some (.int (nI c9)), some (.int (nI p)), some (.int (nI (S 120))), none, none]) dX10_splits_14 (by decide) rfl ?_
  refine e_iconst (nI 1) dX10_splits_16 (by decide) ?_
  refine e_iconst (nI 2) dX10_splits_17 (by decide) ?_
  refine e_aload_n dX10_splits_18 rfl rfl ?_
  refine e_getR (q := 120) dX10_splits_19 fl_RX10_34 (Ms.s 89 rfl) (Ms.n (by decide)) rfl (Ms.r 89 14 rfl) (by unfold fscr; omega) ?_
  refine e_iload_n dX10_splits_22 rfl rfl ?_
  refine e_aaload (q := 121 + s) s dX10_splits_23 (Ms.s 120 rfl) (by decide) (Ms.n (by decide)) rfl (by omega) (by decide) (Ms.r 120 _ (frf_slot _ (by omega))) (by unfold fscr; omega) ?_
  refine e_iconst (nI 1) dX10_splits_24 (by decide) ?_
  refine e_iaload 1 dX10_splits_25 (Ms.s _ (fsh_slot _ (by omega))) (Ms.n (by omega)) rfl (by omega) (by decide) ?_
  refine e_int (nI (dS D s 1)) (Mr.slot s (by omega) 1 (by omega)) ?_
  refine e_imul dX10_splits_26 ?_
  refine e_int (nI (2 * (dS D s 1))) (pk_mul 2 (dS D s 1)) ?_
  refine e_iadd dX10_splits_27 ?_
  refine e_int (nI (1 + 2 * (dS D s 1))) (nI_add 1 (2 * (dS D s 1))) ?_
  refine e_istore (L1 := [some (.ref 89), some (.int (nI s)), some (.int (nI ln)), some (.int (nI c9)), some (.int (nI p)), some (.int (nI (S 120))), some (.int (nI (1 + 2 * (dS D s 1)))), none]) dX10_splits_28 (by decide) rfl ?_
  refine e_iconst (nI 0) dX10_splits_30 (by decide) ?_
  refine e_istore (L1 := [some (.ref 89), some (.int (nI s)), some (.int (nI ln)), some (.int (nI c9)), some (.int (nI p)), some (.int (nI (S 120))), some (.int (nI (1 + 2 * (dS D s 1)))), some (.int (nI 0))]) dX10_splits_31 (by decide) rfl ?_
  refine e_iload dX10_splits_33 rfl ?_
  refine e_bipush (nI 6) dX10_splits_35 (by decide) ?_
  refine e_icmp_ge 72 dX10_splits_37 (by decide) (fun c => absurd c (by decide)) (fun _ => ?_)
  refine e_aload_n dX10_splits_40 rfl rfl ?_
  refine e_getR (q := 197) dX10_splits_41 fl_RX10_49 (Ms.s 89 rfl) (Ms.n (by decide)) rfl (Ms.r 89 19 rfl) (by unfold fscr; omega) ?_
  refine e_bipush (nI 6) dX10_splits_44 (by decide) ?_
  refine e_iload dX10_splits_46 rfl ?_
  refine e_imul dX10_splits_48 ?_
  refine e_int (nI ((S 120) * 6)) ((pk_mul 6 (S 120)).trans (by rw [Nat.mul_comm])) ?_
  refine e_iload dX10_splits_49 rfl ?_
  refine e_iadd dX10_splits_51 ?_
  refine e_int (nI ((S 120) * 6)) (nI_add ((S 120) * 6) 0) ?_
  refine e_aload_n dX10_splits_52 rfl rfl ?_
  refine e_getR (q := 197) dX10_splits_53 fl_RX10_49 (Ms.s 89 rfl) (Ms.n (by decide)) rfl (Ms.r 89 19 rfl) (by unfold fscr; omega) ?_
  refine e_bipush (nI 6) dX10_splits_56 (by decide) ?_
  refine e_iload dX10_splits_58 rfl ?_
  refine e_imul dX10_splits_60 ?_
  refine e_int (nI (p * 6)) ((pk_mul 6 p).trans (by rw [Nat.mul_comm])) ?_
  refine e_iload dX10_splits_61 rfl ?_
  refine e_iadd dX10_splits_63 ?_
  refine e_int (nI (p * 6)) (nI_add (p * 6) 0) ?_
  refine e_iaload (p * 6) dX10_splits_64 (Ms.s 197 rfl) (Ms.n (by decide)) rfl (by omega) (by decide) ?_
  refine e_int (nI (S (p * 6))) (Mr.s (p * 6) (by omega)) ?_
  refine e_iastore ((S 120) * 6) dX10_splits_65 (Ms.s 197 rfl) (Ms.n (by decide)) rfl (by omega) (by decide) ?_
  have Mr1 := Mr.set hD (i := (S 120) * 6) (v := S (p * 6)) (by omega) (Mr.b (by omega))
  have Smx1 : fSm fRA9 σ (fsI σ 197 ((S 120) * 6) (nI (S (p * 6)))) := fSm_I rfl
  have Sm1 := Smx1.to (B := fRA tr) (fun _ q => Or.inl q)
  generalize fsI σ 197 ((S 120) * 6) (nI (S (p * 6))) = σ1 at Mr1 Sm1 Smx1 ⊢
  generalize hS1 : mup S ((S 120) * 6) (S (p * 6)) = S1 at Mr1
  have Ms1 := Ms.sm Sm1
  refine e_iinc (v := nI 1) (L1 := [some (.ref 89), some (.int (nI s)), some (.int (nI ln)), some (.int (nI c9)), some (.int (nI p)), some (.int (nI (S 120))), some (.int (nI (1 + 2 * (dS D s 1)))), some (.int (nI 1))]) dX10_splits_66 rfl (by decide) (by decide) rfl ?_
  refine e_goto 33 dX10_splits_69 (by decide) ?_
  refine e_iload dX10_splits_33 rfl ?_
  refine e_bipush (nI 6) dX10_splits_35 (by decide) ?_
  refine e_icmp_ge 72 dX10_splits_37 (by decide) (fun c => absurd c (by decide)) (fun _ => ?_)
  refine e_aload_n dX10_splits_40 rfl rfl ?_
  refine e_getR (q := 197) dX10_splits_41 fl_RX10_49 (Ms1.s 89 rfl) (Ms1.n (by decide)) rfl (Ms1.r 89 19 rfl) (by unfold fscr; omega) ?_
  refine e_bipush (nI 6) dX10_splits_44 (by decide) ?_
  refine e_iload dX10_splits_46 rfl ?_
  refine e_imul dX10_splits_48 ?_
  refine e_int (nI ((S 120) * 6)) ((pk_mul 6 (S 120)).trans (by rw [Nat.mul_comm])) ?_
  refine e_iload dX10_splits_49 rfl ?_
  refine e_iadd dX10_splits_51 ?_
  refine e_int (nI ((S 120) * 6 + 1)) (nI_add ((S 120) * 6) 1) ?_
  refine e_aload_n dX10_splits_52 rfl rfl ?_
  refine e_getR (q := 197) dX10_splits_53 fl_RX10_49 (Ms1.s 89 rfl) (Ms1.n (by decide)) rfl (Ms1.r 89 19 rfl) (by unfold fscr; omega) ?_
  refine e_bipush (nI 6) dX10_splits_56 (by decide) ?_
  refine e_iload dX10_splits_58 rfl ?_
  refine e_imul dX10_splits_60 ?_
  refine e_int (nI (p * 6)) ((pk_mul 6 p).trans (by rw [Nat.mul_comm])) ?_
  refine e_iload dX10_splits_61 rfl ?_
  refine e_iadd dX10_splits_63 ?_
  refine e_int (nI (p * 6 + 1)) (nI_add (p * 6) 1) ?_
  refine e_iaload (p * 6 + 1) dX10_splits_64 (Ms1.s 197 rfl) (Ms1.n (by decide)) rfl (by omega) (by decide) ?_
  refine e_int (nI (S1 (p * 6 + 1))) (Mr1.s (p * 6 + 1) (by omega)) ?_
  refine e_iastore ((S 120) * 6 + 1) dX10_splits_65 (Ms1.s 197 rfl) (Ms1.n (by decide)) rfl (by omega) (by decide) ?_
  have Mr2 := Mr1.set hD (i := (S 120) * 6 + 1) (v := S1 (p * 6 + 1)) (by omega) (Mr1.b (by omega))
  have Smx2 : fSm fRA9 σ1 (fsI σ1 197 ((S 120) * 6 + 1) (nI (S1 (p * 6 + 1)))) := fSm_I rfl
  have Sm2 := Sm1.tr (Smx2.to (fun _ q => Or.inl q))
  generalize fsI σ1 197 ((S 120) * 6 + 1) (nI (S1 (p * 6 + 1))) = σ2 at Mr2 Sm2 Smx2 ⊢
  generalize hS2 : mup S1 ((S 120) * 6 + 1) (S1 (p * 6 + 1)) = S2 at Mr2
  have Ms2 := Ms.sm Sm2
  refine e_iinc (v := nI 2) (L1 := [some (.ref 89), some (.int (nI s)), some (.int (nI ln)), some (.int (nI c9)), some (.int (nI p)), some (.int (nI (S 120))), some (.int (nI (1 + 2 * (dS D s 1)))), some (.int (nI 2))]) dX10_splits_66 rfl (by decide) (by decide) rfl ?_
  refine e_goto 33 dX10_splits_69 (by decide) ?_
  refine e_iload dX10_splits_33 rfl ?_
  refine e_bipush (nI 6) dX10_splits_35 (by decide) ?_
  refine e_icmp_ge 72 dX10_splits_37 (by decide) (fun c => absurd c (by decide)) (fun _ => ?_)
  refine e_aload_n dX10_splits_40 rfl rfl ?_
  refine e_getR (q := 197) dX10_splits_41 fl_RX10_49 (Ms2.s 89 rfl) (Ms2.n (by decide)) rfl (Ms2.r 89 19 rfl) (by unfold fscr; omega) ?_
  refine e_bipush (nI 6) dX10_splits_44 (by decide) ?_
  refine e_iload dX10_splits_46 rfl ?_
  refine e_imul dX10_splits_48 ?_
  refine e_int (nI ((S 120) * 6)) ((pk_mul 6 (S 120)).trans (by rw [Nat.mul_comm])) ?_
  refine e_iload dX10_splits_49 rfl ?_
  refine e_iadd dX10_splits_51 ?_
  refine e_int (nI ((S 120) * 6 + 2)) (nI_add ((S 120) * 6) 2) ?_
  refine e_aload_n dX10_splits_52 rfl rfl ?_
  refine e_getR (q := 197) dX10_splits_53 fl_RX10_49 (Ms2.s 89 rfl) (Ms2.n (by decide)) rfl (Ms2.r 89 19 rfl) (by unfold fscr; omega) ?_
  refine e_bipush (nI 6) dX10_splits_56 (by decide) ?_
  refine e_iload dX10_splits_58 rfl ?_
  refine e_imul dX10_splits_60 ?_
  refine e_int (nI (p * 6)) ((pk_mul 6 p).trans (by rw [Nat.mul_comm])) ?_
  refine e_iload dX10_splits_61 rfl ?_
  refine e_iadd dX10_splits_63 ?_
  refine e_int (nI (p * 6 + 2)) (nI_add (p * 6) 2) ?_
  refine e_iaload (p * 6 + 2) dX10_splits_64 (Ms2.s 197 rfl) (Ms2.n (by decide)) rfl (by omega) (by decide) ?_
  refine e_int (nI (S2 (p * 6 + 2))) (Mr2.s (p * 6 + 2) (by omega)) ?_
  refine e_iastore ((S 120) * 6 + 2) dX10_splits_65 (Ms2.s 197 rfl) (Ms2.n (by decide)) rfl (by omega) (by decide) ?_
  have Mr3 := Mr2.set hD (i := (S 120) * 6 + 2) (v := S2 (p * 6 + 2)) (by omega) (Mr2.b (by omega))
  have Smx3 : fSm fRA9 σ2 (fsI σ2 197 ((S 120) * 6 + 2) (nI (S2 (p * 6 + 2)))) := fSm_I rfl
  have Sm3 := Sm2.tr (Smx3.to (fun _ q => Or.inl q))
  generalize fsI σ2 197 ((S 120) * 6 + 2) (nI (S2 (p * 6 + 2))) = σ3 at Mr3 Sm3 Smx3 ⊢
  generalize hS3 : mup S2 ((S 120) * 6 + 2) (S2 (p * 6 + 2)) = S3 at Mr3
  have Ms3 := Ms.sm Sm3
  refine e_iinc (v := nI 3) (L1 := [some (.ref 89), some (.int (nI s)), some (.int (nI ln)), some (.int (nI c9)), some (.int (nI p)), some (.int (nI (S 120))), some (.int (nI (1 + 2 * (dS D s 1)))), some (.int (nI 3))]) dX10_splits_66 rfl (by decide) (by decide) rfl ?_
  refine e_goto 33 dX10_splits_69 (by decide) ?_
  refine e_iload dX10_splits_33 rfl ?_
  refine e_bipush (nI 6) dX10_splits_35 (by decide) ?_
  refine e_icmp_ge 72 dX10_splits_37 (by decide) (fun c => absurd c (by decide)) (fun _ => ?_)
  refine e_aload_n dX10_splits_40 rfl rfl ?_
  refine e_getR (q := 197) dX10_splits_41 fl_RX10_49 (Ms3.s 89 rfl) (Ms3.n (by decide)) rfl (Ms3.r 89 19 rfl) (by unfold fscr; omega) ?_
  refine e_bipush (nI 6) dX10_splits_44 (by decide) ?_
  refine e_iload dX10_splits_46 rfl ?_
  refine e_imul dX10_splits_48 ?_
  refine e_int (nI ((S 120) * 6)) ((pk_mul 6 (S 120)).trans (by rw [Nat.mul_comm])) ?_
  refine e_iload dX10_splits_49 rfl ?_
  refine e_iadd dX10_splits_51 ?_
  refine e_int (nI ((S 120) * 6 + 3)) (nI_add ((S 120) * 6) 3) ?_
  refine e_aload_n dX10_splits_52 rfl rfl ?_
  refine e_getR (q := 197) dX10_splits_53 fl_RX10_49 (Ms3.s 89 rfl) (Ms3.n (by decide)) rfl (Ms3.r 89 19 rfl) (by unfold fscr; omega) ?_
  refine e_bipush (nI 6) dX10_splits_56 (by decide) ?_
  refine e_iload dX10_splits_58 rfl ?_
  refine e_imul dX10_splits_60 ?_
  refine e_int (nI (p * 6)) ((pk_mul 6 p).trans (by rw [Nat.mul_comm])) ?_
  refine e_iload dX10_splits_61 rfl ?_
  refine e_iadd dX10_splits_63 ?_
  refine e_int (nI (p * 6 + 3)) (nI_add (p * 6) 3) ?_
  refine e_iaload (p * 6 + 3) dX10_splits_64 (Ms3.s 197 rfl) (Ms3.n (by decide)) rfl (by omega) (by decide) ?_
  refine e_int (nI (S3 (p * 6 + 3))) (Mr3.s (p * 6 + 3) (by omega)) ?_
  refine e_iastore ((S 120) * 6 + 3) dX10_splits_65 (Ms3.s 197 rfl) (Ms3.n (by decide)) rfl (by omega) (by decide) ?_
  have Mr4 := Mr3.set hD (i := (S 120) * 6 + 3) (v := S3 (p * 6 + 3)) (by omega) (Mr3.b (by omega))
  have Smx4 : fSm fRA9 σ3 (fsI σ3 197 ((S 120) * 6 + 3) (nI (S3 (p * 6 + 3)))) := fSm_I rfl
  have Sm4 := Sm3.tr (Smx4.to (fun _ q => Or.inl q))
  generalize fsI σ3 197 ((S 120) * 6 + 3) (nI (S3 (p * 6 + 3))) = σ4 at Mr4 Sm4 Smx4 ⊢
  generalize hS4 : mup S3 ((S 120) * 6 + 3) (S3 (p * 6 + 3)) = S4 at Mr4
  have Ms4 := Ms.sm Sm4
  refine e_iinc (v := nI 4) (L1 := [some (.ref 89), some (.int (nI s)), some (.int (nI ln)), some (.int (nI c9)), some (.int (nI p)), some (.int (nI (S 120))), some (.int (nI (1 + 2 * (dS D s 1)))), some (.int (nI 4))]) dX10_splits_66 rfl (by decide) (by decide) rfl ?_
  refine e_goto 33 dX10_splits_69 (by decide) ?_
  refine e_iload dX10_splits_33 rfl ?_
  refine e_bipush (nI 6) dX10_splits_35 (by decide) ?_
  refine e_icmp_ge 72 dX10_splits_37 (by decide) (fun c => absurd c (by decide)) (fun _ => ?_)
  refine e_aload_n dX10_splits_40 rfl rfl ?_
  refine e_getR (q := 197) dX10_splits_41 fl_RX10_49 (Ms4.s 89 rfl) (Ms4.n (by decide)) rfl (Ms4.r 89 19 rfl) (by unfold fscr; omega) ?_
  refine e_bipush (nI 6) dX10_splits_44 (by decide) ?_
  refine e_iload dX10_splits_46 rfl ?_
  refine e_imul dX10_splits_48 ?_
  refine e_int (nI ((S 120) * 6)) ((pk_mul 6 (S 120)).trans (by rw [Nat.mul_comm])) ?_
  refine e_iload dX10_splits_49 rfl ?_
  refine e_iadd dX10_splits_51 ?_
  refine e_int (nI ((S 120) * 6 + 4)) (nI_add ((S 120) * 6) 4) ?_
  refine e_aload_n dX10_splits_52 rfl rfl ?_
  refine e_getR (q := 197) dX10_splits_53 fl_RX10_49 (Ms4.s 89 rfl) (Ms4.n (by decide)) rfl (Ms4.r 89 19 rfl) (by unfold fscr; omega) ?_
  refine e_bipush (nI 6) dX10_splits_56 (by decide) ?_
  refine e_iload dX10_splits_58 rfl ?_
  refine e_imul dX10_splits_60 ?_
  refine e_int (nI (p * 6)) ((pk_mul 6 p).trans (by rw [Nat.mul_comm])) ?_
  refine e_iload dX10_splits_61 rfl ?_
  refine e_iadd dX10_splits_63 ?_
  refine e_int (nI (p * 6 + 4)) (nI_add (p * 6) 4) ?_
  refine e_iaload (p * 6 + 4) dX10_splits_64 (Ms4.s 197 rfl) (Ms4.n (by decide)) rfl (by omega) (by decide) ?_
  refine e_int (nI (S4 (p * 6 + 4))) (Mr4.s (p * 6 + 4) (by omega)) ?_
  refine e_iastore ((S 120) * 6 + 4) dX10_splits_65 (Ms4.s 197 rfl) (Ms4.n (by decide)) rfl (by omega) (by decide) ?_
  have Mr5 := Mr4.set hD (i := (S 120) * 6 + 4) (v := S4 (p * 6 + 4)) (by omega) (Mr4.b (by omega))
  have Smx5 : fSm fRA9 σ4 (fsI σ4 197 ((S 120) * 6 + 4) (nI (S4 (p * 6 + 4)))) := fSm_I rfl
  have Sm5 := Sm4.tr (Smx5.to (fun _ q => Or.inl q))
  generalize fsI σ4 197 ((S 120) * 6 + 4) (nI (S4 (p * 6 + 4))) = σ5 at Mr5 Sm5 Smx5 ⊢
  generalize hS5 : mup S4 ((S 120) * 6 + 4) (S4 (p * 6 + 4)) = S5 at Mr5
  have Ms5 := Ms.sm Sm5
  refine e_iinc (v := nI 5) (L1 := [some (.ref 89), some (.int (nI s)), some (.int (nI ln)), some (.int (nI c9)), some (.int (nI p)), some (.int (nI (S 120))), some (.int (nI (1 + 2 * (dS D s 1)))), some (.int (nI 5))]) dX10_splits_66 rfl (by decide) (by decide) rfl ?_
  refine e_goto 33 dX10_splits_69 (by decide) ?_
  refine e_iload dX10_splits_33 rfl ?_
  refine e_bipush (nI 6) dX10_splits_35 (by decide) ?_
  refine e_icmp_ge 72 dX10_splits_37 (by decide) (fun c => absurd c (by decide)) (fun _ => ?_)
  refine e_aload_n dX10_splits_40 rfl rfl ?_
  refine e_getR (q := 197) dX10_splits_41 fl_RX10_49 (Ms5.s 89 rfl) (Ms5.n (by decide)) rfl (Ms5.r 89 19 rfl) (by unfold fscr; omega) ?_
  refine e_bipush (nI 6) dX10_splits_44 (by decide) ?_
  refine e_iload dX10_splits_46 rfl ?_
  refine e_imul dX10_splits_48 ?_
  refine e_int (nI ((S 120) * 6)) ((pk_mul 6 (S 120)).trans (by rw [Nat.mul_comm])) ?_
  refine e_iload dX10_splits_49 rfl ?_
  refine e_iadd dX10_splits_51 ?_
  refine e_int (nI ((S 120) * 6 + 5)) (nI_add ((S 120) * 6) 5) ?_
  refine e_aload_n dX10_splits_52 rfl rfl ?_
  refine e_getR (q := 197) dX10_splits_53 fl_RX10_49 (Ms5.s 89 rfl) (Ms5.n (by decide)) rfl (Ms5.r 89 19 rfl) (by unfold fscr; omega) ?_
  refine e_bipush (nI 6) dX10_splits_56 (by decide) ?_
  refine e_iload dX10_splits_58 rfl ?_
  refine e_imul dX10_splits_60 ?_
  refine e_int (nI (p * 6)) ((pk_mul 6 p).trans (by rw [Nat.mul_comm])) ?_
  refine e_iload dX10_splits_61 rfl ?_
  refine e_iadd dX10_splits_63 ?_
  refine e_int (nI (p * 6 + 5)) (nI_add (p * 6) 5) ?_
  refine e_iaload (p * 6 + 5) dX10_splits_64 (Ms5.s 197 rfl) (Ms5.n (by decide)) rfl (by omega) (by decide) ?_
  refine e_int (nI (S5 (p * 6 + 5))) (Mr5.s (p * 6 + 5) (by omega)) ?_
  refine e_iastore ((S 120) * 6 + 5) dX10_splits_65 (Ms5.s 197 rfl) (Ms5.n (by decide)) rfl (by omega) (by decide) ?_
  have Mr6 := Mr5.set hD (i := (S 120) * 6 + 5) (v := S5 (p * 6 + 5)) (by omega) (Mr5.b (by omega))
  have Smx6 : fSm fRA9 σ5 (fsI σ5 197 ((S 120) * 6 + 5) (nI (S5 (p * 6 + 5)))) := fSm_I rfl
  have Sm6 := Sm5.tr (Smx6.to (fun _ q => Or.inl q))
  generalize fsI σ5 197 ((S 120) * 6 + 5) (nI (S5 (p * 6 + 5))) = σ6 at Mr6 Sm6 Smx6 ⊢
  generalize hS6 : mup S5 ((S 120) * 6 + 5) (S5 (p * 6 + 5)) = S6 at Mr6
  have Ms6 := Ms.sm Sm6
  refine e_iinc (v := nI 6) (L1 := [some (.ref 89), some (.int (nI s)), some (.int (nI ln)), some (.int (nI c9)), some (.int (nI p)), some (.int (nI (S 120))), some (.int (nI (1 + 2 * (dS D s 1)))), some (.int (nI 6))]) dX10_splits_66 rfl (by decide) (by decide) rfl ?_
  refine e_goto 33 dX10_splits_69 (by decide) ?_
  refine e_iload dX10_splits_33 rfl ?_
  refine e_bipush (nI 6) dX10_splits_35 (by decide) ?_
  refine e_icmp_ge 72 dX10_splits_37 (by decide) (fun _ => ?_) (fun c => absurd c (by decide))
  have e6 : S6 = mcp S p (S 120) := mcpS hp hS1 hS2 hS3 hS4 hS5 hS6
  refine e_aload_n dX10_splits_72 rfl rfl ?_
  refine e_getR (q := 197) dX10_splits_73 fl_RX10_49 (Ms6.s 89 rfl) (Ms6.n (by decide)) rfl (Ms6.r 89 19 rfl) (by unfold fscr; omega) ?_
  refine e_bipush (nI 6) dX10_splits_76 (by decide) ?_
  refine e_iload dX10_splits_78 rfl ?_
  refine e_imul dX10_splits_80 ?_
  refine e_int (nI (p * 6)) ((pk_mul 6 p).trans (by rw [Nat.mul_comm])) ?_
  refine e_iload dX10_splits_81 rfl ?_
  refine e_iadd dX10_splits_83 ?_
  refine e_int (nI (p * 6 + (1 + 2 * (dS D s 1)))) (nI_add (p * 6) (1 + 2 * (dS D s 1))) ?_
  refine e_iconst (nI 1) dX10_splits_84 (by decide) ?_
  refine e_iadd dX10_splits_85 ?_
  refine e_int (nI (p * 6 + (1 + 2 * (dS D s 1)) + 1)) (nI_add (p * 6 + (1 + 2 * (dS D s 1))) 1) ?_
  refine e_iload_n dX10_splits_86 rfl rfl ?_
  refine e_iastore (p * 6 + (1 + 2 * (dS D s 1)) + 1) dX10_splits_87 (Ms6.s 197 rfl) (Ms6.n (by decide)) rfl (by omega) (by decide) ?_
  have Mr7 := Mr6.set hD (i := p * 6 + (1 + 2 * (dS D s 1)) + 1) (v := ln) (by omega) (by omega)
  have Smx7 : fSm fRA9 σ6 (fsI σ6 197 (p * 6 + (1 + 2 * (dS D s 1)) + 1) (nI ln)) := fSm_I rfl
  have Sm7 := Sm6.tr (Smx7.to (fun _ q => Or.inl q))
  generalize fsI σ6 197 (p * 6 + (1 + 2 * (dS D s 1)) + 1) (nI ln) = σ7 at Mr7 Sm7 Smx7 ⊢
  generalize hS7 : mup S6 (p * 6 + (1 + 2 * (dS D s 1)) + 1) ln = S7 at Mr7
  have Ms7 := Ms.sm Sm7
  have t7 : S7 120 = S 120 := by rw [← hS7, mup_n _ _ (by omega), e6]; exact if_neg (by omega)
  refine e_aload_n dX10_splits_88 rfl rfl ?_
  refine e_getR (q := 197) dX10_splits_89 fl_RX10_49 (Ms7.s 89 rfl) (Ms7.n (by decide)) rfl (Ms7.r 89 19 rfl) (by unfold fscr; omega) ?_
  refine e_bipush (nI 6) dX10_splits_92 (by decide) ?_
  refine e_iload dX10_splits_94 rfl ?_
  refine e_imul dX10_splits_96 ?_
  refine e_int (nI ((S 120) * 6)) ((pk_mul 6 (S 120)).trans (by rw [Nat.mul_comm])) ?_
  refine e_iload dX10_splits_97 rfl ?_
  refine e_iadd dX10_splits_99 ?_
  refine e_int (nI ((S 120) * 6 + (1 + 2 * (dS D s 1)))) (nI_add ((S 120) * 6) (1 + 2 * (dS D s 1))) ?_
  refine e_iload_n dX10_splits_100 rfl rfl ?_
  refine e_iastore ((S 120) * 6 + (1 + 2 * (dS D s 1))) dX10_splits_101 (Ms7.s 197 rfl) (Ms7.n (by decide)) rfl (by omega) (by decide) ?_
  have Mr8 := Mr7.set hD (i := (S 120) * 6 + (1 + 2 * (dS D s 1))) (v := ln) (by omega) (by omega)
  have Smx8 : fSm fRA9 σ7 (fsI σ7 197 ((S 120) * 6 + (1 + 2 * (dS D s 1))) (nI ln)) := fSm_I rfl
  have Sm8 := Sm7.tr (Smx8.to (fun _ q => Or.inl q))
  generalize fsI σ7 197 ((S 120) * 6 + (1 + 2 * (dS D s 1))) (nI ln) = σ8 at Mr8 Sm8 Smx8 ⊢
  generalize hS8 : mup S7 ((S 120) * 6 + (1 + 2 * (dS D s 1))) ln = S8 at Mr8
  have Ms8 := Ms.sm Sm8
  have t8 : S8 120 = S 120 := by rw [← hS8, mup_n _ _ (by omega)]; exact t7
  refine e_aload_n dX10_splits_102 rfl rfl ?_
  refine e_getR (q := 197) dX10_splits_103 fl_RX10_49 (Ms8.s 89 rfl) (Ms8.n (by decide)) rfl (Ms8.r 89 19 rfl) (by unfold fscr; omega) ?_
  refine e_bipush (nI 120) dX10_splits_106 (by decide) ?_
  refine e_dup2 dX10_splits_108 rfl rfl ?_
  refine e_iaload 120 dX10_splits_109 (Ms8.s 197 rfl) (Ms8.n (by decide)) rfl (by omega) (by decide) ?_
  refine e_int (nI (S8 120)) (Mr8.s 120 (by omega)) ?_
  refine e_iconst (nI 1) dX10_splits_110 (by decide) ?_
  refine e_iadd dX10_splits_111 ?_
  refine e_int (nI (S8 120 + 1)) (nI_add (S8 120) 1) ?_
  refine e_iastore 120 dX10_splits_112 (Ms8.s 197 rfl) (Ms8.n (by decide)) rfl (by omega) (by decide) ?_
  have Mr9 := Mr8.set hD (i := 120) (v := S8 120 + 1) (by omega) (by omega)
  have Smx9 : fSm fRA9 σ8 (fsI σ8 197 120 (nI (S8 120 + 1))) := fSm_I rfl
  have Sm9 := Sm8.tr (Smx9.to (fun _ q => Or.inl q))
  generalize fsI σ8 197 120 (nI (S8 120 + 1)) = σ9 at Mr9 Sm9 Smx9 ⊢
  generalize hS9 : mup S8 120 (S8 120 + 1) = S9 at Mr9
  have Ms9 := Ms.sm Sm9
  have e9 : S9 = mdv D S s p ln := by rw [← hS9, ← hS8, ← hS7, e6]; rfl
  have o9 : S9 155 = S 155 ∧ S9 152 = S 152 ∧ S9 153 = S 153 := by rw [e9]; exact ⟨mdv_o s1 (by omega) h18 (by omega), mdv_o s1 (by omega) h18 (by omega), mdv_o s1 (by omega) h18 (by omega)⟩
  refine e_aload_n dX10_splits_113 rfl rfl ?_
  refine e_getR (q := 197) dX10_splits_114 fl_RX10_49 (Ms9.s 89 rfl) (Ms9.n (by decide)) rfl (Ms9.r 89 19 rfl) (by unfold fscr; omega) ?_
  refine e_sipush (nI 133) dX10_splits_117 (by decide) ?_
  refine e_iload_n dX10_splits_120 rfl rfl ?_
  refine e_iadd dX10_splits_121 ?_
  refine e_int (nI (133 + s)) (nI_add 133 s) ?_
  refine e_aload_n dX10_splits_122 rfl rfl ?_
  refine e_getR (q := 197) dX10_splits_123 fl_RX10_49 (Ms9.s 89 rfl) (Ms9.n (by decide)) rfl (Ms9.r 89 19 rfl) (by unfold fscr; omega) ?_
  refine e_sipush (nI 155) dX10_splits_126 (by decide) ?_
  refine e_iaload 155 dX10_splits_129 (Ms9.s 197 rfl) (Ms9.n (by decide)) rfl (by omega) (by decide) ?_
  refine e_int (nI (S9 155)) (Mr9.s 155 (by omega)) ?_
  refine e_iconst (nI 1) dX10_splits_130 (by decide) ?_
  refine e_iadd dX10_splits_131 ?_
  refine e_int (nI (S9 155 + 1)) (nI_add (S9 155) 1) ?_
  refine e_iastore (133 + s) dX10_splits_132 (Ms9.s 197 rfl) (Ms9.n (by decide)) rfl (by omega) (by decide) ?_
  have Mr10 := Mr9.set hD (i := 133 + s) (v := S9 155 + 1) (by omega) (by omega)
  have Smx10 : fSm fRA9 σ9 (fsI σ9 197 (133 + s) (nI (S9 155 + 1))) := fSm_I rfl
  have Sm10 := Sm9.tr (Smx10.to (fun _ q => Or.inl q))
  generalize fsI σ9 197 (133 + s) (nI (S9 155 + 1)) = σ10 at Mr10 Sm10 Smx10 ⊢
  generalize hS10 : mup S9 (133 + s) (S9 155 + 1) = S10 at Mr10
  have Ms10 := Ms.sm Sm10
  have o10 : S10 155 = S 155 ∧ S10 152 = S 152 ∧ S10 153 = S 153 := by rw [← hS10, mup_n _ _ (by omega), mup_n _ _ (by omega), mup_n _ _ (by omega)]; exact o9
  refine e_aload_n dX10_splits_133 rfl rfl ?_
  refine e_getZ dX10_splits_134 fl_RX10_193 (Ms10.s 89 rfl) (Ms10.n (by decide)) rfl ?_
  refine e_int (nI (bn tr)) ((Sm10.i (by unfold fRA; omega) 31).trans htr) ?_
  refine e_if_eq 191 dX10_splits_137 (by decide) (fun c137 => ?_) (fun c137 => ?_)
  · have c137 := bn0 c137
    refine e_aload_n dX10_splits_191 rfl rfl ?_
    refine e_getR (q := 197) dX10_splits_192 fl_RX10_49 (Ms10.s 89 rfl) (Ms10.n (by decide)) rfl (Ms10.r 89 19 rfl) (by unfold fscr; omega) ?_
    refine e_sipush (nI 152) dX10_splits_195 (by decide) ?_
    refine e_dup2 dX10_splits_198 rfl rfl ?_
    refine e_iaload 152 dX10_splits_199 (Ms10.s 197 rfl) (Ms10.n (by decide)) rfl (by omega) (by decide) ?_
    refine e_int (nI (S10 152)) (Mr10.s 152 (by omega)) ?_
    refine e_iconst (nI 1) dX10_splits_200 (by decide) ?_
    refine e_iadd dX10_splits_201 ?_
    refine e_int (nI (S10 152 + 1)) (nI_add (S10 152) 1) ?_
    refine e_iastore 152 dX10_splits_202 (Ms10.s 197 rfl) (Ms10.n (by decide)) rfl (by omega) (by decide) ?_
    have Mr21 := Mr10.set hD (i := 152) (v := S10 152 + 1) (by omega) (by omega)
    have Smx21 : fSm fRA9 σ10 (fsI σ10 197 152 (nI (S10 152 + 1))) := fSm_I rfl
    have Sm21 := Sm10.tr (Smx21.to (fun _ q => Or.inl q))
    generalize fsI σ10 197 152 (nI (S10 152 + 1)) = σ21 at Mr21 Sm21 Smx21 ⊢
    generalize hS21 : mup S10 152 (S10 152 + 1) = S21 at Mr21
    have Ms21 := Ms.sm Sm21
    have o11 : S21 153 = S 153 := by rw [← hS21, mup_n _ _ (by omega)]; exact o10.2.2
    refine e_aload_n dX10_splits_203 rfl rfl ?_
    refine e_getR (q := 197) dX10_splits_204 fl_RX10_49 (Ms21.s 89 rfl) (Ms21.n (by decide)) rfl (Ms21.r 89 19 rfl) (by unfold fscr; omega) ?_
    refine e_sipush (nI 153) dX10_splits_207 (by decide) ?_
    refine e_dup2 dX10_splits_210 rfl rfl ?_
    refine e_iaload 153 dX10_splits_211 (Ms21.s 197 rfl) (Ms21.n (by decide)) rfl (by omega) (by decide) ?_
    refine e_int (nI (S21 153)) (Mr21.s 153 (by omega)) ?_
    refine e_iload_n dX10_splits_212 rfl rfl ?_
    refine e_aload_n dX10_splits_213 rfl rfl ?_
    refine e_getR (q := 120) dX10_splits_214 fl_RX10_34 (Ms21.s 89 rfl) (Ms21.n (by decide)) rfl (Ms21.r 89 14 rfl) (by unfold fscr; omega) ?_
    refine e_iload_n dX10_splits_217 rfl rfl ?_
    refine e_aaload (q := 121 + s) s dX10_splits_218 (Ms21.s 120 rfl) (by decide) (Ms21.n (by decide)) rfl (by omega) (by decide) (Ms21.r 120 _ (frf_slot _ (by omega))) (by unfold fscr; omega) ?_
    refine e_iconst (nI 2) dX10_splits_219 (by decide) ?_
    refine e_iaload 2 dX10_splits_220 (Ms21.s _ (fsh_slot _ (by omega))) (Ms21.n (by omega)) rfl (by omega) (by decide) ?_
    refine e_int (nI (dS D s 2)) (Mr21.slot s (by omega) 2 (by omega)) ?_
    refine e_icmp_ne 228 dX10_splits_221 (by decide) (fun c221 => ?_) (fun c221 => ?_)
    · rw [nI_inj (by omega) (by omega)] at c221
      refine e_iconst (nI 1) dX10_splits_228 (by decide) ?_
      refine e_iadd dX10_splits_229 ?_
      refine e_int (nI (S21 153 + 1)) (nI_add (S21 153) 1) ?_
      refine e_iastore 153 dX10_splits_230 (Ms21.s 197 rfl) (Ms21.n (by decide)) rfl (by omega) (by decide) ?_
      have Mr22 := Mr21.set hD (i := 153) (v := S21 153 + 1) (by omega) (by omega)
      have Smx22 : fSm fRA9 σ21 (fsI σ21 197 153 (nI (S21 153 + 1))) := fSm_I rfl
      have Sm22 := Sm21.tr (Smx22.to (fun _ q => Or.inl q))
      generalize fsI σ21 197 153 (nI (S21 153 + 1)) = σ22 at Mr22 Sm22 Smx22 ⊢
      generalize hS22 : mup S21 153 (S21 153 + 1) = S22 at Mr22
      have Ms22 := Ms.sm Sm22
      have e22 : S22 = mspl D S s ln := by rw [mspl_e hpc, ← e9, hS10, hS21, ← hS22]; rw [if_neg (by omega)]
      rw [e22] at Mr22
      exact e_return dX10_splits_231 rfl (h _ Sm22 Mr22 (fun q => absurd (c137.symm.trans q) Bool.false_ne_true))
    · rw [nI_inj (by omega) (by omega)] at c221
      refine e_iconst (nI 0) dX10_splits_224 (by decide) ?_
      refine e_goto 229 dX10_splits_225 (by decide) ?_
      refine e_iadd dX10_splits_229 ?_
      refine e_int (nI (S21 153)) (nI_add (S21 153) 0) ?_
      refine e_iastore 153 dX10_splits_230 (Ms21.s 197 rfl) (Ms21.n (by decide)) rfl (by omega) (by decide) ?_
      have Mr22 := Mr21.set hD (i := 153) (v := S21 153) (by omega) (by omega)
      have Smx22 : fSm fRA9 σ21 (fsI σ21 197 153 (nI (S21 153))) := fSm_I rfl
      have Sm22 := Sm21.tr (Smx22.to (fun _ q => Or.inl q))
      generalize fsI σ21 197 153 (nI (S21 153)) = σ22 at Mr22 Sm22 Smx22 ⊢
      generalize hS22 : mup S21 153 (S21 153) = S22 at Mr22
      have Ms22 := Ms.sm Sm22
      have e22 : S22 = mspl D S s ln := by rw [mspl_e hpc, ← e9, hS10, hS21, ← hS22]; rw [if_pos (by omega)]; rfl
      rw [e22] at Mr22
      exact e_return dX10_splits_231 rfl (h _ Sm22 Mr22 (fun q => absurd (c137.symm.trans q) Bool.false_ne_true))
  · have c137 := bn1 c137
    have Smy10 := ((((((((Smx1.tr Smx2).tr Smx3).tr Smx4).tr Smx5).tr Smx6).tr Smx7).tr Smx8).tr Smx9).tr Smx10
    refine e_aload_n dX10_splits_140 rfl rfl ?_
    refine e_getR (q := 282) dX10_splits_141 fl_RX10_64 (Ms10.s 89 rfl) (Ms10.n (by decide)) rfl (Ms10.r 89 29 rfl) (by unfold fscr; omega) ?_
    refine e_aload_n dX10_splits_144 rfl rfl ?_
    refine e_getR (q := 197) dX10_splits_145 fl_RX10_49 (Ms10.s 89 rfl) (Ms10.n (by decide)) rfl (Ms10.r 89 19 rfl) (by unfold fscr; omega) ?_
    refine e_sipush (nI 152) dX10_splits_148 (by decide) ?_
    refine e_iaload 152 dX10_splits_151 (Ms10.s 197 rfl) (Ms10.n (by decide)) rfl (by omega) (by decide) ?_
    refine e_int (nI (S10 152)) (Mr10.s 152 (by omega)) ?_
    refine e_aaload (q := 283 + (S10 152)) (S10 152) dX10_splits_152 (Ms10.s 282 rfl) (by decide) (Ms10.n (by decide)) rfl (by omega) (by decide) (Ms10.r 282 _ (frf_trace _ (by omega))) (by unfold fscr; omega) ?_
    refine e_astore (L1 := [some (.ref 89), some (.int (nI s)), some (.int (nI ln)), some (.int (nI c9)), some (.int (nI p)), some (.int (nI (S 120))), some (.int (nI (1 + 2 * (dS D s 1)))), some (.ref (283 + (S10 152)))]) dX10_splits_153 (by decide) rfl ?_
    refine e_aload dX10_splits_155 rfl ?_
    refine e_iconst (nI 0) dX10_splits_157 (by decide) ?_
    refine e_iload_n dX10_splits_158 rfl rfl ?_
    refine e_iastore 0 dX10_splits_159 (Ms10.s _ (fsh_trace _ (by omega))) (Ms10.n (by omega)) rfl (by omega) (by decide) ?_
    refine e_aload dX10_splits_160 rfl ?_
    refine e_iconst (nI 1) dX10_splits_162 (by decide) ?_
    refine e_aload_n dX10_splits_163 rfl rfl ?_
    refine e_getR (q := 197) dX10_splits_164 fl_RX10_49 (Ms10.s 89 rfl) (Ms10.n (by decide)) rfl (Ms10.r 89 19 rfl) (by unfold fscr; omega) ?_
    refine e_sipush (nI 155) dX10_splits_167 (by decide) ?_
    refine e_iaload 155 dX10_splits_170 (Ms10.s 197 rfl) (Ms10.n (by decide)) rfl (by omega) (by decide) ?_
    refine e_int (nI (S10 155)) (by rw [fI_I, if_neg (by omega)]; exact (Mr10.s 155 (by omega))) ?_
    refine e_iastore 1 dX10_splits_171 (Ms10.s _ (fsh_trace _ (by omega))) (Ms10.n (by omega)) rfl (by omega) (by decide) ?_
    refine e_aload dX10_splits_172 rfl ?_
    refine e_iconst (nI 2) dX10_splits_174 (by decide) ?_
    refine e_iload_n dX10_splits_175 rfl rfl ?_
    refine e_iastore 2 dX10_splits_176 (Ms10.s _ (fsh_trace _ (by omega))) (Ms10.n (by omega)) rfl (by omega) (by decide) ?_
    refine e_aload dX10_splits_177 rfl ?_
    refine e_iconst (nI 3) dX10_splits_179 (by decide) ?_
    refine e_iload_n dX10_splits_180 rfl rfl ?_
    refine e_aload_n dX10_splits_181 rfl rfl ?_
    refine e_getR (q := 120) dX10_splits_182 fl_RX10_34 (Ms10.s 89 rfl) (Ms10.n (by decide)) rfl (Ms10.r 89 14 rfl) (by unfold fscr; omega) ?_
    refine e_iload_n dX10_splits_185 rfl rfl ?_
    refine e_aaload (q := 121 + s) s dX10_splits_186 (Ms10.s 120 rfl) (by decide) (Ms10.n (by decide)) rfl (by omega) (by decide) (Ms10.r 120 _ (frf_slot _ (by omega))) (by unfold fscr; omega) ?_
    refine e_iconst (nI 2) dX10_splits_187 (by decide) ?_
    refine e_iaload 2 dX10_splits_188 (Ms10.s _ (fsh_slot _ (by omega))) (Ms10.n (by omega)) rfl (by omega) (by decide) ?_
    refine e_int (nI (dS D s 2)) (by rw [fI_I, if_neg (by omega), fI_I, if_neg (by omega), fI_I, if_neg (by omega)]; exact (Mr10.slot s (by omega) 2 (by omega))) ?_
    refine e_isub dX10_splits_189 ?_
    refine e_iastore 3 dX10_splits_190 (Ms10.s _ (fsh_trace _ (by omega))) (Ms10.n (by omega)) rfl (by omega) (by decide) ?_
    have Mr20 : fMr (fsI (fsI (fsI (fsI σ10 (283 + (S10 152)) 0 (nI s)) (283 + (S10 152)) 1 (nI (S10 155))) (283 + (S10 152)) 2 (nI c9)) (283 + (S10 152)) 3 ((nI ln) - (nI (dS D s 2)))) D S10 sd := Mr10.smm (((fSm_I (A := fun a => 283 ≤ a ∧ a < 295) ⟨by omega, by omega⟩).tr (fSm_I ⟨by omega, by omega⟩)).tr (fSm_I ⟨by omega, by omega⟩) |>.tr (fSm_I ⟨by omega, by omega⟩)) hD (fun i h1 h2 => by omega)
    have Smx20 : fSm (fRA tr) σ10 (fsI (fsI (fsI (fsI σ10 (283 + (S10 152)) 0 (nI s)) (283 + (S10 152)) 1 (nI (S10 155))) (283 + (S10 152)) 2 (nI c9)) (283 + (S10 152)) 3 ((nI ln) - (nI (dS D s 2)))) := (((fSm_I (Or.inr ⟨c137, by omega, by omega⟩)).tr (fSm_I (Or.inr ⟨c137, by omega, by omega⟩))).tr (fSm_I (Or.inr ⟨c137, by omega, by omega⟩))).tr (fSm_I (Or.inr ⟨c137, by omega, by omega⟩))
    have Sm20 := Sm10.tr Smx20
    have tr20 : ∀ i, i ≠ S 152 → i < 12 → fI (fsI (fsI (fsI (fsI σ10 (283 + (S10 152)) 0 (nI s)) (283 + (S10 152)) 1 (nI (S10 155))) (283 + (S10 152)) 2 (nI c9)) (283 + (S10 152)) 3 ((nI ln) - (nI (dS D s 2)))) (283 + i) = fI σ10 (283 + i) := fun i h1 h2 => by rw [fI_ne (by omega), fI_ne (by omega), fI_ne (by omega), fI_ne (by omega)]
    have tv20 : fI (fsI (fsI (fsI (fsI σ10 (283 + (S10 152)) 0 (nI s)) (283 + (S10 152)) 1 (nI (S10 155))) (283 + (S10 152)) 2 (nI c9)) (283 + (S10 152)) 3 ((nI ln) - (nI (dS D s 2)))) (283 + S 152) 0 = nI s ∧ fI (fsI (fsI (fsI (fsI σ10 (283 + (S10 152)) 0 (nI s)) (283 + (S10 152)) 1 (nI (S10 155))) (283 + (S10 152)) 2 (nI c9)) (283 + (S10 152)) 3 ((nI ln) - (nI (dS D s 2)))) (283 + S 152) 1 = nI (S 155) ∧ fI (fsI (fsI (fsI (fsI σ10 (283 + (S10 152)) 0 (nI s)) (283 + (S10 152)) 1 (nI (S10 155))) (283 + (S10 152)) 2 (nI c9)) (283 + (S10 152)) 3 ((nI ln) - (nI (dS D s 2)))) (283 + S 152) 2 = nI c9 ∧ fI (fsI (fsI (fsI (fsI σ10 (283 + (S10 152)) 0 (nI s)) (283 + (S10 152)) 1 (nI (S10 155))) (283 + (S10 152)) 2 (nI c9)) (283 + (S10 152)) 3 ((nI ln) - (nI (dS D s 2)))) (283 + S 152) 3 = nI ln - nI (dS D s 2) := by rw [← o10.2.1, ← o10.1]; exact ⟨by rw [fI_I, if_neg (by omega), fI_I, if_neg (by omega), fI_I, if_neg (by omega), fI_I, if_pos ⟨rfl, rfl⟩], by rw [fI_I, if_neg (by omega), fI_I, if_neg (by omega), fI_I, if_pos ⟨rfl, rfl⟩], by rw [fI_I, if_neg (by omega), fI_I, if_pos ⟨rfl, rfl⟩], by rw [fI_I, if_pos ⟨rfl, rfl⟩]⟩
    generalize fsI (fsI (fsI (fsI σ10 (283 + (S10 152)) 0 (nI s)) (283 + (S10 152)) 1 (nI (S10 155))) (283 + (S10 152)) 2 (nI c9)) (283 + (S10 152)) 3 ((nI ln) - (nI (dS D s 2))) = σ20 at Mr20 Sm20 Smx20 tr20 tv20 ⊢
    have Ms20 := Ms.sm Sm20
    refine e_aload_n dX10_splits_191 rfl rfl ?_
    refine e_getR (q := 197) dX10_splits_192 fl_RX10_49 (Ms20.s 89 rfl) (Ms20.n (by decide)) rfl (Ms20.r 89 19 rfl) (by unfold fscr; omega) ?_
    refine e_sipush (nI 152) dX10_splits_195 (by decide) ?_
    refine e_dup2 dX10_splits_198 rfl rfl ?_
    refine e_iaload 152 dX10_splits_199 (Ms20.s 197 rfl) (Ms20.n (by decide)) rfl (by omega) (by decide) ?_
    refine e_int (nI (S10 152)) (Mr20.s 152 (by omega)) ?_
    refine e_iconst (nI 1) dX10_splits_200 (by decide) ?_
    refine e_iadd dX10_splits_201 ?_
    refine e_int (nI (S10 152 + 1)) (nI_add (S10 152) 1) ?_
    refine e_iastore 152 dX10_splits_202 (Ms20.s 197 rfl) (Ms20.n (by decide)) rfl (by omega) (by decide) ?_
    have Mr21 := Mr20.set hD (i := 152) (v := S10 152 + 1) (by omega) (by omega)
    have Smx21 : fSm fRA9 σ20 (fsI σ20 197 152 (nI (S10 152 + 1))) := fSm_I rfl
    have Sm21 := Sm20.tr (Smx21.to (fun _ q => Or.inl q))
    generalize fsI σ20 197 152 (nI (S10 152 + 1)) = σ21 at Mr21 Sm21 Smx21 ⊢
    generalize hS21 : mup S10 152 (S10 152 + 1) = S21 at Mr21
    have Ms21 := Ms.sm Sm21
    have o11 : S21 153 = S 153 := by rw [← hS21, mup_n _ _ (by omega)]; exact o10.2.2
    refine e_aload_n dX10_splits_203 rfl rfl ?_
    refine e_getR (q := 197) dX10_splits_204 fl_RX10_49 (Ms21.s 89 rfl) (Ms21.n (by decide)) rfl (Ms21.r 89 19 rfl) (by unfold fscr; omega) ?_
    refine e_sipush (nI 153) dX10_splits_207 (by decide) ?_
    refine e_dup2 dX10_splits_210 rfl rfl ?_
    refine e_iaload 153 dX10_splits_211 (Ms21.s 197 rfl) (Ms21.n (by decide)) rfl (by omega) (by decide) ?_
    refine e_int (nI (S21 153)) (Mr21.s 153 (by omega)) ?_
    refine e_iload_n dX10_splits_212 rfl rfl ?_
    refine e_aload_n dX10_splits_213 rfl rfl ?_
    refine e_getR (q := 120) dX10_splits_214 fl_RX10_34 (Ms21.s 89 rfl) (Ms21.n (by decide)) rfl (Ms21.r 89 14 rfl) (by unfold fscr; omega) ?_
    refine e_iload_n dX10_splits_217 rfl rfl ?_
    refine e_aaload (q := 121 + s) s dX10_splits_218 (Ms21.s 120 rfl) (by decide) (Ms21.n (by decide)) rfl (by omega) (by decide) (Ms21.r 120 _ (frf_slot _ (by omega))) (by unfold fscr; omega) ?_
    refine e_iconst (nI 2) dX10_splits_219 (by decide) ?_
    refine e_iaload 2 dX10_splits_220 (Ms21.s _ (fsh_slot _ (by omega))) (Ms21.n (by omega)) rfl (by omega) (by decide) ?_
    refine e_int (nI (dS D s 2)) (Mr21.slot s (by omega) 2 (by omega)) ?_
    refine e_icmp_ne 228 dX10_splits_221 (by decide) (fun c221 => ?_) (fun c221 => ?_)
    · rw [nI_inj (by omega) (by omega)] at c221
      refine e_iconst (nI 1) dX10_splits_228 (by decide) ?_
      refine e_iadd dX10_splits_229 ?_
      refine e_int (nI (S21 153 + 1)) (nI_add (S21 153) 1) ?_
      refine e_iastore 153 dX10_splits_230 (Ms21.s 197 rfl) (Ms21.n (by decide)) rfl (by omega) (by decide) ?_
      have Mr22 := Mr21.set hD (i := 153) (v := S21 153 + 1) (by omega) (by omega)
      have Smx22 : fSm fRA9 σ21 (fsI σ21 197 153 (nI (S21 153 + 1))) := fSm_I rfl
      have Sm22 := Sm21.tr (Smx22.to (fun _ q => Or.inl q))
      generalize fsI σ21 197 153 (nI (S21 153 + 1)) = σ22 at Mr22 Sm22 Smx22 ⊢
      generalize hS22 : mup S21 153 (S21 153 + 1) = S22 at Mr22
      have Ms22 := Ms.sm Sm22
      have e22 : S22 = mspl D S s ln := by rw [mspl_e hpc, ← e9, hS10, hS21, ← hS22]; rw [if_neg (by omega)]
      rw [e22] at Mr22
      refine e_return dX10_splits_231 rfl (h _ Sm22 Mr22 (fun _ Mt => ⟨fun i hi c hc => ?_, fun t ht => ?_⟩))
      · rw [mspl_152 hpc s1 (by omega) (by omega) h18] at hi
        rw [Smx22.i (by unfold fRA9; omega) c, Smx21.i (by unfold fRA9; omega) c]
        unfold mnt
        by_cases e : i = S 152
        · subst e
          obtain ⟨tv0, tv1, tv2, tv3⟩ := tv20
          rcases (show c = 0 ∨ c = 1 ∨ c = 2 ∨ c = 3 by omega) with rfl | rfl | rfl | rfl
          · rw [mTp_n _ _ (by omega), mTp_n _ _ (by omega), mTp_n _ _ (by omega)]; exact tv0.trans (mTp_s _ _ _).symm
          · rw [mTp_n _ _ (by omega), mTp_n _ _ (by omega), mTp_s]; exact tv1
          · rw [mTp_n _ _ (by omega), mTp_s]; exact tv2
          · rw [mTp_s]; exact tv3
        · rw [mTp_n _ _ (by omega), mTp_n _ _ (by omega), mTp_n _ _ (by omega), mTp_n _ _ (by omega), tr20 i e (by omega), Smy10.i (by unfold fRA9; omega) c]
          exact Mt.1 i (by omega) c hc
      · rw [mspl_o hpc s1 (by omega) (by omega) h18 (by omega) (by omega) (by omega) (by omega)] at ht
        unfold mnt
        rw [Sm22.i (by unfold fRA; omega) t, mTp_n _ _ (by omega), mTp_n _ _ (by omega), mTp_n _ _ (by omega), mTp_n _ _ (by omega)]
        exact Mt.2 t ht
    · rw [nI_inj (by omega) (by omega)] at c221
      refine e_iconst (nI 0) dX10_splits_224 (by decide) ?_
      refine e_goto 229 dX10_splits_225 (by decide) ?_
      refine e_iadd dX10_splits_229 ?_
      refine e_int (nI (S21 153)) (nI_add (S21 153) 0) ?_
      refine e_iastore 153 dX10_splits_230 (Ms21.s 197 rfl) (Ms21.n (by decide)) rfl (by omega) (by decide) ?_
      have Mr22 := Mr21.set hD (i := 153) (v := S21 153) (by omega) (by omega)
      have Smx22 : fSm fRA9 σ21 (fsI σ21 197 153 (nI (S21 153))) := fSm_I rfl
      have Sm22 := Sm21.tr (Smx22.to (fun _ q => Or.inl q))
      generalize fsI σ21 197 153 (nI (S21 153)) = σ22 at Mr22 Sm22 Smx22 ⊢
      generalize hS22 : mup S21 153 (S21 153) = S22 at Mr22
      have Ms22 := Ms.sm Sm22
      have e22 : S22 = mspl D S s ln := by rw [mspl_e hpc, ← e9, hS10, hS21, ← hS22]; rw [if_pos (by omega)]; rfl
      rw [e22] at Mr22
      refine e_return dX10_splits_231 rfl (h _ Sm22 Mr22 (fun _ Mt => ⟨fun i hi c hc => ?_, fun t ht => ?_⟩))
      · rw [mspl_152 hpc s1 (by omega) (by omega) h18] at hi
        rw [Smx22.i (by unfold fRA9; omega) c, Smx21.i (by unfold fRA9; omega) c]
        unfold mnt
        by_cases e : i = S 152
        · subst e
          obtain ⟨tv0, tv1, tv2, tv3⟩ := tv20
          rcases (show c = 0 ∨ c = 1 ∨ c = 2 ∨ c = 3 by omega) with rfl | rfl | rfl | rfl
          · rw [mTp_n _ _ (by omega), mTp_n _ _ (by omega), mTp_n _ _ (by omega)]; exact tv0.trans (mTp_s _ _ _).symm
          · rw [mTp_n _ _ (by omega), mTp_n _ _ (by omega), mTp_s]; exact tv1
          · rw [mTp_n _ _ (by omega), mTp_s]; exact tv2
          · rw [mTp_s]; exact tv3
        · rw [mTp_n _ _ (by omega), mTp_n _ _ (by omega), mTp_n _ _ (by omega), mTp_n _ _ (by omega), tr20 i e (by omega), Smy10.i (by unfold fRA9; omega) c]
          exact Mt.1 i (by omega) c hc
      · rw [mspl_o hpc s1 (by omega) (by omega) h18 (by omega) (by omega) (by omega) (by omega)] at ht
        unfold mnt
        rw [Sm22.i (by unfold fRA; omega) t, mTp_n _ _ (by omega), mTp_n _ _ (by omega), mTp_n _ _ (by omega), mTp_n _ _ (by omega)]
        exact Mt.2 t ht
