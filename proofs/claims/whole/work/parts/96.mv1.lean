set_option maxRecDepth 20000 in
theorem t_X10_moves0 {g : fGP} {d : Nat} {σ : fAH} {Q : fRes → fAH → Prop} {j k : Nat} {v : Int32} (Ms : fMs g σ) (hj : j < 3) (hk : k < 387) (hk9 : fI σ 89 25 = nI k) (h : Q (.inl (some (.int v))) (fsI (fsI σ (296 + j) k v) 89 25 (nI (k + 1)))) : fEv g d mX10_moves 0 (fent [.ref 89, .ref (296 + j), .int v, .int (nI 0)] 4) [] σ Q := by
  show fEv g d mX10_moves 0 [some (.ref 89), some (.ref (296 + j)), some (.int v), some (.int (nI 0))] [] σ Q
  refine e_iload_n dX10_moves_0 rfl rfl ?_
  refine e_if_ne 11 dX10_moves_1 (by decide) (fun c => absurd c (by decide)) (fun _ => ?_)
  refine e_aload_n dX10_moves_4 rfl rfl ?_
  refine e_aload_n dX10_moves_5 rfl rfl ?_
  refine e_getI dX10_moves_6 fl_RX10_316 (Ms.s 89 rfl) (Ms.n (by decide)) rfl ?_
  refine e_int (nI k) hk9 ?_
  refine e_iload_n dX10_moves_9 rfl rfl ?_
  refine e_iastore k dX10_moves_10 (Ms.s _ (fsh_kept _ (by omega))) (Ms.n (by omega)) rfl (by omega) (by decide) ?_
  refine e_aload_n dX10_moves_11 rfl rfl ?_
  refine e_dup dX10_moves_12 rfl ?_
  refine e_getI dX10_moves_13 fl_RX10_316 (Ms.s 89 rfl) (Ms.n (by decide)) rfl ?_
  refine e_int (nI k) (by rw [fI_I, if_neg (by omega)]; exact hk9) ?_
  refine e_iconst (nI 1) dX10_moves_16 (by decide) ?_
  refine e_iadd dX10_moves_17 ?_
  refine e_int (nI (k + 1)) (nI_add k 1) ?_
  refine e_putI dX10_moves_18 fl_RX10_316 (Ms.s 89 rfl) (Ms.n (by decide)) rfl rfl ?_
  refine e_aload_n dX10_moves_21 rfl rfl ?_
  refine e_aload_n dX10_moves_22 rfl rfl ?_
  refine e_getI dX10_moves_23 fl_RX10_316 (Ms.s 89 rfl) (Ms.n (by decide)) rfl ?_
  refine e_int (nI (k + 1)) (by rw [fI_I, if_pos ⟨rfl, rfl⟩]) ?_
  refine e_iconst (nI 1) dX10_moves_26 (by decide) ?_
  refine e_isub dX10_moves_27 ?_
  refine e_int (nI k) (by rw [pk_sub (by omega)]; rfl) ?_
  refine e_iaload k dX10_moves_28 (Ms.s _ (fsh_kept _ (by omega))) (Ms.n (by omega)) rfl (by omega) (by decide) ?_
  refine e_int (v) (by rw [fI_I, if_neg (by omega), fI_I, if_pos ⟨rfl, rfl⟩]) ?_
  exact e_ireturn .int dX10_moves_29 rfl rfl h
set_option maxRecDepth 20000 in
theorem t_X10_moves1 {g : fGP} {d : Nat} {σ : fAH} {Q : fRes → fAH → Prop} {j k : Nat} {v : Int32} (Ms : fMs g σ) (hj : j < 3) (hk : k < 387) (hk9 : fI σ 89 25 = nI k) (h : Q (.inl (some (.int (fI σ (296 + j) k)))) (fsI σ 89 25 (nI (k + 1)))) : fEv g d mX10_moves 0 (fent [.ref 89, .ref (296 + j), .int v, .int (nI 1)] 4) [] σ Q := by
  show fEv g d mX10_moves 0 [some (.ref 89), some (.ref (296 + j)), some (.int v), some (.int (nI 1))] [] σ Q
  refine e_iload_n dX10_moves_0 rfl rfl ?_
  refine e_if_ne 11 dX10_moves_1 (by decide) (fun _ => ?_) (fun c => absurd c (by decide))
  refine e_aload_n dX10_moves_11 rfl rfl ?_
  refine e_dup dX10_moves_12 rfl ?_
  refine e_getI dX10_moves_13 fl_RX10_316 (Ms.s 89 rfl) (Ms.n (by decide)) rfl ?_
  refine e_int (nI k) hk9 ?_
  refine e_iconst (nI 1) dX10_moves_16 (by decide) ?_
  refine e_iadd dX10_moves_17 ?_
  refine e_int (nI (k + 1)) (nI_add k 1) ?_
  refine e_putI dX10_moves_18 fl_RX10_316 (Ms.s 89 rfl) (Ms.n (by decide)) rfl rfl ?_
  refine e_aload_n dX10_moves_21 rfl rfl ?_
  refine e_aload_n dX10_moves_22 rfl rfl ?_
  refine e_getI dX10_moves_23 fl_RX10_316 (Ms.s 89 rfl) (Ms.n (by decide)) rfl ?_
  refine e_int (nI (k + 1)) (by rw [fI_I, if_pos ⟨rfl, rfl⟩]) ?_
  refine e_iconst (nI 1) dX10_moves_26 (by decide) ?_
  refine e_isub dX10_moves_27 ?_
  refine e_int (nI k) (by rw [pk_sub (by omega)]; rfl) ?_
  refine e_iaload k dX10_moves_28 (Ms.s _ (fsh_kept _ (by omega))) (Ms.n (by omega)) rfl (by omega) (by decide) ?_
  refine e_int (fI σ (296 + j) k) (by rw [fI_I, if_neg (by omega)]) ?_
  exact e_ireturn .int dX10_moves_29 rfl rfl h
set_option maxRecDepth 20000 in
theorem l_X10_mvT0 {g : fGP} {d : Nat} {Q : fRes → fAH → Prop} {j : Nat} {σ0 : fAH} (hj : j < 3) : ∀ (n i : Nat) (σ : fAH) (o4 : Option Value), i + n = 12 → fJ0 g j σ0 σ (339 + 4 * i) → (∀ σ', fJ0 g j σ0 σ' 387 → Q (.inl none) σ') → fEv g (d + 1) mX10_movesAll 171 [some (.ref 89), some (.ref (296 + j)), some (.int (nI 0)), some (.int (nI i)), o4] [] σ Q := by
  intro n
  induction n with
  | zero =>
    intro i σ o4 hin J h
    refine e_iload_n dX10_movesAll_171 rfl rfl ?_
    refine e_bipush (nI 12) dX10_movesAll_172 (by decide) ?_
    refine e_icmp_ge 222 dX10_movesAll_174 (by decide) (fun cz => ?_) (fun cz => absurd ((nI_le' (by omega) (by omega)).mpr (by omega)) cz)
    exact e_return dX10_movesAll_222 rfl (h σ (by rw [show i = 12 by omega] at J; exact J))
  | succ n ih =>
    intro i σ o4 hin J h
    have hi : i < 12 := by omega
    refine e_iload_n dX10_movesAll_171 rfl rfl ?_
    refine e_bipush (nI 12) dX10_movesAll_172 (by decide) ?_
    refine e_icmp_ge 222 dX10_movesAll_174 (by decide) (fun cz => absurd ((nI_le' (by omega) (by omega)).mp cz) (by omega)) (fun cz => ?_)
    refine e_iconst (nI 0) dX10_movesAll_177 (by decide) ?_
    refine e_istore (L1 := [some (.ref 89), some (.ref (296 + j)), some (.int (nI 0)), some (.int (nI i)), some (.int (nI 0))]) dX10_movesAll_178 (by decide) rfl ?_
    refine e_iload dX10_movesAll_180 rfl ?_
    refine e_iconst (nI 4) dX10_movesAll_182 (by decide) ?_
    refine e_icmp_ge 216 dX10_movesAll_183 (by decide) (fun c => absurd c (by decide)) (fun _ => ?_)
    refine e_aload_n dX10_movesAll_186 rfl rfl ?_
    refine e_getR (q := 282) dX10_movesAll_187 fl_RX10_64 (J.1.s 89 rfl) (J.1.n (by decide)) rfl (J.1.r 89 29 rfl) (by unfold fscr; omega) ?_
    refine e_iload_n dX10_movesAll_190 rfl rfl ?_
    refine e_aaload (q := 283 + i) i dX10_movesAll_191 (J.1.s 282 rfl) (by decide) (J.1.n (by decide)) rfl (by omega) (by decide) (J.1.r 282 _ (frf_trace _ (by omega))) (by unfold fscr; omega) ?_
    refine e_iload dX10_movesAll_192 rfl ?_
    refine e_aload_n dX10_movesAll_194 rfl rfl ?_
    refine e_aload_n dX10_movesAll_195 rfl rfl ?_
    refine e_aload_n dX10_movesAll_196 rfl rfl ?_
    refine e_getR (q := 282) dX10_movesAll_197 fl_RX10_64 (J.1.s 89 rfl) (J.1.n (by decide)) rfl (J.1.r 89 29 rfl) (by unfold fscr; omega) ?_
    refine e_iload_n dX10_movesAll_200 rfl rfl ?_
    refine e_aaload (q := 283 + i) i dX10_movesAll_201 (J.1.s 282 rfl) (by decide) (J.1.n (by decide)) rfl (by omega) (by decide) (J.1.r 282 _ (frf_trace _ (by omega))) (by unfold fscr; omega) ?_
    refine e_iload dX10_movesAll_202 rfl ?_
    refine e_iaload 0 dX10_movesAll_204 (J.1.s _ (fsh_trace _ (by omega))) (J.1.n (by omega)) rfl (by omega) (by decide) ?_
    refine e_iload_n dX10_movesAll_205 rfl rfl ?_
    refine e_callV (k := 89) [.ref (296 + j), .int (fI σ (283 + i) 0), .int (nI 0)] dX10_movesAll_206 cc_X10_moves lk_RX10_319 im_X10_moves se_X10_moves (by decide) (J.1.s 89 rfl) (J.1.n (by decide)) rfl (Nat.le_of_ble_eq_true rfl) (Nat.le_of_ble_eq_true rfl) ?_
    refine t_X10_moves0 (k := 339 + 4 * i) J.1 hj (by omega) J.2.2.1 (fK_i ?_)
    show fEv g _ mX10_movesAll 209 [some (.ref 89), some (.ref (296 + j)), some (.int (nI 0)), some (.int (nI i)), some (.int (nI 0))] [.int (fI σ (283 + i) 0), .int (nI 0), .ref (283 + i)] (fsI (fsI σ (296 + j) (339 + 4 * i) (fI σ (283 + i) 0)) 89 25 (nI ((339 + 4 * i) + 1))) Q
    refine e_iastore 0 dX10_movesAll_209 (J.1.s _ (fsh_trace _ (by omega))) (J.1.n (by omega)) rfl (by omega) (by decide) ?_
    have J1 := mv0 (a := 283 + i) (q := 0) J (show 339 + 4 * i < 387 by omega) (by unfold mcA; rw [if_neg (by omega), if_neg (by omega), if_neg (by omega), if_neg (by omega)]; omega) (by unfold mcI; rw [if_neg (by omega), if_neg (by omega), if_neg (by omega), if_neg (by omega)]; omega)
    generalize fsI (fsI (fsI σ (296 + j) (339 + 4 * i) (fI σ (283 + i) 0)) 89 25 (nI ((339 + 4 * i) + 1))) (283 + i) 0 (fI σ (283 + i) 0) = σ1 at J1 ⊢
    refine e_iinc (v := nI 1) (L1 := [some (.ref 89), some (.ref (296 + j)), some (.int (nI 0)), some (.int (nI i)), some (.int (nI 1))]) dX10_movesAll_210 rfl (by decide) (by decide) rfl ?_
    refine e_goto 180 dX10_movesAll_213 (by decide) ?_
    refine e_iload dX10_movesAll_180 rfl ?_
    refine e_iconst (nI 4) dX10_movesAll_182 (by decide) ?_
    refine e_icmp_ge 216 dX10_movesAll_183 (by decide) (fun c => absurd c (by decide)) (fun _ => ?_)
    refine e_aload_n dX10_movesAll_186 rfl rfl ?_
    refine e_getR (q := 282) dX10_movesAll_187 fl_RX10_64 (J1.1.s 89 rfl) (J1.1.n (by decide)) rfl (J1.1.r 89 29 rfl) (by unfold fscr; omega) ?_
    refine e_iload_n dX10_movesAll_190 rfl rfl ?_
    refine e_aaload (q := 283 + i) i dX10_movesAll_191 (J1.1.s 282 rfl) (by decide) (J1.1.n (by decide)) rfl (by omega) (by decide) (J1.1.r 282 _ (frf_trace _ (by omega))) (by unfold fscr; omega) ?_
    refine e_iload dX10_movesAll_192 rfl ?_
    refine e_aload_n dX10_movesAll_194 rfl rfl ?_
    refine e_aload_n dX10_movesAll_195 rfl rfl ?_
    refine e_aload_n dX10_movesAll_196 rfl rfl ?_
    refine e_getR (q := 282) dX10_movesAll_197 fl_RX10_64 (J1.1.s 89 rfl) (J1.1.n (by decide)) rfl (J1.1.r 89 29 rfl) (by unfold fscr; omega) ?_
    refine e_iload_n dX10_movesAll_200 rfl rfl ?_
    refine e_aaload (q := 283 + i) i dX10_movesAll_201 (J1.1.s 282 rfl) (by decide) (J1.1.n (by decide)) rfl (by omega) (by decide) (J1.1.r 282 _ (frf_trace _ (by omega))) (by unfold fscr; omega) ?_
    refine e_iload dX10_movesAll_202 rfl ?_
    refine e_iaload 1 dX10_movesAll_204 (J1.1.s _ (fsh_trace _ (by omega))) (J1.1.n (by omega)) rfl (by omega) (by decide) ?_
    refine e_iload_n dX10_movesAll_205 rfl rfl ?_
    refine e_callV (k := 89) [.ref (296 + j), .int (fI σ1 (283 + i) 1), .int (nI 0)] dX10_movesAll_206 cc_X10_moves lk_RX10_319 im_X10_moves se_X10_moves (by decide) (J1.1.s 89 rfl) (J1.1.n (by decide)) rfl (Nat.le_of_ble_eq_true rfl) (Nat.le_of_ble_eq_true rfl) ?_
    refine t_X10_moves0 (k := 339 + 4 * i + 1) J1.1 hj (by omega) J1.2.2.1 (fK_i ?_)
    show fEv g _ mX10_movesAll 209 [some (.ref 89), some (.ref (296 + j)), some (.int (nI 0)), some (.int (nI i)), some (.int (nI 1))] [.int (fI σ1 (283 + i) 1), .int (nI 1), .ref (283 + i)] (fsI (fsI σ1 (296 + j) (339 + 4 * i + 1) (fI σ1 (283 + i) 1)) 89 25 (nI ((339 + 4 * i + 1) + 1))) Q
    refine e_iastore 1 dX10_movesAll_209 (J1.1.s _ (fsh_trace _ (by omega))) (J1.1.n (by omega)) rfl (by omega) (by decide) ?_
    have J2 := mv0 (a := 283 + i) (q := 1) J1 (show 339 + 4 * i + 1 < 387 by omega) (by unfold mcA; rw [if_neg (by omega), if_neg (by omega), if_neg (by omega), if_neg (by omega)]; omega) (by unfold mcI; rw [if_neg (by omega), if_neg (by omega), if_neg (by omega), if_neg (by omega)]; omega)
    generalize fsI (fsI (fsI σ1 (296 + j) (339 + 4 * i + 1) (fI σ1 (283 + i) 1)) 89 25 (nI ((339 + 4 * i + 1) + 1))) (283 + i) 1 (fI σ1 (283 + i) 1) = σ2 at J2 ⊢
    refine e_iinc (v := nI 2) (L1 := [some (.ref 89), some (.ref (296 + j)), some (.int (nI 0)), some (.int (nI i)), some (.int (nI 2))]) dX10_movesAll_210 rfl (by decide) (by decide) rfl ?_
    refine e_goto 180 dX10_movesAll_213 (by decide) ?_
    refine e_iload dX10_movesAll_180 rfl ?_
    refine e_iconst (nI 4) dX10_movesAll_182 (by decide) ?_
    refine e_icmp_ge 216 dX10_movesAll_183 (by decide) (fun c => absurd c (by decide)) (fun _ => ?_)
    refine e_aload_n dX10_movesAll_186 rfl rfl ?_
    refine e_getR (q := 282) dX10_movesAll_187 fl_RX10_64 (J2.1.s 89 rfl) (J2.1.n (by decide)) rfl (J2.1.r 89 29 rfl) (by unfold fscr; omega) ?_
    refine e_iload_n dX10_movesAll_190 rfl rfl ?_
    refine e_aaload (q := 283 + i) i dX10_movesAll_191 (J2.1.s 282 rfl) (by decide) (J2.1.n (by decide)) rfl (by omega) (by decide) (J2.1.r 282 _ (frf_trace _ (by omega))) (by unfold fscr; omega) ?_
    refine e_iload dX10_movesAll_192 rfl ?_
    refine e_aload_n dX10_movesAll_194 rfl rfl ?_
    refine e_aload_n dX10_movesAll_195 rfl rfl ?_
    refine e_aload_n dX10_movesAll_196 rfl rfl ?_
    refine e_getR (q := 282) dX10_movesAll_197 fl_RX10_64 (J2.1.s 89 rfl) (J2.1.n (by decide)) rfl (J2.1.r 89 29 rfl) (by unfold fscr; omega) ?_
    refine e_iload_n dX10_movesAll_200 rfl rfl ?_
    refine e_aaload (q := 283 + i) i dX10_movesAll_201 (J2.1.s 282 rfl) (by decide) (J2.1.n (by decide)) rfl (by omega) (by decide) (J2.1.r 282 _ (frf_trace _ (by omega))) (by unfold fscr; omega) ?_
    refine e_iload dX10_movesAll_202 rfl ?_
    refine e_iaload 2 dX10_movesAll_204 (J2.1.s _ (fsh_trace _ (by omega))) (J2.1.n (by omega)) rfl (by omega) (by decide) ?_
    refine e_iload_n dX10_movesAll_205 rfl rfl ?_
    refine e_callV (k := 89) [.ref (296 + j), .int (fI σ2 (283 + i) 2), .int (nI 0)] dX10_movesAll_206 cc_X10_moves lk_RX10_319 im_X10_moves se_X10_moves (by decide) (J2.1.s 89 rfl) (J2.1.n (by decide)) rfl (Nat.le_of_ble_eq_true rfl) (Nat.le_of_ble_eq_true rfl) ?_
    refine t_X10_moves0 (k := 339 + 4 * i + 2) J2.1 hj (by omega) J2.2.2.1 (fK_i ?_)
    show fEv g _ mX10_movesAll 209 [some (.ref 89), some (.ref (296 + j)), some (.int (nI 0)), some (.int (nI i)), some (.int (nI 2))] [.int (fI σ2 (283 + i) 2), .int (nI 2), .ref (283 + i)] (fsI (fsI σ2 (296 + j) (339 + 4 * i + 2) (fI σ2 (283 + i) 2)) 89 25 (nI ((339 + 4 * i + 2) + 1))) Q
    refine e_iastore 2 dX10_movesAll_209 (J2.1.s _ (fsh_trace _ (by omega))) (J2.1.n (by omega)) rfl (by omega) (by decide) ?_
    have J3 := mv0 (a := 283 + i) (q := 2) J2 (show 339 + 4 * i + 2 < 387 by omega) (by unfold mcA; rw [if_neg (by omega), if_neg (by omega), if_neg (by omega), if_neg (by omega)]; omega) (by unfold mcI; rw [if_neg (by omega), if_neg (by omega), if_neg (by omega), if_neg (by omega)]; omega)
    generalize fsI (fsI (fsI σ2 (296 + j) (339 + 4 * i + 2) (fI σ2 (283 + i) 2)) 89 25 (nI ((339 + 4 * i + 2) + 1))) (283 + i) 2 (fI σ2 (283 + i) 2) = σ3 at J3 ⊢
    refine e_iinc (v := nI 3) (L1 := [some (.ref 89), some (.ref (296 + j)), some (.int (nI 0)), some (.int (nI i)), some (.int (nI 3))]) dX10_movesAll_210 rfl (by decide) (by decide) rfl ?_
    refine e_goto 180 dX10_movesAll_213 (by decide) ?_
    refine e_iload dX10_movesAll_180 rfl ?_
    refine e_iconst (nI 4) dX10_movesAll_182 (by decide) ?_
    refine e_icmp_ge 216 dX10_movesAll_183 (by decide) (fun c => absurd c (by decide)) (fun _ => ?_)
    refine e_aload_n dX10_movesAll_186 rfl rfl ?_
    refine e_getR (q := 282) dX10_movesAll_187 fl_RX10_64 (J3.1.s 89 rfl) (J3.1.n (by decide)) rfl (J3.1.r 89 29 rfl) (by unfold fscr; omega) ?_
    refine e_iload_n dX10_movesAll_190 rfl rfl ?_
    refine e_aaload (q := 283 + i) i dX10_movesAll_191 (J3.1.s 282 rfl) (by decide) (J3.1.n (by decide)) rfl (by omega) (by decide) (J3.1.r 282 _ (frf_trace _ (by omega))) (by unfold fscr; omega) ?_
    refine e_iload dX10_movesAll_192 rfl ?_
    refine e_aload_n dX10_movesAll_194 rfl rfl ?_
    refine e_aload_n dX10_movesAll_195 rfl rfl ?_
    refine e_aload_n dX10_movesAll_196 rfl rfl ?_
    refine e_getR (q := 282) dX10_movesAll_197 fl_RX10_64 (J3.1.s 89 rfl) (J3.1.n (by decide)) rfl (J3.1.r 89 29 rfl) (by unfold fscr; omega) ?_
    refine e_iload_n dX10_movesAll_200 rfl rfl ?_
    refine e_aaload (q := 283 + i) i dX10_movesAll_201 (J3.1.s 282 rfl) (by decide) (J3.1.n (by decide)) rfl (by omega) (by decide) (J3.1.r 282 _ (frf_trace _ (by omega))) (by unfold fscr; omega) ?_
    refine e_iload dX10_movesAll_202 rfl ?_
    refine e_iaload 3 dX10_movesAll_204 (J3.1.s _ (fsh_trace _ (by omega))) (J3.1.n (by omega)) rfl (by omega) (by decide) ?_
    refine e_iload_n dX10_movesAll_205 rfl rfl ?_
    refine e_callV (k := 89) [.ref (296 + j), .int (fI σ3 (283 + i) 3), .int (nI 0)] dX10_movesAll_206 cc_X10_moves lk_RX10_319 im_X10_moves se_X10_moves (by decide) (J3.1.s 89 rfl) (J3.1.n (by decide)) rfl (Nat.le_of_ble_eq_true rfl) (Nat.le_of_ble_eq_true rfl) ?_
    refine t_X10_moves0 (k := 339 + 4 * i + 3) J3.1 hj (by omega) J3.2.2.1 (fK_i ?_)
    show fEv g _ mX10_movesAll 209 [some (.ref 89), some (.ref (296 + j)), some (.int (nI 0)), some (.int (nI i)), some (.int (nI 3))] [.int (fI σ3 (283 + i) 3), .int (nI 3), .ref (283 + i)] (fsI (fsI σ3 (296 + j) (339 + 4 * i + 3) (fI σ3 (283 + i) 3)) 89 25 (nI ((339 + 4 * i + 3) + 1))) Q
    refine e_iastore 3 dX10_movesAll_209 (J3.1.s _ (fsh_trace _ (by omega))) (J3.1.n (by omega)) rfl (by omega) (by decide) ?_
    have J4 := mv0 (a := 283 + i) (q := 3) J3 (show 339 + 4 * i + 3 < 387 by omega) (by unfold mcA; rw [if_neg (by omega), if_neg (by omega), if_neg (by omega), if_neg (by omega)]; omega) (by unfold mcI; rw [if_neg (by omega), if_neg (by omega), if_neg (by omega), if_neg (by omega)]; omega)
    generalize fsI (fsI (fsI σ3 (296 + j) (339 + 4 * i + 3) (fI σ3 (283 + i) 3)) 89 25 (nI ((339 + 4 * i + 3) + 1))) (283 + i) 3 (fI σ3 (283 + i) 3) = σ4 at J4 ⊢
    refine e_iinc (v := nI 4) (L1 := [some (.ref 89), some (.ref (296 + j)), some (.int (nI 0)), some (.int (nI i)), some (.int (nI 4))]) dX10_movesAll_210 rfl (by decide) (by decide) rfl ?_
    refine e_goto 180 dX10_movesAll_213 (by decide) ?_
    refine e_iload dX10_movesAll_180 rfl ?_
    refine e_iconst (nI 4) dX10_movesAll_182 (by decide) ?_
    refine e_icmp_ge 216 dX10_movesAll_183 (by decide) (fun _ => ?_) (fun c => absurd c (by decide))
    refine e_iinc (v := nI (i + 1)) (L1 := [some (.ref 89), some (.ref (296 + j)), some (.int (nI 0)), some (.int (nI (i + 1))), some (.int (nI 4))]) dX10_movesAll_216 rfl (show nI i + Int32.ofInt 1 = nI (i + 1) from nI_add i 1) (by decide) rfl ?_
    refine e_goto 171 dX10_movesAll_219 (by decide) ?_
    exact ih (i + 1) σ4 _ (by omega) J4 h
set_option maxRecDepth 20000 in
theorem l_X10_mvR0 {g : fGP} {d : Nat} {Q : fRes → fAH → Prop} {j : Nat} {σ0 : fAH} (hj : j < 3) : ∀ (n i : Nat) (σ : fAH) (o4 : Option Value), i + n = 60 → fJ0 g j σ0 σ (219 + 2 * i) → (∀ σ', fJ0 g j σ0 σ' 387 → Q (.inl none) σ') → fEv g (d + 1) mX10_movesAll 118 [some (.ref 89), some (.ref (296 + j)), some (.int (nI 0)), some (.int (nI i)), o4] [] σ Q := by
  intro n
  induction n with
  | zero =>
    intro i σ o4 hin J h
    refine e_iload_n dX10_movesAll_118 rfl rfl ?_
    refine e_bipush (nI 60) dX10_movesAll_119 (by decide) ?_
    refine e_icmp_ge 169 dX10_movesAll_121 (by decide) (fun cz => ?_) (fun cz => absurd ((nI_le' (by omega) (by omega)).mpr (by omega)) cz)
    refine e_iconst (nI 0) dX10_movesAll_169 (by decide) ?_
    refine e_istore_n (L1 := [some (.ref 89), some (.ref (296 + j)), some (.int (nI 0)), some (.int (nI 0)), o4]) dX10_movesAll_170 rfl (by decide) rfl ?_
    exact l_X10_mvT0 hj 12 0 σ _ (by omega) (by rw [show i = 60 by omega] at J; exact J) h
  | succ n ih =>
    intro i σ o4 hin J h
    have hi : i < 60 := by omega
    refine e_iload_n dX10_movesAll_118 rfl rfl ?_
    refine e_bipush (nI 60) dX10_movesAll_119 (by decide) ?_
    refine e_icmp_ge 169 dX10_movesAll_121 (by decide) (fun cz => absurd ((nI_le' (by omega) (by omega)).mp cz) (by omega)) (fun cz => ?_)
    refine e_iconst (nI 0) dX10_movesAll_124 (by decide) ?_
    refine e_istore (L1 := [some (.ref 89), some (.ref (296 + j)), some (.int (nI 0)), some (.int (nI i)), some (.int (nI 0))]) dX10_movesAll_125 (by decide) rfl ?_
    refine e_iload dX10_movesAll_127 rfl ?_
    refine e_iconst (nI 2) dX10_movesAll_129 (by decide) ?_
    refine e_icmp_ge 163 dX10_movesAll_130 (by decide) (fun c => absurd c (by decide)) (fun _ => ?_)
    refine e_aload_n dX10_movesAll_133 rfl rfl ?_
    refine e_getR (q := 221) dX10_movesAll_134 fl_RX10_61 (J.1.s 89 rfl) (J.1.n (by decide)) rfl (J.1.r 89 28 rfl) (by unfold fscr; omega) ?_
    refine e_iload_n dX10_movesAll_137 rfl rfl ?_
    refine e_aaload (q := 222 + i) i dX10_movesAll_138 (J.1.s 221 rfl) (by decide) (J.1.n (by decide)) rfl (by omega) (by decide) (J.1.r 221 _ (frf_record _ (by omega))) (by unfold fscr; omega) ?_
    refine e_iload dX10_movesAll_139 rfl ?_
    refine e_aload_n dX10_movesAll_141 rfl rfl ?_
    refine e_aload_n dX10_movesAll_142 rfl rfl ?_
    refine e_aload_n dX10_movesAll_143 rfl rfl ?_
    refine e_getR (q := 221) dX10_movesAll_144 fl_RX10_61 (J.1.s 89 rfl) (J.1.n (by decide)) rfl (J.1.r 89 28 rfl) (by unfold fscr; omega) ?_
    refine e_iload_n dX10_movesAll_147 rfl rfl ?_
    refine e_aaload (q := 222 + i) i dX10_movesAll_148 (J.1.s 221 rfl) (by decide) (J.1.n (by decide)) rfl (by omega) (by decide) (J.1.r 221 _ (frf_record _ (by omega))) (by unfold fscr; omega) ?_
    refine e_iload dX10_movesAll_149 rfl ?_
    refine e_iaload 0 dX10_movesAll_151 (J.1.s _ (fsh_record _ (by omega))) (J.1.n (by omega)) rfl (by omega) (by decide) ?_
    refine e_iload_n dX10_movesAll_152 rfl rfl ?_
    refine e_callV (k := 89) [.ref (296 + j), .int (fI σ (222 + i) 0), .int (nI 0)] dX10_movesAll_153 cc_X10_moves lk_RX10_319 im_X10_moves se_X10_moves (by decide) (J.1.s 89 rfl) (J.1.n (by decide)) rfl (Nat.le_of_ble_eq_true rfl) (Nat.le_of_ble_eq_true rfl) ?_
    refine t_X10_moves0 (k := 219 + 2 * i) J.1 hj (by omega) J.2.2.1 (fK_i ?_)
    show fEv g _ mX10_movesAll 156 [some (.ref 89), some (.ref (296 + j)), some (.int (nI 0)), some (.int (nI i)), some (.int (nI 0))] [.int (fI σ (222 + i) 0), .int (nI 0), .ref (222 + i)] (fsI (fsI σ (296 + j) (219 + 2 * i) (fI σ (222 + i) 0)) 89 25 (nI ((219 + 2 * i) + 1))) Q
    refine e_iastore 0 dX10_movesAll_156 (J.1.s _ (fsh_record _ (by omega))) (J.1.n (by omega)) rfl (by omega) (by decide) ?_
    have J1 := mv0 (a := 222 + i) (q := 0) J (show 219 + 2 * i < 387 by omega) (by unfold mcA; rw [if_neg (by omega), if_neg (by omega), if_neg (by omega), if_pos (by omega)]; omega) (by unfold mcI; rw [if_neg (by omega), if_neg (by omega), if_neg (by omega), if_pos (by omega)]; omega)
    generalize fsI (fsI (fsI σ (296 + j) (219 + 2 * i) (fI σ (222 + i) 0)) 89 25 (nI ((219 + 2 * i) + 1))) (222 + i) 0 (fI σ (222 + i) 0) = σ1 at J1 ⊢
    refine e_iinc (v := nI 1) (L1 := [some (.ref 89), some (.ref (296 + j)), some (.int (nI 0)), some (.int (nI i)), some (.int (nI 1))]) dX10_movesAll_157 rfl (by decide) (by decide) rfl ?_
    refine e_goto 127 dX10_movesAll_160 (by decide) ?_
    refine e_iload dX10_movesAll_127 rfl ?_
    refine e_iconst (nI 2) dX10_movesAll_129 (by decide) ?_
    refine e_icmp_ge 163 dX10_movesAll_130 (by decide) (fun c => absurd c (by decide)) (fun _ => ?_)
    refine e_aload_n dX10_movesAll_133 rfl rfl ?_
    refine e_getR (q := 221) dX10_movesAll_134 fl_RX10_61 (J1.1.s 89 rfl) (J1.1.n (by decide)) rfl (J1.1.r 89 28 rfl) (by unfold fscr; omega) ?_
    refine e_iload_n dX10_movesAll_137 rfl rfl ?_
    refine e_aaload (q := 222 + i) i dX10_movesAll_138 (J1.1.s 221 rfl) (by decide) (J1.1.n (by decide)) rfl (by omega) (by decide) (J1.1.r 221 _ (frf_record _ (by omega))) (by unfold fscr; omega) ?_
    refine e_iload dX10_movesAll_139 rfl ?_
    refine e_aload_n dX10_movesAll_141 rfl rfl ?_
    refine e_aload_n dX10_movesAll_142 rfl rfl ?_
    refine e_aload_n dX10_movesAll_143 rfl rfl ?_
    refine e_getR (q := 221) dX10_movesAll_144 fl_RX10_61 (J1.1.s 89 rfl) (J1.1.n (by decide)) rfl (J1.1.r 89 28 rfl) (by unfold fscr; omega) ?_
    refine e_iload_n dX10_movesAll_147 rfl rfl ?_
    refine e_aaload (q := 222 + i) i dX10_movesAll_148 (J1.1.s 221 rfl) (by decide) (J1.1.n (by decide)) rfl (by omega) (by decide) (J1.1.r 221 _ (frf_record _ (by omega))) (by unfold fscr; omega) ?_
    refine e_iload dX10_movesAll_149 rfl ?_
    refine e_iaload 1 dX10_movesAll_151 (J1.1.s _ (fsh_record _ (by omega))) (J1.1.n (by omega)) rfl (by omega) (by decide) ?_
    refine e_iload_n dX10_movesAll_152 rfl rfl ?_
    refine e_callV (k := 89) [.ref (296 + j), .int (fI σ1 (222 + i) 1), .int (nI 0)] dX10_movesAll_153 cc_X10_moves lk_RX10_319 im_X10_moves se_X10_moves (by decide) (J1.1.s 89 rfl) (J1.1.n (by decide)) rfl (Nat.le_of_ble_eq_true rfl) (Nat.le_of_ble_eq_true rfl) ?_
    refine t_X10_moves0 (k := 219 + 2 * i + 1) J1.1 hj (by omega) J1.2.2.1 (fK_i ?_)
    show fEv g _ mX10_movesAll 156 [some (.ref 89), some (.ref (296 + j)), some (.int (nI 0)), some (.int (nI i)), some (.int (nI 1))] [.int (fI σ1 (222 + i) 1), .int (nI 1), .ref (222 + i)] (fsI (fsI σ1 (296 + j) (219 + 2 * i + 1) (fI σ1 (222 + i) 1)) 89 25 (nI ((219 + 2 * i + 1) + 1))) Q
    refine e_iastore 1 dX10_movesAll_156 (J1.1.s _ (fsh_record _ (by omega))) (J1.1.n (by omega)) rfl (by omega) (by decide) ?_
    have J2 := mv0 (a := 222 + i) (q := 1) J1 (show 219 + 2 * i + 1 < 387 by omega) (by unfold mcA; rw [if_neg (by omega), if_neg (by omega), if_neg (by omega), if_pos (by omega)]; omega) (by unfold mcI; rw [if_neg (by omega), if_neg (by omega), if_neg (by omega), if_pos (by omega)]; omega)
    generalize fsI (fsI (fsI σ1 (296 + j) (219 + 2 * i + 1) (fI σ1 (222 + i) 1)) 89 25 (nI ((219 + 2 * i + 1) + 1))) (222 + i) 1 (fI σ1 (222 + i) 1) = σ2 at J2 ⊢
    refine e_iinc (v := nI 2) (L1 := [some (.ref 89), some (.ref (296 + j)), some (.int (nI 0)), some (.int (nI i)), some (.int (nI 2))]) dX10_movesAll_157 rfl (by decide) (by decide) rfl ?_
    refine e_goto 127 dX10_movesAll_160 (by decide) ?_
    refine e_iload dX10_movesAll_127 rfl ?_
    refine e_iconst (nI 2) dX10_movesAll_129 (by decide) ?_
    refine e_icmp_ge 163 dX10_movesAll_130 (by decide) (fun _ => ?_) (fun c => absurd c (by decide))
    refine e_iinc (v := nI (i + 1)) (L1 := [some (.ref 89), some (.ref (296 + j)), some (.int (nI 0)), some (.int (nI (i + 1))), some (.int (nI 2))]) dX10_movesAll_163 rfl (show nI i + Int32.ofInt 1 = nI (i + 1) from nI_add i 1) (by decide) rfl ?_
    refine e_goto 118 dX10_movesAll_166 (by decide) ?_
    exact ih (i + 1) σ2 _ (by omega) J2 h
set_option maxRecDepth 20000 in
theorem l_X10_mvP0 {g : fGP} {d : Nat} {Q : fRes → fAH → Prop} {j : Nat} {σ0 : fAH} (hj : j < 3) : ∀ (n i : Nat) (σ : fAH) (o4 : Option Value), i + n = 30 → fJ0 g j σ0 σ (159 + 2 * i) → (∀ σ', fJ0 g j σ0 σ' 387 → Q (.inl none) σ') → fEv g (d + 1) mX10_movesAll 68 [some (.ref 89), some (.ref (296 + j)), some (.int (nI 0)), some (.int (nI i)), o4] [] σ Q := by
  intro n
  induction n with
  | zero =>
    intro i σ o4 hin J h
    refine e_iload_n dX10_movesAll_68 rfl rfl ?_
    refine e_bipush (nI 30) dX10_movesAll_69 (by decide) ?_
    refine e_icmp_ge 116 dX10_movesAll_71 (by decide) (fun cz => ?_) (fun cz => absurd ((nI_le' (by omega) (by omega)).mpr (by omega)) cz)
    refine e_iconst (nI 0) dX10_movesAll_116 (by decide) ?_
    refine e_istore_n (L1 := [some (.ref 89), some (.ref (296 + j)), some (.int (nI 0)), some (.int (nI 0)), o4]) dX10_movesAll_117 rfl (by decide) rfl ?_
    exact l_X10_mvR0 hj 60 0 σ _ (by omega) (by rw [show i = 30 by omega] at J; exact J) h
  | succ n ih =>
    intro i σ o4 hin J h
    have hi : i < 30 := by omega
    refine e_iload_n dX10_movesAll_68 rfl rfl ?_
    refine e_bipush (nI 30) dX10_movesAll_69 (by decide) ?_
    refine e_icmp_ge 116 dX10_movesAll_71 (by decide) (fun cz => absurd ((nI_le' (by omega) (by omega)).mp cz) (by omega)) (fun cz => ?_)
    refine e_aload_n dX10_movesAll_74 rfl rfl ?_
    refine e_getR (q := 219) dX10_movesAll_75 fl_RX10_55 (J.1.s 89 rfl) (J.1.n (by decide)) rfl (J.1.r 89 26 rfl) (by unfold fscr; omega) ?_
    refine e_iload_n dX10_movesAll_78 rfl rfl ?_
    refine e_aload_n dX10_movesAll_79 rfl rfl ?_
    refine e_aload_n dX10_movesAll_80 rfl rfl ?_
    refine e_aload_n dX10_movesAll_81 rfl rfl ?_
    refine e_getR (q := 219) dX10_movesAll_82 fl_RX10_55 (J.1.s 89 rfl) (J.1.n (by decide)) rfl (J.1.r 89 26 rfl) (by unfold fscr; omega) ?_
    refine e_iload_n dX10_movesAll_85 rfl rfl ?_
    refine e_iaload i dX10_movesAll_86 (J.1.s 219 rfl) (J.1.n (by decide)) rfl (by omega) (by decide) ?_
    refine e_iload_n dX10_movesAll_87 rfl rfl ?_
    refine e_callV (k := 89) [.ref (296 + j), .int (fI σ 219 i), .int (nI 0)] dX10_movesAll_88 cc_X10_moves lk_RX10_319 im_X10_moves se_X10_moves (by decide) (J.1.s 89 rfl) (J.1.n (by decide)) rfl (Nat.le_of_ble_eq_true rfl) (Nat.le_of_ble_eq_true rfl) ?_
    refine t_X10_moves0 (k := 159 + 2 * i) J.1 hj (by omega) J.2.2.1 (fK_i ?_)
    show fEv g _ mX10_movesAll 91 [some (.ref 89), some (.ref (296 + j)), some (.int (nI 0)), some (.int (nI i)), o4] [.int (fI σ 219 i), .int (nI i), .ref 219] (fsI (fsI σ (296 + j) (159 + 2 * i) (fI σ 219 i)) 89 25 (nI ((159 + 2 * i) + 1))) Q
    refine e_iastore i dX10_movesAll_91 (J.1.s 219 rfl) (J.1.n (by decide)) rfl (by omega) (by decide) ?_
    have J1 := mv0 (a := 219) (q := i) J (show 159 + 2 * i < 387 by omega) (by unfold mcA; rw [if_neg (by omega), if_neg (by omega), if_pos (by omega)]; omega) (by unfold mcI; rw [if_neg (by omega), if_neg (by omega), if_pos (by omega)]; omega)
    generalize fsI (fsI (fsI σ (296 + j) (159 + 2 * i) (fI σ 219 i)) 89 25 (nI ((159 + 2 * i) + 1))) 219 i (fI σ 219 i) = σ1 at J1 ⊢
    refine e_aload_n dX10_movesAll_92 rfl rfl ?_
    refine e_getR (q := 220) dX10_movesAll_93 fl_RX10_58 (J1.1.s 89 rfl) (J1.1.n (by decide)) rfl (J1.1.r 89 27 rfl) (by unfold fscr; omega) ?_
    refine e_iload_n dX10_movesAll_96 rfl rfl ?_
    refine e_aload_n dX10_movesAll_97 rfl rfl ?_
    refine e_aload_n dX10_movesAll_98 rfl rfl ?_
    refine e_aload_n dX10_movesAll_99 rfl rfl ?_
    refine e_getR (q := 220) dX10_movesAll_100 fl_RX10_58 (J1.1.s 89 rfl) (J1.1.n (by decide)) rfl (J1.1.r 89 27 rfl) (by unfold fscr; omega) ?_
    refine e_iload_n dX10_movesAll_103 rfl rfl ?_
    refine e_iaload i dX10_movesAll_104 (J1.1.s 220 rfl) (J1.1.n (by decide)) rfl (by omega) (by decide) ?_
    refine e_iload_n dX10_movesAll_105 rfl rfl ?_
    refine e_callV (k := 89) [.ref (296 + j), .int (fI σ1 220 i), .int (nI 0)] dX10_movesAll_106 cc_X10_moves lk_RX10_319 im_X10_moves se_X10_moves (by decide) (J1.1.s 89 rfl) (J1.1.n (by decide)) rfl (Nat.le_of_ble_eq_true rfl) (Nat.le_of_ble_eq_true rfl) ?_
    refine t_X10_moves0 (k := 159 + 2 * i + 1) J1.1 hj (by omega) J1.2.2.1 (fK_i ?_)
    show fEv g _ mX10_movesAll 109 [some (.ref 89), some (.ref (296 + j)), some (.int (nI 0)), some (.int (nI i)), o4] [.int (fI σ1 220 i), .int (nI i), .ref 220] (fsI (fsI σ1 (296 + j) (159 + 2 * i + 1) (fI σ1 220 i)) 89 25 (nI ((159 + 2 * i + 1) + 1))) Q
    refine e_iastore i dX10_movesAll_109 (J1.1.s 220 rfl) (J1.1.n (by decide)) rfl (by omega) (by decide) ?_
    have J2 := mv0 (a := 220) (q := i) J1 (show 159 + 2 * i + 1 < 387 by omega) (by unfold mcA; rw [if_neg (by omega), if_neg (by omega), if_pos (by omega)]; omega) (by unfold mcI; rw [if_neg (by omega), if_neg (by omega), if_pos (by omega)]; omega)
    generalize fsI (fsI (fsI σ1 (296 + j) (159 + 2 * i + 1) (fI σ1 220 i)) 89 25 (nI ((159 + 2 * i + 1) + 1))) 220 i (fI σ1 220 i) = σ2 at J2 ⊢
    refine e_iinc (v := nI (i + 1)) (L1 := [some (.ref 89), some (.ref (296 + j)), some (.int (nI 0)), some (.int (nI (i + 1))), o4]) dX10_movesAll_110 rfl (show nI i + Int32.ofInt 1 = nI (i + 1) from nI_add i 1) (by decide) rfl ?_
    refine e_goto 68 dX10_movesAll_113 (by decide) ?_
    exact ih (i + 1) σ2 _ (by omega) J2 h
set_option maxRecDepth 20000 in
theorem l_X10_mvS0 {g : fGP} {d : Nat} {Q : fRes → fAH → Prop} {j : Nat} {σ0 : fAH} (hj : j < 3) : ∀ (n i : Nat) (σ : fAH) (o4 : Option Value), i + n = 157 → fJ0 g j σ0 σ i → (∀ σ', fJ0 g j σ0 σ' 387 → Q (.inl none) σ') → fEv g (d + 1) mX10_movesAll 7 [some (.ref 89), some (.ref (296 + j)), some (.int (nI 0)), some (.int (nI i)), o4] [] σ Q := by
  intro n
  induction n with
  | zero =>
    intro i σ o4 hin J h
    refine e_iload_n dX10_movesAll_7 rfl rfl ?_
    refine e_sipush (nI 157) dX10_movesAll_8 (by decide) ?_
    refine e_icmp_ge 38 dX10_movesAll_11 (by decide) (fun cz => ?_) (fun cz => absurd ((nI_le' (by omega) (by omega)).mpr (by omega)) cz)
    rw [show i = 157 by omega] at J
    refine e_aload_n dX10_movesAll_38 rfl rfl ?_
    refine e_aload_n dX10_movesAll_39 rfl rfl ?_
    refine e_aload_n dX10_movesAll_40 rfl rfl ?_
    refine e_aload_n dX10_movesAll_41 rfl rfl ?_
    refine e_getI dX10_movesAll_42 fl_RX10_159 (J.1.s 89 rfl) (J.1.n (by decide)) rfl ?_
    refine e_iload_n dX10_movesAll_45 rfl rfl ?_
    refine e_callV (k := 89) [.ref (296 + j), .int (fI σ 89 22), .int (nI 0)] dX10_movesAll_46 cc_X10_moves lk_RX10_319 im_X10_moves se_X10_moves (by decide) (J.1.s 89 rfl) (J.1.n (by decide)) rfl (Nat.le_of_ble_eq_true rfl) (Nat.le_of_ble_eq_true rfl) ?_
    refine t_X10_moves0 (k := 157) J.1 hj (by omega) J.2.2.1 (fK_i ?_)
    show fEv g _ mX10_movesAll 49 [some (.ref 89), some (.ref (296 + j)), some (.int (nI 0)), some (.int (nI i)), o4] [.int (fI σ 89 22), .ref 89] (fsI (fsI σ (296 + j) 157 (fI σ 89 22)) 89 25 (nI (157 + 1))) Q
    refine e_putI dX10_movesAll_49 fl_RX10_159 (J.1.s 89 rfl) (J.1.n (by decide)) rfl rfl ?_
    have J1 := mv0 (a := 89) (q := 22) J (show 157 < 387 by omega) (by decide) (by decide)
    generalize fsI (fsI (fsI σ (296 + j) 157 (fI σ 89 22)) 89 25 (nI (157 + 1))) 89 22 (fI σ 89 22) = σ1 at J1 ⊢
    refine e_aload_n dX10_movesAll_52 rfl rfl ?_
    refine e_aload_n dX10_movesAll_53 rfl rfl ?_
    refine e_aload_n dX10_movesAll_54 rfl rfl ?_
    refine e_aload_n dX10_movesAll_55 rfl rfl ?_
    refine e_getI dX10_movesAll_56 fl_RX10_162 (J1.1.s 89 rfl) (J1.1.n (by decide)) rfl ?_
    refine e_iload_n dX10_movesAll_59 rfl rfl ?_
    refine e_callV (k := 89) [.ref (296 + j), .int (fI σ1 89 23), .int (nI 0)] dX10_movesAll_60 cc_X10_moves lk_RX10_319 im_X10_moves se_X10_moves (by decide) (J1.1.s 89 rfl) (J1.1.n (by decide)) rfl (Nat.le_of_ble_eq_true rfl) (Nat.le_of_ble_eq_true rfl) ?_
    refine t_X10_moves0 (k := 158) J1.1 hj (by omega) J1.2.2.1 (fK_i ?_)
    show fEv g _ mX10_movesAll 63 [some (.ref 89), some (.ref (296 + j)), some (.int (nI 0)), some (.int (nI i)), o4] [.int (fI σ1 89 23), .ref 89] (fsI (fsI σ1 (296 + j) 158 (fI σ1 89 23)) 89 25 (nI (158 + 1))) Q
    refine e_putI dX10_movesAll_63 fl_RX10_162 (J1.1.s 89 rfl) (J1.1.n (by decide)) rfl rfl ?_
    have J2 := mv0 (a := 89) (q := 23) J1 (show 158 < 387 by omega) (by decide) (by decide)
    generalize fsI (fsI (fsI σ1 (296 + j) 158 (fI σ1 89 23)) 89 25 (nI (158 + 1))) 89 23 (fI σ1 89 23) = σ2 at J2 ⊢
    refine e_iconst (nI 0) dX10_movesAll_66 (by decide) ?_
    refine e_istore_n (L1 := [some (.ref 89), some (.ref (296 + j)), some (.int (nI 0)), some (.int (nI 0)), o4]) dX10_movesAll_67 rfl (by decide) rfl ?_
    exact l_X10_mvP0 hj 30 0 σ2 _ (by omega) J2 h
  | succ n ih =>
    intro i σ o4 hin J h
    have hi : i < 157 := by omega
    refine e_iload_n dX10_movesAll_7 rfl rfl ?_
    refine e_sipush (nI 157) dX10_movesAll_8 (by decide) ?_
    refine e_icmp_ge 38 dX10_movesAll_11 (by decide) (fun cz => absurd ((nI_le' (by omega) (by omega)).mp cz) (by omega)) (fun cz => ?_)
    refine e_aload_n dX10_movesAll_14 rfl rfl ?_
    refine e_getR (q := 197) dX10_movesAll_15 fl_RX10_49 (J.1.s 89 rfl) (J.1.n (by decide)) rfl (J.1.r 89 19 rfl) (by unfold fscr; omega) ?_
    refine e_iload_n dX10_movesAll_18 rfl rfl ?_
    refine e_aload_n dX10_movesAll_19 rfl rfl ?_
    refine e_aload_n dX10_movesAll_20 rfl rfl ?_
    refine e_aload_n dX10_movesAll_21 rfl rfl ?_
    refine e_getR (q := 197) dX10_movesAll_22 fl_RX10_49 (J.1.s 89 rfl) (J.1.n (by decide)) rfl (J.1.r 89 19 rfl) (by unfold fscr; omega) ?_
    refine e_iload_n dX10_movesAll_25 rfl rfl ?_
    refine e_iaload i dX10_movesAll_26 (J.1.s 197 rfl) (J.1.n (by decide)) rfl (by omega) (by decide) ?_
    refine e_iload_n dX10_movesAll_27 rfl rfl ?_
    refine e_callV (k := 89) [.ref (296 + j), .int (fI σ 197 i), .int (nI 0)] dX10_movesAll_28 cc_X10_moves lk_RX10_319 im_X10_moves se_X10_moves (by decide) (J.1.s 89 rfl) (J.1.n (by decide)) rfl (Nat.le_of_ble_eq_true rfl) (Nat.le_of_ble_eq_true rfl) ?_
    refine t_X10_moves0 (k := i) J.1 hj (by omega) J.2.2.1 (fK_i ?_)
    show fEv g _ mX10_movesAll 31 [some (.ref 89), some (.ref (296 + j)), some (.int (nI 0)), some (.int (nI i)), o4] [.int (fI σ 197 i), .int (nI i), .ref 197] (fsI (fsI σ (296 + j) i (fI σ 197 i)) 89 25 (nI (i + 1))) Q
    refine e_iastore i dX10_movesAll_31 (J.1.s 197 rfl) (J.1.n (by decide)) rfl (by omega) (by decide) ?_
    have J1 := mv0 (a := 197) (q := i) J (show i < 387 by omega) (by unfold mcA; rw [if_pos (by omega)]) (by unfold mcI; rw [if_pos (by omega)])
    generalize fsI (fsI (fsI σ (296 + j) i (fI σ 197 i)) 89 25 (nI (i + 1))) 197 i (fI σ 197 i) = σ1 at J1 ⊢
    refine e_iinc (v := nI (i + 1)) (L1 := [some (.ref 89), some (.ref (296 + j)), some (.int (nI 0)), some (.int (nI (i + 1))), o4]) dX10_movesAll_32 rfl (show nI i + Int32.ofInt 1 = nI (i + 1) from nI_add i 1) (by decide) rfl ?_
    refine e_goto 7 dX10_movesAll_35 (by decide) ?_
    exact ih (i + 1) σ1 _ (by omega) J1 h
set_option maxRecDepth 20000 in
theorem t_X10_movesAll0 {g : fGP} {d : Nat} {σ : fAH} {Q : fRes → fAH → Prop} {j : Nat} (Ms : fMs g σ) (hj : j < 3) (h : ∀ σ', fJ0 g j σ σ' 387 → Q (.inl none) σ') : fEv g (d + 1) mX10_movesAll 0 (fent [.ref 89, .ref (296 + j), .int (nI 0)] 5) [] σ Q := by
  show fEv g (d + 1) mX10_movesAll 0 [some (.ref 89), some (.ref (296 + j)), some (.int (nI 0)), none, none] [] σ Q
  refine e_aload_n dX10_movesAll_0 rfl rfl ?_
  refine e_iconst (nI 0) dX10_movesAll_1 (by decide) ?_
  refine e_putI dX10_movesAll_2 fl_RX10_316 (Ms.s 89 rfl) (Ms.n (by decide)) rfl rfl ?_
  refine e_iconst (nI 0) dX10_movesAll_5 (by decide) ?_
  refine e_istore_n (L1 := [some (.ref 89), some (.ref (296 + j)), some (.int (nI 0)), some (.int (nI 0)), none]) dX10_movesAll_6 rfl (by decide) rfl ?_
  have S9 : fSm (fMvA j) σ (fsI σ 89 25 (nI 0)) := fSm_I (Or.inl rfl)
  exact l_X10_mvS0 hj 157 0 (fsI σ 89 25 (nI 0)) _ (by omega) ⟨Ms.sm S9, S9, by rw [fI_I, if_pos ⟨rfl, rfl⟩], fun q hq => absurd hq (Nat.not_lt_zero _), fun a q _ hq => by rw [fI_I, if_neg hq]⟩ h
set_option maxRecDepth 20000 in
theorem l_X10_mvT1 {g : fGP} {d : Nat} {Q : fRes → fAH → Prop} {j : Nat} {σ0 : fAH} (hj : j < 3) : ∀ (n i : Nat) (σ : fAH) (o4 : Option Value), i + n = 12 → fJ1 g j σ0 σ (339 + 4 * i) → (∀ σ', fJ1 g j σ0 σ' 387 → Q (.inl none) σ') → fEv g (d + 1) mX10_movesAll 171 [some (.ref 89), some (.ref (296 + j)), some (.int (nI 1)), some (.int (nI i)), o4] [] σ Q := by
  intro n
  induction n with
  | zero =>
    intro i σ o4 hin J h
    refine e_iload_n dX10_movesAll_171 rfl rfl ?_
    refine e_bipush (nI 12) dX10_movesAll_172 (by decide) ?_
    refine e_icmp_ge 222 dX10_movesAll_174 (by decide) (fun cz => ?_) (fun cz => absurd ((nI_le' (by omega) (by omega)).mpr (by omega)) cz)
    exact e_return dX10_movesAll_222 rfl (h σ (by rw [show i = 12 by omega] at J; exact J))
  | succ n ih =>
    intro i σ o4 hin J h
    have hi : i < 12 := by omega
    refine e_iload_n dX10_movesAll_171 rfl rfl ?_
    refine e_bipush (nI 12) dX10_movesAll_172 (by decide) ?_
    refine e_icmp_ge 222 dX10_movesAll_174 (by decide) (fun cz => absurd ((nI_le' (by omega) (by omega)).mp cz) (by omega)) (fun cz => ?_)
    refine e_iconst (nI 0) dX10_movesAll_177 (by decide) ?_
    refine e_istore (L1 := [some (.ref 89), some (.ref (296 + j)), some (.int (nI 1)), some (.int (nI i)), some (.int (nI 0))]) dX10_movesAll_178 (by decide) rfl ?_
    refine e_iload dX10_movesAll_180 rfl ?_
    refine e_iconst (nI 4) dX10_movesAll_182 (by decide) ?_
    refine e_icmp_ge 216 dX10_movesAll_183 (by decide) (fun c => absurd c (by decide)) (fun _ => ?_)
    refine e_aload_n dX10_movesAll_186 rfl rfl ?_
    refine e_getR (q := 282) dX10_movesAll_187 fl_RX10_64 (J.1.s 89 rfl) (J.1.n (by decide)) rfl (J.1.r 89 29 rfl) (by unfold fscr; omega) ?_
    refine e_iload_n dX10_movesAll_190 rfl rfl ?_
    refine e_aaload (q := 283 + i) i dX10_movesAll_191 (J.1.s 282 rfl) (by decide) (J.1.n (by decide)) rfl (by omega) (by decide) (J.1.r 282 _ (frf_trace _ (by omega))) (by unfold fscr; omega) ?_
    refine e_iload dX10_movesAll_192 rfl ?_
    refine e_aload_n dX10_movesAll_194 rfl rfl ?_
    refine e_aload_n dX10_movesAll_195 rfl rfl ?_
    refine e_aload_n dX10_movesAll_196 rfl rfl ?_
    refine e_getR (q := 282) dX10_movesAll_197 fl_RX10_64 (J.1.s 89 rfl) (J.1.n (by decide)) rfl (J.1.r 89 29 rfl) (by unfold fscr; omega) ?_
    refine e_iload_n dX10_movesAll_200 rfl rfl ?_
    refine e_aaload (q := 283 + i) i dX10_movesAll_201 (J.1.s 282 rfl) (by decide) (J.1.n (by decide)) rfl (by omega) (by decide) (J.1.r 282 _ (frf_trace _ (by omega))) (by unfold fscr; omega) ?_
    refine e_iload dX10_movesAll_202 rfl ?_
    refine e_iaload 0 dX10_movesAll_204 (J.1.s _ (fsh_trace _ (by omega))) (J.1.n (by omega)) rfl (by omega) (by decide) ?_
    refine e_iload_n dX10_movesAll_205 rfl rfl ?_
    refine e_callV (k := 89) [.ref (296 + j), .int (fI σ (283 + i) 0), .int (nI 1)] dX10_movesAll_206 cc_X10_moves lk_RX10_319 im_X10_moves se_X10_moves (by decide) (J.1.s 89 rfl) (J.1.n (by decide)) rfl (Nat.le_of_ble_eq_true rfl) (Nat.le_of_ble_eq_true rfl) ?_
    refine t_X10_moves1 (k := 339 + 4 * i) J.1 hj (by omega) J.2.2.1 (fK_i ?_)
    show fEv g _ mX10_movesAll 209 [some (.ref 89), some (.ref (296 + j)), some (.int (nI 1)), some (.int (nI i)), some (.int (nI 0))] [.int (fI σ (296 + j) (339 + 4 * i)), .int (nI 0), .ref (283 + i)] (fsI σ 89 25 (nI ((339 + 4 * i) + 1))) Q
    refine e_iastore 0 dX10_movesAll_209 (J.1.s _ (fsh_trace _ (by omega))) (J.1.n (by omega)) rfl (by omega) (by decide) ?_
    have J1 := mv1 (a := 283 + i) (q := 0) J (show 339 + 4 * i < 387 by omega) (by unfold mcA; rw [if_neg (by omega), if_neg (by omega), if_neg (by omega), if_neg (by omega)]; omega) (by unfold mcI; rw [if_neg (by omega), if_neg (by omega), if_neg (by omega), if_neg (by omega)]; omega)
    generalize fsI (fsI σ 89 25 (nI ((339 + 4 * i) + 1))) (283 + i) 0 (fI σ (296 + j) (339 + 4 * i)) = σ1 at J1 ⊢
    refine e_iinc (v := nI 1) (L1 := [some (.ref 89), some (.ref (296 + j)), some (.int (nI 1)), some (.int (nI i)), some (.int (nI 1))]) dX10_movesAll_210 rfl (by decide) (by decide) rfl ?_
    refine e_goto 180 dX10_movesAll_213 (by decide) ?_
    refine e_iload dX10_movesAll_180 rfl ?_
    refine e_iconst (nI 4) dX10_movesAll_182 (by decide) ?_
    refine e_icmp_ge 216 dX10_movesAll_183 (by decide) (fun c => absurd c (by decide)) (fun _ => ?_)
    refine e_aload_n dX10_movesAll_186 rfl rfl ?_
    refine e_getR (q := 282) dX10_movesAll_187 fl_RX10_64 (J1.1.s 89 rfl) (J1.1.n (by decide)) rfl (J1.1.r 89 29 rfl) (by unfold fscr; omega) ?_
    refine e_iload_n dX10_movesAll_190 rfl rfl ?_
    refine e_aaload (q := 283 + i) i dX10_movesAll_191 (J1.1.s 282 rfl) (by decide) (J1.1.n (by decide)) rfl (by omega) (by decide) (J1.1.r 282 _ (frf_trace _ (by omega))) (by unfold fscr; omega) ?_
    refine e_iload dX10_movesAll_192 rfl ?_
    refine e_aload_n dX10_movesAll_194 rfl rfl ?_
    refine e_aload_n dX10_movesAll_195 rfl rfl ?_
    refine e_aload_n dX10_movesAll_196 rfl rfl ?_
    refine e_getR (q := 282) dX10_movesAll_197 fl_RX10_64 (J1.1.s 89 rfl) (J1.1.n (by decide)) rfl (J1.1.r 89 29 rfl) (by unfold fscr; omega) ?_
    refine e_iload_n dX10_movesAll_200 rfl rfl ?_
    refine e_aaload (q := 283 + i) i dX10_movesAll_201 (J1.1.s 282 rfl) (by decide) (J1.1.n (by decide)) rfl (by omega) (by decide) (J1.1.r 282 _ (frf_trace _ (by omega))) (by unfold fscr; omega) ?_
    refine e_iload dX10_movesAll_202 rfl ?_
    refine e_iaload 1 dX10_movesAll_204 (J1.1.s _ (fsh_trace _ (by omega))) (J1.1.n (by omega)) rfl (by omega) (by decide) ?_
    refine e_iload_n dX10_movesAll_205 rfl rfl ?_
    refine e_callV (k := 89) [.ref (296 + j), .int (fI σ1 (283 + i) 1), .int (nI 1)] dX10_movesAll_206 cc_X10_moves lk_RX10_319 im_X10_moves se_X10_moves (by decide) (J1.1.s 89 rfl) (J1.1.n (by decide)) rfl (Nat.le_of_ble_eq_true rfl) (Nat.le_of_ble_eq_true rfl) ?_
    refine t_X10_moves1 (k := 339 + 4 * i + 1) J1.1 hj (by omega) J1.2.2.1 (fK_i ?_)
    show fEv g _ mX10_movesAll 209 [some (.ref 89), some (.ref (296 + j)), some (.int (nI 1)), some (.int (nI i)), some (.int (nI 1))] [.int (fI σ1 (296 + j) (339 + 4 * i + 1)), .int (nI 1), .ref (283 + i)] (fsI σ1 89 25 (nI ((339 + 4 * i + 1) + 1))) Q
    refine e_iastore 1 dX10_movesAll_209 (J1.1.s _ (fsh_trace _ (by omega))) (J1.1.n (by omega)) rfl (by omega) (by decide) ?_
    have J2 := mv1 (a := 283 + i) (q := 1) J1 (show 339 + 4 * i + 1 < 387 by omega) (by unfold mcA; rw [if_neg (by omega), if_neg (by omega), if_neg (by omega), if_neg (by omega)]; omega) (by unfold mcI; rw [if_neg (by omega), if_neg (by omega), if_neg (by omega), if_neg (by omega)]; omega)
    generalize fsI (fsI σ1 89 25 (nI ((339 + 4 * i + 1) + 1))) (283 + i) 1 (fI σ1 (296 + j) (339 + 4 * i + 1)) = σ2 at J2 ⊢
    refine e_iinc (v := nI 2) (L1 := [some (.ref 89), some (.ref (296 + j)), some (.int (nI 1)), some (.int (nI i)), some (.int (nI 2))]) dX10_movesAll_210 rfl (by decide) (by decide) rfl ?_
    refine e_goto 180 dX10_movesAll_213 (by decide) ?_
    refine e_iload dX10_movesAll_180 rfl ?_
    refine e_iconst (nI 4) dX10_movesAll_182 (by decide) ?_
    refine e_icmp_ge 216 dX10_movesAll_183 (by decide) (fun c => absurd c (by decide)) (fun _ => ?_)
    refine e_aload_n dX10_movesAll_186 rfl rfl ?_
    refine e_getR (q := 282) dX10_movesAll_187 fl_RX10_64 (J2.1.s 89 rfl) (J2.1.n (by decide)) rfl (J2.1.r 89 29 rfl) (by unfold fscr; omega) ?_
    refine e_iload_n dX10_movesAll_190 rfl rfl ?_
    refine e_aaload (q := 283 + i) i dX10_movesAll_191 (J2.1.s 282 rfl) (by decide) (J2.1.n (by decide)) rfl (by omega) (by decide) (J2.1.r 282 _ (frf_trace _ (by omega))) (by unfold fscr; omega) ?_
    refine e_iload dX10_movesAll_192 rfl ?_
    refine e_aload_n dX10_movesAll_194 rfl rfl ?_
    refine e_aload_n dX10_movesAll_195 rfl rfl ?_
    refine e_aload_n dX10_movesAll_196 rfl rfl ?_
    refine e_getR (q := 282) dX10_movesAll_197 fl_RX10_64 (J2.1.s 89 rfl) (J2.1.n (by decide)) rfl (J2.1.r 89 29 rfl) (by unfold fscr; omega) ?_
    refine e_iload_n dX10_movesAll_200 rfl rfl ?_
    refine e_aaload (q := 283 + i) i dX10_movesAll_201 (J2.1.s 282 rfl) (by decide) (J2.1.n (by decide)) rfl (by omega) (by decide) (J2.1.r 282 _ (frf_trace _ (by omega))) (by unfold fscr; omega) ?_
    refine e_iload dX10_movesAll_202 rfl ?_
    refine e_iaload 2 dX10_movesAll_204 (J2.1.s _ (fsh_trace _ (by omega))) (J2.1.n (by omega)) rfl (by omega) (by decide) ?_
    refine e_iload_n dX10_movesAll_205 rfl rfl ?_
    refine e_callV (k := 89) [.ref (296 + j), .int (fI σ2 (283 + i) 2), .int (nI 1)] dX10_movesAll_206 cc_X10_moves lk_RX10_319 im_X10_moves se_X10_moves (by decide) (J2.1.s 89 rfl) (J2.1.n (by decide)) rfl (Nat.le_of_ble_eq_true rfl) (Nat.le_of_ble_eq_true rfl) ?_
    refine t_X10_moves1 (k := 339 + 4 * i + 2) J2.1 hj (by omega) J2.2.2.1 (fK_i ?_)
    show fEv g _ mX10_movesAll 209 [some (.ref 89), some (.ref (296 + j)), some (.int (nI 1)), some (.int (nI i)), some (.int (nI 2))] [.int (fI σ2 (296 + j) (339 + 4 * i + 2)), .int (nI 2), .ref (283 + i)] (fsI σ2 89 25 (nI ((339 + 4 * i + 2) + 1))) Q
    refine e_iastore 2 dX10_movesAll_209 (J2.1.s _ (fsh_trace _ (by omega))) (J2.1.n (by omega)) rfl (by omega) (by decide) ?_
    have J3 := mv1 (a := 283 + i) (q := 2) J2 (show 339 + 4 * i + 2 < 387 by omega) (by unfold mcA; rw [if_neg (by omega), if_neg (by omega), if_neg (by omega), if_neg (by omega)]; omega) (by unfold mcI; rw [if_neg (by omega), if_neg (by omega), if_neg (by omega), if_neg (by omega)]; omega)
    generalize fsI (fsI σ2 89 25 (nI ((339 + 4 * i + 2) + 1))) (283 + i) 2 (fI σ2 (296 + j) (339 + 4 * i + 2)) = σ3 at J3 ⊢
    refine e_iinc (v := nI 3) (L1 := [some (.ref 89), some (.ref (296 + j)), some (.int (nI 1)), some (.int (nI i)), some (.int (nI 3))]) dX10_movesAll_210 rfl (by decide) (by decide) rfl ?_
    refine e_goto 180 dX10_movesAll_213 (by decide) ?_
    refine e_iload dX10_movesAll_180 rfl ?_
    refine e_iconst (nI 4) dX10_movesAll_182 (by decide) ?_
    refine e_icmp_ge 216 dX10_movesAll_183 (by decide) (fun c => absurd c (by decide)) (fun _ => ?_)
    refine e_aload_n dX10_movesAll_186 rfl rfl ?_
    refine e_getR (q := 282) dX10_movesAll_187 fl_RX10_64 (J3.1.s 89 rfl) (J3.1.n (by decide)) rfl (J3.1.r 89 29 rfl) (by unfold fscr; omega) ?_
    refine e_iload_n dX10_movesAll_190 rfl rfl ?_
    refine e_aaload (q := 283 + i) i dX10_movesAll_191 (J3.1.s 282 rfl) (by decide) (J3.1.n (by decide)) rfl (by omega) (by decide) (J3.1.r 282 _ (frf_trace _ (by omega))) (by unfold fscr; omega) ?_
    refine e_iload dX10_movesAll_192 rfl ?_
    refine e_aload_n dX10_movesAll_194 rfl rfl ?_
    refine e_aload_n dX10_movesAll_195 rfl rfl ?_
    refine e_aload_n dX10_movesAll_196 rfl rfl ?_
    refine e_getR (q := 282) dX10_movesAll_197 fl_RX10_64 (J3.1.s 89 rfl) (J3.1.n (by decide)) rfl (J3.1.r 89 29 rfl) (by unfold fscr; omega) ?_
    refine e_iload_n dX10_movesAll_200 rfl rfl ?_
    refine e_aaload (q := 283 + i) i dX10_movesAll_201 (J3.1.s 282 rfl) (by decide) (J3.1.n (by decide)) rfl (by omega) (by decide) (J3.1.r 282 _ (frf_trace _ (by omega))) (by unfold fscr; omega) ?_
    refine e_iload dX10_movesAll_202 rfl ?_
    refine e_iaload 3 dX10_movesAll_204 (J3.1.s _ (fsh_trace _ (by omega))) (J3.1.n (by omega)) rfl (by omega) (by decide) ?_
    refine e_iload_n dX10_movesAll_205 rfl rfl ?_
    refine e_callV (k := 89) [.ref (296 + j), .int (fI σ3 (283 + i) 3), .int (nI 1)] dX10_movesAll_206 cc_X10_moves lk_RX10_319 im_X10_moves se_X10_moves (by decide) (J3.1.s 89 rfl) (J3.1.n (by decide)) rfl (Nat.le_of_ble_eq_true rfl) (Nat.le_of_ble_eq_true rfl) ?_
    refine t_X10_moves1 (k := 339 + 4 * i + 3) J3.1 hj (by omega) J3.2.2.1 (fK_i ?_)
    show fEv g _ mX10_movesAll 209 [some (.ref 89), some (.ref (296 + j)), some (.int (nI 1)), some (.int (nI i)), some (.int (nI 3))] [.int (fI σ3 (296 + j) (339 + 4 * i + 3)), .int (nI 3), .ref (283 + i)] (fsI σ3 89 25 (nI ((339 + 4 * i + 3) + 1))) Q
    refine e_iastore 3 dX10_movesAll_209 (J3.1.s _ (fsh_trace _ (by omega))) (J3.1.n (by omega)) rfl (by omega) (by decide) ?_
    have J4 := mv1 (a := 283 + i) (q := 3) J3 (show 339 + 4 * i + 3 < 387 by omega) (by unfold mcA; rw [if_neg (by omega), if_neg (by omega), if_neg (by omega), if_neg (by omega)]; omega) (by unfold mcI; rw [if_neg (by omega), if_neg (by omega), if_neg (by omega), if_neg (by omega)]; omega)
    generalize fsI (fsI σ3 89 25 (nI ((339 + 4 * i + 3) + 1))) (283 + i) 3 (fI σ3 (296 + j) (339 + 4 * i + 3)) = σ4 at J4 ⊢
    refine e_iinc (v := nI 4) (L1 := [some (.ref 89), some (.ref (296 + j)), some (.int (nI 1)), some (.int (nI i)), some (.int (nI 4))]) dX10_movesAll_210 rfl (by decide) (by decide) rfl ?_
    refine e_goto 180 dX10_movesAll_213 (by decide) ?_
    refine e_iload dX10_movesAll_180 rfl ?_
    refine e_iconst (nI 4) dX10_movesAll_182 (by decide) ?_
    refine e_icmp_ge 216 dX10_movesAll_183 (by decide) (fun _ => ?_) (fun c => absurd c (by decide))
    refine e_iinc (v := nI (i + 1)) (L1 := [some (.ref 89), some (.ref (296 + j)), some (.int (nI 1)), some (.int (nI (i + 1))), some (.int (nI 4))]) dX10_movesAll_216 rfl (show nI i + Int32.ofInt 1 = nI (i + 1) from nI_add i 1) (by decide) rfl ?_
    refine e_goto 171 dX10_movesAll_219 (by decide) ?_
    exact ih (i + 1) σ4 _ (by omega) J4 h
set_option maxRecDepth 20000 in
theorem l_X10_mvR1 {g : fGP} {d : Nat} {Q : fRes → fAH → Prop} {j : Nat} {σ0 : fAH} (hj : j < 3) : ∀ (n i : Nat) (σ : fAH) (o4 : Option Value), i + n = 60 → fJ1 g j σ0 σ (219 + 2 * i) → (∀ σ', fJ1 g j σ0 σ' 387 → Q (.inl none) σ') → fEv g (d + 1) mX10_movesAll 118 [some (.ref 89), some (.ref (296 + j)), some (.int (nI 1)), some (.int (nI i)), o4] [] σ Q := by
  intro n
  induction n with
  | zero =>
    intro i σ o4 hin J h
    refine e_iload_n dX10_movesAll_118 rfl rfl ?_
    refine e_bipush (nI 60) dX10_movesAll_119 (by decide) ?_
    refine e_icmp_ge 169 dX10_movesAll_121 (by decide) (fun cz => ?_) (fun cz => absurd ((nI_le' (by omega) (by omega)).mpr (by omega)) cz)
    refine e_iconst (nI 0) dX10_movesAll_169 (by decide) ?_
    refine e_istore_n (L1 := [some (.ref 89), some (.ref (296 + j)), some (.int (nI 1)), some (.int (nI 0)), o4]) dX10_movesAll_170 rfl (by decide) rfl ?_
    exact l_X10_mvT1 hj 12 0 σ _ (by omega) (by rw [show i = 60 by omega] at J; exact J) h
  | succ n ih =>
    intro i σ o4 hin J h
    have hi : i < 60 := by omega
    refine e_iload_n dX10_movesAll_118 rfl rfl ?_
    refine e_bipush (nI 60) dX10_movesAll_119 (by decide) ?_
    refine e_icmp_ge 169 dX10_movesAll_121 (by decide) (fun cz => absurd ((nI_le' (by omega) (by omega)).mp cz) (by omega)) (fun cz => ?_)
    refine e_iconst (nI 0) dX10_movesAll_124 (by decide) ?_
    refine e_istore (L1 := [some (.ref 89), some (.ref (296 + j)), some (.int (nI 1)), some (.int (nI i)), some (.int (nI 0))]) dX10_movesAll_125 (by decide) rfl ?_
    refine e_iload dX10_movesAll_127 rfl ?_
    refine e_iconst (nI 2) dX10_movesAll_129 (by decide) ?_
    refine e_icmp_ge 163 dX10_movesAll_130 (by decide) (fun c => absurd c (by decide)) (fun _ => ?_)
    refine e_aload_n dX10_movesAll_133 rfl rfl ?_
    refine e_getR (q := 221) dX10_movesAll_134 fl_RX10_61 (J.1.s 89 rfl) (J.1.n (by decide)) rfl (J.1.r 89 28 rfl) (by unfold fscr; omega) ?_
    refine e_iload_n dX10_movesAll_137 rfl rfl ?_
    refine e_aaload (q := 222 + i) i dX10_movesAll_138 (J.1.s 221 rfl) (by decide) (J.1.n (by decide)) rfl (by omega) (by decide) (J.1.r 221 _ (frf_record _ (by omega))) (by unfold fscr; omega) ?_
    refine e_iload dX10_movesAll_139 rfl ?_
    refine e_aload_n dX10_movesAll_141 rfl rfl ?_
    refine e_aload_n dX10_movesAll_142 rfl rfl ?_
    refine e_aload_n dX10_movesAll_143 rfl rfl ?_
    refine e_getR (q := 221) dX10_movesAll_144 fl_RX10_61 (J.1.s 89 rfl) (J.1.n (by decide)) rfl (J.1.r 89 28 rfl) (by unfold fscr; omega) ?_
    refine e_iload_n dX10_movesAll_147 rfl rfl ?_
    refine e_aaload (q := 222 + i) i dX10_movesAll_148 (J.1.s 221 rfl) (by decide) (J.1.n (by decide)) rfl (by omega) (by decide) (J.1.r 221 _ (frf_record _ (by omega))) (by unfold fscr; omega) ?_
    refine e_iload dX10_movesAll_149 rfl ?_
    refine e_iaload 0 dX10_movesAll_151 (J.1.s _ (fsh_record _ (by omega))) (J.1.n (by omega)) rfl (by omega) (by decide) ?_
    refine e_iload_n dX10_movesAll_152 rfl rfl ?_
    refine e_callV (k := 89) [.ref (296 + j), .int (fI σ (222 + i) 0), .int (nI 1)] dX10_movesAll_153 cc_X10_moves lk_RX10_319 im_X10_moves se_X10_moves (by decide) (J.1.s 89 rfl) (J.1.n (by decide)) rfl (Nat.le_of_ble_eq_true rfl) (Nat.le_of_ble_eq_true rfl) ?_
    refine t_X10_moves1 (k := 219 + 2 * i) J.1 hj (by omega) J.2.2.1 (fK_i ?_)
    show fEv g _ mX10_movesAll 156 [some (.ref 89), some (.ref (296 + j)), some (.int (nI 1)), some (.int (nI i)), some (.int (nI 0))] [.int (fI σ (296 + j) (219 + 2 * i)), .int (nI 0), .ref (222 + i)] (fsI σ 89 25 (nI ((219 + 2 * i) + 1))) Q
    refine e_iastore 0 dX10_movesAll_156 (J.1.s _ (fsh_record _ (by omega))) (J.1.n (by omega)) rfl (by omega) (by decide) ?_
    have J1 := mv1 (a := 222 + i) (q := 0) J (show 219 + 2 * i < 387 by omega) (by unfold mcA; rw [if_neg (by omega), if_neg (by omega), if_neg (by omega), if_pos (by omega)]; omega) (by unfold mcI; rw [if_neg (by omega), if_neg (by omega), if_neg (by omega), if_pos (by omega)]; omega)
    generalize fsI (fsI σ 89 25 (nI ((219 + 2 * i) + 1))) (222 + i) 0 (fI σ (296 + j) (219 + 2 * i)) = σ1 at J1 ⊢
    refine e_iinc (v := nI 1) (L1 := [some (.ref 89), some (.ref (296 + j)), some (.int (nI 1)), some (.int (nI i)), some (.int (nI 1))]) dX10_movesAll_157 rfl (by decide) (by decide) rfl ?_
    refine e_goto 127 dX10_movesAll_160 (by decide) ?_
    refine e_iload dX10_movesAll_127 rfl ?_
    refine e_iconst (nI 2) dX10_movesAll_129 (by decide) ?_
    refine e_icmp_ge 163 dX10_movesAll_130 (by decide) (fun c => absurd c (by decide)) (fun _ => ?_)
    refine e_aload_n dX10_movesAll_133 rfl rfl ?_
    refine e_getR (q := 221) dX10_movesAll_134 fl_RX10_61 (J1.1.s 89 rfl) (J1.1.n (by decide)) rfl (J1.1.r 89 28 rfl) (by unfold fscr; omega) ?_
    refine e_iload_n dX10_movesAll_137 rfl rfl ?_
    refine e_aaload (q := 222 + i) i dX10_movesAll_138 (J1.1.s 221 rfl) (by decide) (J1.1.n (by decide)) rfl (by omega) (by decide) (J1.1.r 221 _ (frf_record _ (by omega))) (by unfold fscr; omega) ?_
    refine e_iload dX10_movesAll_139 rfl ?_
    refine e_aload_n dX10_movesAll_141 rfl rfl ?_
    refine e_aload_n dX10_movesAll_142 rfl rfl ?_
    refine e_aload_n dX10_movesAll_143 rfl rfl ?_
    refine e_getR (q := 221) dX10_movesAll_144 fl_RX10_61 (J1.1.s 89 rfl) (J1.1.n (by decide)) rfl (J1.1.r 89 28 rfl) (by unfold fscr; omega) ?_
    refine e_iload_n dX10_movesAll_147 rfl rfl ?_
    refine e_aaload (q := 222 + i) i dX10_movesAll_148 (J1.1.s 221 rfl) (by decide) (J1.1.n (by decide)) rfl (by omega) (by decide) (J1.1.r 221 _ (frf_record _ (by omega))) (by unfold fscr; omega) ?_
    refine e_iload dX10_movesAll_149 rfl ?_
    refine e_iaload 1 dX10_movesAll_151 (J1.1.s _ (fsh_record _ (by omega))) (J1.1.n (by omega)) rfl (by omega) (by decide) ?_
    refine e_iload_n dX10_movesAll_152 rfl rfl ?_
    refine e_callV (k := 89) [.ref (296 + j), .int (fI σ1 (222 + i) 1), .int (nI 1)] dX10_movesAll_153 cc_X10_moves lk_RX10_319 im_X10_moves se_X10_moves (by decide) (J1.1.s 89 rfl) (J1.1.n (by decide)) rfl (Nat.le_of_ble_eq_true rfl) (Nat.le_of_ble_eq_true rfl) ?_
    refine t_X10_moves1 (k := 219 + 2 * i + 1) J1.1 hj (by omega) J1.2.2.1 (fK_i ?_)
    show fEv g _ mX10_movesAll 156 [some (.ref 89), some (.ref (296 + j)), some (.int (nI 1)), some (.int (nI i)), some (.int (nI 1))] [.int (fI σ1 (296 + j) (219 + 2 * i + 1)), .int (nI 1), .ref (222 + i)] (fsI σ1 89 25 (nI ((219 + 2 * i + 1) + 1))) Q
    refine e_iastore 1 dX10_movesAll_156 (J1.1.s _ (fsh_record _ (by omega))) (J1.1.n (by omega)) rfl (by omega) (by decide) ?_
    have J2 := mv1 (a := 222 + i) (q := 1) J1 (show 219 + 2 * i + 1 < 387 by omega) (by unfold mcA; rw [if_neg (by omega), if_neg (by omega), if_neg (by omega), if_pos (by omega)]; omega) (by unfold mcI; rw [if_neg (by omega), if_neg (by omega), if_neg (by omega), if_pos (by omega)]; omega)
    generalize fsI (fsI σ1 89 25 (nI ((219 + 2 * i + 1) + 1))) (222 + i) 1 (fI σ1 (296 + j) (219 + 2 * i + 1)) = σ2 at J2 ⊢
    refine e_iinc (v := nI 2) (L1 := [some (.ref 89), some (.ref (296 + j)), some (.int (nI 1)), some (.int (nI i)), some (.int (nI 2))]) dX10_movesAll_157 rfl (by decide) (by decide) rfl ?_
    refine e_goto 127 dX10_movesAll_160 (by decide) ?_
    refine e_iload dX10_movesAll_127 rfl ?_
    refine e_iconst (nI 2) dX10_movesAll_129 (by decide) ?_
    refine e_icmp_ge 163 dX10_movesAll_130 (by decide) (fun _ => ?_) (fun c => absurd c (by decide))
    refine e_iinc (v := nI (i + 1)) (L1 := [some (.ref 89), some (.ref (296 + j)), some (.int (nI 1)), some (.int (nI (i + 1))), some (.int (nI 2))]) dX10_movesAll_163 rfl (show nI i + Int32.ofInt 1 = nI (i + 1) from nI_add i 1) (by decide) rfl ?_
    refine e_goto 118 dX10_movesAll_166 (by decide) ?_
    exact ih (i + 1) σ2 _ (by omega) J2 h
set_option maxRecDepth 20000 in
theorem l_X10_mvP1 {g : fGP} {d : Nat} {Q : fRes → fAH → Prop} {j : Nat} {σ0 : fAH} (hj : j < 3) : ∀ (n i : Nat) (σ : fAH) (o4 : Option Value), i + n = 30 → fJ1 g j σ0 σ (159 + 2 * i) → (∀ σ', fJ1 g j σ0 σ' 387 → Q (.inl none) σ') → fEv g (d + 1) mX10_movesAll 68 [some (.ref 89), some (.ref (296 + j)), some (.int (nI 1)), some (.int (nI i)), o4] [] σ Q := by
  intro n
  induction n with
  | zero =>
    intro i σ o4 hin J h
    refine e_iload_n dX10_movesAll_68 rfl rfl ?_
    refine e_bipush (nI 30) dX10_movesAll_69 (by decide) ?_
    refine e_icmp_ge 116 dX10_movesAll_71 (by decide) (fun cz => ?_) (fun cz => absurd ((nI_le' (by omega) (by omega)).mpr (by omega)) cz)
    refine e_iconst (nI 0) dX10_movesAll_116 (by decide) ?_
    refine e_istore_n (L1 := [some (.ref 89), some (.ref (296 + j)), some (.int (nI 1)), some (.int (nI 0)), o4]) dX10_movesAll_117 rfl (by decide) rfl ?_
    exact l_X10_mvR1 hj 60 0 σ _ (by omega) (by rw [show i = 30 by omega] at J; exact J) h
  | succ n ih =>
    intro i σ o4 hin J h
    have hi : i < 30 := by omega
    refine e_iload_n dX10_movesAll_68 rfl rfl ?_
    refine e_bipush (nI 30) dX10_movesAll_69 (by decide) ?_
    refine e_icmp_ge 116 dX10_movesAll_71 (by decide) (fun cz => absurd ((nI_le' (by omega) (by omega)).mp cz) (by omega)) (fun cz => ?_)
    refine e_aload_n dX10_movesAll_74 rfl rfl ?_
    refine e_getR (q := 219) dX10_movesAll_75 fl_RX10_55 (J.1.s 89 rfl) (J.1.n (by decide)) rfl (J.1.r 89 26 rfl) (by unfold fscr; omega) ?_
    refine e_iload_n dX10_movesAll_78 rfl rfl ?_
    refine e_aload_n dX10_movesAll_79 rfl rfl ?_
    refine e_aload_n dX10_movesAll_80 rfl rfl ?_
    refine e_aload_n dX10_movesAll_81 rfl rfl ?_
    refine e_getR (q := 219) dX10_movesAll_82 fl_RX10_55 (J.1.s 89 rfl) (J.1.n (by decide)) rfl (J.1.r 89 26 rfl) (by unfold fscr; omega) ?_
    refine e_iload_n dX10_movesAll_85 rfl rfl ?_
    refine e_iaload i dX10_movesAll_86 (J.1.s 219 rfl) (J.1.n (by decide)) rfl (by omega) (by decide) ?_
    refine e_iload_n dX10_movesAll_87 rfl rfl ?_
    refine e_callV (k := 89) [.ref (296 + j), .int (fI σ 219 i), .int (nI 1)] dX10_movesAll_88 cc_X10_moves lk_RX10_319 im_X10_moves se_X10_moves (by decide) (J.1.s 89 rfl) (J.1.n (by decide)) rfl (Nat.le_of_ble_eq_true rfl) (Nat.le_of_ble_eq_true rfl) ?_
    refine t_X10_moves1 (k := 159 + 2 * i) J.1 hj (by omega) J.2.2.1 (fK_i ?_)
    show fEv g _ mX10_movesAll 91 [some (.ref 89), some (.ref (296 + j)), some (.int (nI 1)), some (.int (nI i)), o4] [.int (fI σ (296 + j) (159 + 2 * i)), .int (nI i), .ref 219] (fsI σ 89 25 (nI ((159 + 2 * i) + 1))) Q
    refine e_iastore i dX10_movesAll_91 (J.1.s 219 rfl) (J.1.n (by decide)) rfl (by omega) (by decide) ?_
    have J1 := mv1 (a := 219) (q := i) J (show 159 + 2 * i < 387 by omega) (by unfold mcA; rw [if_neg (by omega), if_neg (by omega), if_pos (by omega)]; omega) (by unfold mcI; rw [if_neg (by omega), if_neg (by omega), if_pos (by omega)]; omega)
    generalize fsI (fsI σ 89 25 (nI ((159 + 2 * i) + 1))) 219 i (fI σ (296 + j) (159 + 2 * i)) = σ1 at J1 ⊢
    refine e_aload_n dX10_movesAll_92 rfl rfl ?_
    refine e_getR (q := 220) dX10_movesAll_93 fl_RX10_58 (J1.1.s 89 rfl) (J1.1.n (by decide)) rfl (J1.1.r 89 27 rfl) (by unfold fscr; omega) ?_
    refine e_iload_n dX10_movesAll_96 rfl rfl ?_
    refine e_aload_n dX10_movesAll_97 rfl rfl ?_
    refine e_aload_n dX10_movesAll_98 rfl rfl ?_
    refine e_aload_n dX10_movesAll_99 rfl rfl ?_
    refine e_getR (q := 220) dX10_movesAll_100 fl_RX10_58 (J1.1.s 89 rfl) (J1.1.n (by decide)) rfl (J1.1.r 89 27 rfl) (by unfold fscr; omega) ?_
    refine e_iload_n dX10_movesAll_103 rfl rfl ?_
    refine e_iaload i dX10_movesAll_104 (J1.1.s 220 rfl) (J1.1.n (by decide)) rfl (by omega) (by decide) ?_
    refine e_iload_n dX10_movesAll_105 rfl rfl ?_
    refine e_callV (k := 89) [.ref (296 + j), .int (fI σ1 220 i), .int (nI 1)] dX10_movesAll_106 cc_X10_moves lk_RX10_319 im_X10_moves se_X10_moves (by decide) (J1.1.s 89 rfl) (J1.1.n (by decide)) rfl (Nat.le_of_ble_eq_true rfl) (Nat.le_of_ble_eq_true rfl) ?_
    refine t_X10_moves1 (k := 159 + 2 * i + 1) J1.1 hj (by omega) J1.2.2.1 (fK_i ?_)
    show fEv g _ mX10_movesAll 109 [some (.ref 89), some (.ref (296 + j)), some (.int (nI 1)), some (.int (nI i)), o4] [.int (fI σ1 (296 + j) (159 + 2 * i + 1)), .int (nI i), .ref 220] (fsI σ1 89 25 (nI ((159 + 2 * i + 1) + 1))) Q
    refine e_iastore i dX10_movesAll_109 (J1.1.s 220 rfl) (J1.1.n (by decide)) rfl (by omega) (by decide) ?_
    have J2 := mv1 (a := 220) (q := i) J1 (show 159 + 2 * i + 1 < 387 by omega) (by unfold mcA; rw [if_neg (by omega), if_neg (by omega), if_pos (by omega)]; omega) (by unfold mcI; rw [if_neg (by omega), if_neg (by omega), if_pos (by omega)]; omega)
    generalize fsI (fsI σ1 89 25 (nI ((159 + 2 * i + 1) + 1))) 220 i (fI σ1 (296 + j) (159 + 2 * i + 1)) = σ2 at J2 ⊢
    refine e_iinc (v := nI (i + 1)) (L1 := [some (.ref 89), some (.ref (296 + j)), some (.int (nI 1)), some (.int (nI (i + 1))), o4]) dX10_movesAll_110 rfl (show nI i + Int32.ofInt 1 = nI (i + 1) from nI_add i 1) (by decide) rfl ?_
    refine e_goto 68 dX10_movesAll_113 (by decide) ?_
    exact ih (i + 1) σ2 _ (by omega) J2 h
set_option maxRecDepth 20000 in
theorem l_X10_mvS1 {g : fGP} {d : Nat} {Q : fRes → fAH → Prop} {j : Nat} {σ0 : fAH} (hj : j < 3) : ∀ (n i : Nat) (σ : fAH) (o4 : Option Value), i + n = 157 → fJ1 g j σ0 σ i → (∀ σ', fJ1 g j σ0 σ' 387 → Q (.inl none) σ') → fEv g (d + 1) mX10_movesAll 7 [some (.ref 89), some (.ref (296 + j)), some (.int (nI 1)), some (.int (nI i)), o4] [] σ Q := by
  intro n
  induction n with
  | zero =>
    intro i σ o4 hin J h
    refine e_iload_n dX10_movesAll_7 rfl rfl ?_
    refine e_sipush (nI 157) dX10_movesAll_8 (by decide) ?_
    refine e_icmp_ge 38 dX10_movesAll_11 (by decide) (fun cz => ?_) (fun cz => absurd ((nI_le' (by omega) (by omega)).mpr (by omega)) cz)
    rw [show i = 157 by omega] at J
    refine e_aload_n dX10_movesAll_38 rfl rfl ?_
    refine e_aload_n dX10_movesAll_39 rfl rfl ?_
    refine e_aload_n dX10_movesAll_40 rfl rfl ?_
    refine e_aload_n dX10_movesAll_41 rfl rfl ?_
    refine e_getI dX10_movesAll_42 fl_RX10_159 (J.1.s 89 rfl) (J.1.n (by decide)) rfl ?_
    refine e_iload_n dX10_movesAll_45 rfl rfl ?_
    refine e_callV (k := 89) [.ref (296 + j), .int (fI σ 89 22), .int (nI 1)] dX10_movesAll_46 cc_X10_moves lk_RX10_319 im_X10_moves se_X10_moves (by decide) (J.1.s 89 rfl) (J.1.n (by decide)) rfl (Nat.le_of_ble_eq_true rfl) (Nat.le_of_ble_eq_true rfl) ?_
    refine t_X10_moves1 (k := 157) J.1 hj (by omega) J.2.2.1 (fK_i ?_)
    show fEv g _ mX10_movesAll 49 [some (.ref 89), some (.ref (296 + j)), some (.int (nI 1)), some (.int (nI i)), o4] [.int (fI σ (296 + j) 157), .ref 89] (fsI σ 89 25 (nI (157 + 1))) Q
    refine e_putI dX10_movesAll_49 fl_RX10_159 (J.1.s 89 rfl) (J.1.n (by decide)) rfl rfl ?_
    have J1 := mv1 (a := 89) (q := 22) J (show 157 < 387 by omega) (by decide) (by decide)
    generalize fsI (fsI σ 89 25 (nI (157 + 1))) 89 22 (fI σ (296 + j) 157) = σ1 at J1 ⊢
    refine e_aload_n dX10_movesAll_52 rfl rfl ?_
    refine e_aload_n dX10_movesAll_53 rfl rfl ?_
    refine e_aload_n dX10_movesAll_54 rfl rfl ?_
    refine e_aload_n dX10_movesAll_55 rfl rfl ?_
    refine e_getI dX10_movesAll_56 fl_RX10_162 (J1.1.s 89 rfl) (J1.1.n (by decide)) rfl ?_
    refine e_iload_n dX10_movesAll_59 rfl rfl ?_
    refine e_callV (k := 89) [.ref (296 + j), .int (fI σ1 89 23), .int (nI 1)] dX10_movesAll_60 cc_X10_moves lk_RX10_319 im_X10_moves se_X10_moves (by decide) (J1.1.s 89 rfl) (J1.1.n (by decide)) rfl (Nat.le_of_ble_eq_true rfl) (Nat.le_of_ble_eq_true rfl) ?_
    refine t_X10_moves1 (k := 158) J1.1 hj (by omega) J1.2.2.1 (fK_i ?_)
    show fEv g _ mX10_movesAll 63 [some (.ref 89), some (.ref (296 + j)), some (.int (nI 1)), some (.int (nI i)), o4] [.int (fI σ1 (296 + j) 158), .ref 89] (fsI σ1 89 25 (nI (158 + 1))) Q
    refine e_putI dX10_movesAll_63 fl_RX10_162 (J1.1.s 89 rfl) (J1.1.n (by decide)) rfl rfl ?_
    have J2 := mv1 (a := 89) (q := 23) J1 (show 158 < 387 by omega) (by decide) (by decide)
    generalize fsI (fsI σ1 89 25 (nI (158 + 1))) 89 23 (fI σ1 (296 + j) 158) = σ2 at J2 ⊢
    refine e_iconst (nI 0) dX10_movesAll_66 (by decide) ?_
    refine e_istore_n (L1 := [some (.ref 89), some (.ref (296 + j)), some (.int (nI 1)), some (.int (nI 0)), o4]) dX10_movesAll_67 rfl (by decide) rfl ?_
    exact l_X10_mvP1 hj 30 0 σ2 _ (by omega) J2 h
  | succ n ih =>
    intro i σ o4 hin J h
    have hi : i < 157 := by omega
    refine e_iload_n dX10_movesAll_7 rfl rfl ?_
    refine e_sipush (nI 157) dX10_movesAll_8 (by decide) ?_
    refine e_icmp_ge 38 dX10_movesAll_11 (by decide) (fun cz => absurd ((nI_le' (by omega) (by omega)).mp cz) (by omega)) (fun cz => ?_)
    refine e_aload_n dX10_movesAll_14 rfl rfl ?_
    refine e_getR (q := 197) dX10_movesAll_15 fl_RX10_49 (J.1.s 89 rfl) (J.1.n (by decide)) rfl (J.1.r 89 19 rfl) (by unfold fscr; omega) ?_
    refine e_iload_n dX10_movesAll_18 rfl rfl ?_
    refine e_aload_n dX10_movesAll_19 rfl rfl ?_
    refine e_aload_n dX10_movesAll_20 rfl rfl ?_
    refine e_aload_n dX10_movesAll_21 rfl rfl ?_
    refine e_getR (q := 197) dX10_movesAll_22 fl_RX10_49 (J.1.s 89 rfl) (J.1.n (by decide)) rfl (J.1.r 89 19 rfl) (by unfold fscr; omega) ?_
    refine e_iload_n dX10_movesAll_25 rfl rfl ?_
    refine e_iaload i dX10_movesAll_26 (J.1.s 197 rfl) (J.1.n (by decide)) rfl (by omega) (by decide) ?_
    refine e_iload_n dX10_movesAll_27 rfl rfl ?_
    refine e_callV (k := 89) [.ref (296 + j), .int (fI σ 197 i), .int (nI 1)] dX10_movesAll_28 cc_X10_moves lk_RX10_319 im_X10_moves se_X10_moves (by decide) (J.1.s 89 rfl) (J.1.n (by decide)) rfl (Nat.le_of_ble_eq_true rfl) (Nat.le_of_ble_eq_true rfl) ?_
    refine t_X10_moves1 (k := i) J.1 hj (by omega) J.2.2.1 (fK_i ?_)
    show fEv g _ mX10_movesAll 31 [some (.ref 89), some (.ref (296 + j)), some (.int (nI 1)), some (.int (nI i)), o4] [.int (fI σ (296 + j) i), .int (nI i), .ref 197] (fsI σ 89 25 (nI (i + 1))) Q
    refine e_iastore i dX10_movesAll_31 (J.1.s 197 rfl) (J.1.n (by decide)) rfl (by omega) (by decide) ?_
    have J1 := mv1 (a := 197) (q := i) J (show i < 387 by omega) (by unfold mcA; rw [if_pos (by omega)]) (by unfold mcI; rw [if_pos (by omega)])
    generalize fsI (fsI σ 89 25 (nI (i + 1))) 197 i (fI σ (296 + j) i) = σ1 at J1 ⊢
    refine e_iinc (v := nI (i + 1)) (L1 := [some (.ref 89), some (.ref (296 + j)), some (.int (nI 1)), some (.int (nI (i + 1))), o4]) dX10_movesAll_32 rfl (show nI i + Int32.ofInt 1 = nI (i + 1) from nI_add i 1) (by decide) rfl ?_
    refine e_goto 7 dX10_movesAll_35 (by decide) ?_
    exact ih (i + 1) σ1 _ (by omega) J1 h
set_option maxRecDepth 20000 in
theorem t_X10_movesAll1 {g : fGP} {d : Nat} {σ : fAH} {Q : fRes → fAH → Prop} {j : Nat} (Ms : fMs g σ) (hj : j < 3) (h : ∀ σ', fJ1 g j σ σ' 387 → Q (.inl none) σ') : fEv g (d + 1) mX10_movesAll 0 (fent [.ref 89, .ref (296 + j), .int (nI 1)] 5) [] σ Q := by
  show fEv g (d + 1) mX10_movesAll 0 [some (.ref 89), some (.ref (296 + j)), some (.int (nI 1)), none, none] [] σ Q
  refine e_aload_n dX10_movesAll_0 rfl rfl ?_
  refine e_iconst (nI 0) dX10_movesAll_1 (by decide) ?_
  refine e_putI dX10_movesAll_2 fl_RX10_316 (Ms.s 89 rfl) (Ms.n (by decide)) rfl rfl ?_
  refine e_iconst (nI 0) dX10_movesAll_5 (by decide) ?_
  refine e_istore_n (L1 := [some (.ref 89), some (.ref (296 + j)), some (.int (nI 1)), some (.int (nI 0)), none]) dX10_movesAll_6 rfl (by decide) rfl ?_
  have S9 : fSm (fMvA j) σ (fsI σ 89 25 (nI 0)) := fSm_I (Or.inl rfl)
  exact l_X10_mvS1 hj 157 0 (fsI σ 89 25 (nI 0)) _ (by omega) ⟨Ms.sm S9, S9, by rw [fI_I, if_pos ⟨rfl, rfl⟩], fun q hq => absurd hq (Nat.not_lt_zero _), fun a q _ hq => by rw [fI_I, if_neg hq]⟩ h
