theorem or0 (b : Int32) : b ||| nI 0 = b := by
  show b ||| 0 = b
  exact Int32.or_zero
/-- what stands has changed: so many cells of the reference -/
theorem fIr.cur {A : Nat → Prop} {σ σ1 : fAH} {x : fXS} {i : fIm} (h : fIr σ x) (ok : fOK x) (s : fSm A σ σ1) (na : ∀ a, A a → ¬ (a = 90 ∨ (296 ≤ a ∧ a < 299))) (hf : ∀ j, j ∈ [1, 3, 21, 24, 31, 33] → fI σ1 89 j = fI σ 89 j) (hM : fMr σ1 (xD x) (iS i) (iq i)) (hT : fMt σ1 (iS i) (iT i)) (hR : fRc σ1 i) : fIr σ1 (xD x, i, xB x, xt x, xp x, xm x, xM x) := by
  obtain ⟨a1, a2, ⟨b1, b2, b3, b4, b5, b6⟩, a4, a5, a6⟩ := h
  refine ⟨hM, hT, ⟨(hf 21 (by decide)).trans b1, (hf 31 (by decide)).trans b2, (hf 33 (by decide)).trans b3, (hf 1 (by decide)).trans b4, (hf 3 (by decide)).trans b5, (hf 24 (by decide)).trans b6⟩, fun i hi => ?_, hR, fun j hj => (a6 j hj).cg (fun q => s.i (fun e => na _ e ?_) q)⟩
  · rw [s.i (fun e => na _ e (Or.inl rfl))]; exact a4 i hi
  · have := ok.2.2.2.2.1
    have hj : j < xm x := hj
    exact Or.inr (by omega)
theorem mls1 {R : Nat → Nat} (hR : ∀ j, R j < 4) : ∀ n i, mct (fun j => decide (R j / 2 = R j % 2)) n i = mct (fun j => decide (R j = 3)) n i + mct (fun j => decide (R j = 0)) n i
  | 0, _ => rfl
  | n + 1, i => by
    show bn (decide (R i / 2 = R i % 2)) + mct (fun j => decide (R j / 2 = R j % 2)) n (i + 1) = bn (decide (R i = 3)) + mct (fun j => decide (R j = 3)) n (i + 1) + (bn (decide (R i = 0)) + mct (fun j => decide (R j = 0)) n (i + 1))
    rw [mls1 hR n (i + 1)]
    have h9 := hR i
    have e : bn (decide (R i / 2 = R i % 2)) = bn (decide (R i = 3)) + bn (decide (R i = 0)) := by
      rcases (show R i = 0 ∨ R i = 1 ∨ R i = 2 ∨ R i = 3 by omega) with e | e | e | e <;> rw [e] <;> rfl
    omega
theorem mls2 {R : Nat → Nat} (hR : ∀ j, R j < 4) : ∀ n i, msf (fun j => R j % 2) n i = mct (fun j => decide (R j = 3)) n i + mct (fun j => decide (R j = 1)) n i
  | 0, _ => rfl
  | n + 1, i => by
    show R i % 2 + msf (fun j => R j % 2) n (i + 1) = bn (decide (R i = 3)) + mct (fun j => decide (R j = 3)) n (i + 1) + (bn (decide (R i = 1)) + mct (fun j => decide (R j = 1)) n (i + 1))
    rw [mls2 hR n (i + 1)]
    have h9 := hR i
    have e : R i % 2 = bn (decide (R i = 3)) + bn (decide (R i = 1)) := by
      rcases (show R i = 0 ∨ R i = 1 ∨ R i = 2 ∨ R i = 3 by omega) with e | e | e | e <;> rw [e] <;> rfl
    omega
theorem mls3 {R : Nat → Nat} {s : Nat} (hs : s ≤ 1) (hR : ∀ j, R j < 4) : ∀ n i, mct (fun j => decide (R j / 2 = s)) n i = mct (fun j => decide (R j = 2 * s + 1)) n i + mct (fun j => decide (R j = 2 * s)) n i
  | 0, _ => rfl
  | n + 1, i => by
    show bn (decide (R i / 2 = s)) + mct (fun j => decide (R j / 2 = s)) n (i + 1) = bn (decide (R i = 2 * s + 1)) + mct (fun j => decide (R j = 2 * s + 1)) n (i + 1) + (bn (decide (R i = 2 * s)) + mct (fun j => decide (R j = 2 * s)) n (i + 1))
    rw [mls3 hs hR n (i + 1)]
    have h9 := hR i
    have e : bn (decide (R i / 2 = s)) = bn (decide (R i = 2 * s + 1)) + bn (decide (R i = 2 * s)) := by
      rcases (show s = 0 ∨ s = 1 by omega) with q | q <;> rw [q] <;> rcases (show R i = 0 ∨ R i = 1 ∨ R i = 2 ∨ R i = 3 by omega) with e | e | e | e <;> rw [e] <;> rfl
    omega
theorem mls4 {R : Nat → Nat} {s : Nat} (hs : s ≤ 1) (hR : ∀ j, R j < 4) : ∀ n i, msf (fun j => if R j / 2 = s then R j % 2 else 0) n i = mct (fun j => decide (R j = 2 * s + 1)) n i
  | 0, _ => rfl
  | n + 1, i => by
    show (if R i / 2 = s then R i % 2 else 0) + msf (fun j => if R j / 2 = s then R j % 2 else 0) n (i + 1) = bn (decide (R i = 2 * s + 1)) + mct (fun j => decide (R j = 2 * s + 1)) n (i + 1)
    rw [mls4 hs hR n (i + 1)]
    have h9 := hR i
    have e : (if R i / 2 = s then R i % 2 else 0) = bn (decide (R i = 2 * s + 1)) := by
      rcases (show s = 0 ∨ s = 1 by omega) with q | q <;> rw [q] <;> rcases (show R i = 0 ∨ R i = 1 ∨ R i = 2 ∨ R i = 3 by omega) with e | e | e | e <;> rw [e] <;> rfl
    omega
set_option maxRecDepth 20000 in
theorem l_X10_face {g : fGP} {d : Nat} {σ : fAH} {Q : fRes → fAH → Prop} {D : fSD} {S : Nat → Nat} {sd : Int32} {T : Nat → Int32} {k : Nat} (Ms : fMs g σ) (Mr : fMr σ D S sd) (Mt : fMt σ S T) (hD : fWD D) (hW : fWS D S) (hk : k < dT D 1) : ∀ (n i : Nat) (b : Int32), i + n = S 155 → Q (.inl (some (.int (mfc T (mneed D S k) n i b)))) σ → fEv g (d + 2) mX10_face 32 [some (.ref 89), some (.int (nI k)), some (.int b), some (.int (nI i))] [] σ Q := by
  obtain ⟨t0, t1, t2, t3, t4, t5, t6⟩ := id hD.1
  have n5 := hW.2.2.2.2
  intro n
  induction n with
  | zero =>
    intro i b hin  h
    refine e_iload_n dX10_face_32 rfl rfl ?_
    refine e_aload_n dX10_face_33 rfl rfl ?_
    refine e_getR (q := 197) dX10_face_34 fl_RX10_49 (Ms.s 89 rfl) (Ms.n (by decide)) rfl (Ms.r 89 19 rfl) (by unfold fscr; omega) ?_
    refine e_sipush (nI 155) dX10_face_37 (by decide) ?_
    refine e_iaload 155 dX10_face_40 (Ms.s 197 rfl) (Ms.n (by decide)) rfl (by omega) (by decide) ?_
    refine e_int (nI (S 155)) (Mr.s 155 (by omega)) ?_
    refine e_icmp_ge 74 dX10_face_41 (by decide) (fun cz => ?_) (fun cz => absurd ((nI_le' (by omega) (by omega)).mpr (by omega)) cz)
    refine e_iload_n dX10_face_74 rfl rfl ?_
    exact e_ireturn .int dX10_face_75 rfl rfl h
  | succ n ih =>
    intro i b hin  h
    have hi : i < S 155 := by omega
    refine e_iload_n dX10_face_32 rfl rfl ?_
    refine e_aload_n dX10_face_33 rfl rfl ?_
    refine e_getR (q := 197) dX10_face_34 fl_RX10_49 (Ms.s 89 rfl) (Ms.n (by decide)) rfl (Ms.r 89 19 rfl) (by unfold fscr; omega) ?_
    refine e_sipush (nI 155) dX10_face_37 (by decide) ?_
    refine e_iaload 155 dX10_face_40 (Ms.s 197 rfl) (Ms.n (by decide)) rfl (by omega) (by decide) ?_
    refine e_int (nI (S 155)) (Mr.s 155 (by omega)) ?_
    refine e_icmp_ge 74 dX10_face_41 (by decide) (fun cz => absurd ((nI_le' (by omega) (by omega)).mp cz) (by omega)) (fun cz => ?_)
    refine e_iload_n dX10_face_44 rfl rfl ?_
    refine e_aload_n dX10_face_45 rfl rfl ?_
    refine e_getR (q := 220) dX10_face_46 fl_RX10_58 (Ms.s 89 rfl) (Ms.n (by decide)) rfl (Ms.r 89 27 rfl) (by unfold fscr; omega) ?_
    refine e_iload_n dX10_face_49 rfl rfl ?_
    refine e_iaload i dX10_face_50 (Ms.s 220 rfl) (Ms.n (by decide)) rfl (by omega) (by decide) ?_
    refine e_int (T (100 + i)) (Mt.2 i (by omega)) ?_
    refine e_aload_n dX10_face_51 rfl rfl ?_
    refine e_iload_n dX10_face_52 rfl rfl ?_
    refine e_callV (k := 89) [.int (nI k)] dX10_face_53 cc_X10_needOf lk_RX10_180 im_X10_needOf se_X10_needOf (by decide) (Ms.s 89 rfl) (Ms.n (by decide)) rfl (Nat.le_of_ble_eq_true rfl) (Nat.le_of_ble_eq_true rfl) ?_
    refine t_X10_needOf Ms Mr hD hW (by omega) (fK_i ?_)
    show fEv g _ mX10_face 56 [some (.ref 89), some (.int (nI k)), some (.int b), some (.int (nI i))] [.int (nI (mneed D S k)), .int (T (100 + i)), .int b] σ Q
    refine e_icmp_lt 65 dX10_face_56 (by decide) (fun c56 => ?_) (fun c56 => ?_)
    · refine e_iconst (nI 0) dX10_face_65 (by decide) ?_
      refine e_ior dX10_face_66 ?_
      refine e_int (b) (or0 b) ?_
      refine e_istore_n (L1 := [some (.ref 89), some (.int (nI k)), some (.int b), some (.int (nI i))]) dX10_face_67 rfl (by decide) rfl ?_
      refine e_iinc (v := nI (i + 1)) (L1 := [some (.ref 89), some (.int (nI k)), some (.int b), some (.int (nI (i + 1)))]) dX10_face_68 rfl (show nI i + Int32.ofInt 1 = nI (i + 1) from nI_add i 1) (by decide) rfl ?_
      refine e_goto 32 dX10_face_71 (by decide) ?_
      rw [show mfc T (mneed D S k) (n + 1) i b = mfc T (mneed D S k) n (i + 1) (if T (100 + i) < nI (mneed D S k) then b else b ||| (nI 1 <<< (nI i &&& 31))) from rfl, if_pos c56] at h
      exact ih (i + 1) _ (by omega) h
    · refine e_iconst (nI 1) dX10_face_59 (by decide) ?_
      refine e_iload_n dX10_face_60 rfl rfl ?_
      refine e_ishl dX10_face_61 ?_
      refine e_goto 66 dX10_face_62 (by decide) ?_
      refine e_ior dX10_face_66 ?_
      refine e_istore_n (L1 := [some (.ref 89), some (.int (nI k)), some (.int (b ||| ((nI 1) <<< ((nI i) &&& 31)))), some (.int (nI i))]) dX10_face_67 rfl (by decide) rfl ?_
      refine e_iinc (v := nI (i + 1)) (L1 := [some (.ref 89), some (.int (nI k)), some (.int (b ||| ((nI 1) <<< ((nI i) &&& 31)))), some (.int (nI (i + 1)))]) dX10_face_68 rfl (show nI i + Int32.ofInt 1 = nI (i + 1) from nI_add i 1) (by decide) rfl ?_
      refine e_goto 32 dX10_face_71 (by decide) ?_
      rw [show mfc T (mneed D S k) (n + 1) i b = mfc T (mneed D S k) n (i + 1) (if T (100 + i) < nI (mneed D S k) then b else b ||| (nI 1 <<< (nI i &&& 31))) from rfl, if_neg c56] at h
      exact ih (i + 1) _ (by omega) h
set_option maxRecDepth 20000 in
theorem lp_X10_face {g : fGP} {d : Nat} {σ : fAH} {Q : fRes → fAH → Prop} {x : fXS} {k : Nat}  (Ms : fMs g σ) (ok : fOK x) (Ir : fIr σ x) (hz : fI σ 89 0 = nI 0) (hk : k < dT (xD x) 1) (h : ∀ σ', fSm fRfA σ σ' → fIr σ' x → fI σ' 89 0 = nI 0 → Q (.inl (some (.int (mfc (iT (xI x)) (mneed (xD x) (iS (xI x)) k) ((iS (xI x)) 155) 0 (nI 0))))) σ') : fEv g (d + 2) mX10_face 5 [some (.ref 89), some (.int (nI k)), none, none] [] σ Q := by
  obtain ⟨D, ⟨S, T, sd, pn, P, rn, R⟩, B, tp, pl, im, Im⟩ := x
  have hD : fWD D := ok.1
  have hW : fWS D S := ok.2.1.1
  have hC : fWC D S := ok.2.1.2.1
  have hN : fWN S 0 0 := ok.2.1.2.2.1
  have Mr : fMr σ D S sd := Ir.1
  have Mt : fMt σ S T := Ir.2.1
  obtain ⟨t0, t1, t2, t3, t4, t5, t6⟩ := id hD.1
  have np := hW.n hD
  have n5 := hW.2.2.2.2
  have tp6 : tp ≤ 600 := ok.2.2.2.1
  have im3 : im ≤ 3 := ok.2.2.2.2.1
  have pn3 : pn ≤ 30 := ok.2.1.2.2.2.1
  have rn6 : rn ≤ 60 := ok.2.1.2.2.2.2.2.1
  have Rc : fRc σ (S, T, sd, pn, P, rn, R) := Ir.2.2.2.2.1
  have w52 := hW.1
  have hk : k < dT D 1 := hk
  show fEv g (d + 2) mX10_face 5 [some (.ref 89), some (.int (nI k)), none, none] [] σ Q
  refine e_aload_n dX10_face_5 rfl rfl ?_
  refine e_aload_n dX10_face_6 rfl rfl ?_
  refine e_iload_n dX10_face_7 rfl rfl ?_
  refine e_callV (k := 89) [.int (nI k)] dX10_face_8 cc_X10_isSlot lk_RX10_177 im_X10_isSlot se_X10_isSlot (by decide) (Ms.s 89 rfl) (Ms.n (by decide)) rfl (Nat.le_of_ble_eq_true rfl) (Nat.le_of_ble_eq_true rfl) ?_
  refine t_X10_isSlotT Ms Mr hD hk (fK_i ?_)
  show fEv g _ mX10_face 11 [some (.ref 89), some (.int (nI k)), none, none] [.int (nI 1), .ref 89] σ Q
  refine e_if_ne 18 dX10_face_11 (by decide) (fun _ => ?_) (fun c => absurd c (by decide))
  refine e_iconst (nI 0) dX10_face_18 (by decide) ?_
  refine e_iconst (nI 1) dX10_face_19 (by decide) ?_
  refine e_callV (k := 89) [.int (nI 0), .int (nI 1)] dX10_face_20 cc_X10_bad lk_RX10_148 im_X10_bad se_X10_bad (by decide) (Ms.s 89 rfl) (Ms.n (by decide)) rfl (Nat.le_of_ble_eq_true rfl) (Nat.le_of_ble_eq_true rfl) ?_
  refine t_X10_bad0 Ms hz (by decide) (fK_i ?_)
  show fEv g _ mX10_face 23 [some (.ref 89), some (.int (nI k)), none, none] [.int (nI 0)] σ Q
  refine e_if_eq 28 dX10_face_23 (by decide) (fun _ => ?_) (fun c => absurd c (by decide))
  refine e_iconst (nI 0) dX10_face_28 (by decide) ?_
  refine e_istore_n (L1 := [some (.ref 89), some (.int (nI k)), some (.int (nI 0)), none]) dX10_face_29 rfl (by decide) rfl ?_
  refine e_iconst (nI 0) dX10_face_30 (by decide) ?_
  refine e_istore_n (L1 := [some (.ref 89), some (.int (nI k)), some (.int (nI 0)), some (.int (nI 0))]) dX10_face_31 rfl (by decide) rfl ?_
  exact l_X10_face Ms Mr Mt hD hW hk (S 155) 0 (nI 0) (by omega) (h σ fSm.rfl' Ir hz)
set_option maxRecDepth 20000 in
theorem t_X10_face {g : fGP} {d : Nat} {σ : fAH} {Q : fRes → fAH → Prop} {x : fXS} {k : Nat}  (Ms : fMs g σ) (ok : fOK x) (Ir : fIr σ x) (hk : k < dT (xD x) 1) (h : ∀ σ', fSm fRfA σ σ' → fIr σ' x → fI σ' 89 0 = nI 0 → Q (.inl (some (.int (mfc (iT (xI x)) (mneed (xD x) (iS (xI x)) k) ((iS (xI x)) 155) 0 (nI 0))))) σ') : fEv g (d + 2) mX10_face 0 (fent [.ref 89, .int (nI k)] 4) [] σ Q := by
  have S9 : fSm (fun a => a = 89) σ (fsI σ 89 0 (nI 0)) := fSm_I rfl
  show fEv g (d + 2) mX10_face 0 [some (.ref 89), some (.int (nI k)), none, none] [] σ Q
  refine e_aload_n dX10_face_0 rfl rfl ?_
  refine e_iconst (nI 0) dX10_face_1 (by decide) ?_
  refine e_putI dX10_face_2 fl_RX10_76 (Ms.s 89 rfl) (Ms.n (by decide)) rfl rfl ?_
  exact lp_X10_face (Ms.sm S9) ok (Ir.f0 ok S9 (fun a (q : a = 89) => Or.inl (by omega)) (fun j hj => by simp only [List.mem_cons, List.not_mem_nil, or_false] at hj; rw [fI_I, if_neg (by omega)])) (by rw [fI_I, if_pos ⟨rfl, rfl⟩]) hk (fun σ' Sm' => h σ' ((S9.to (fun a (q : a = 89) => by unfold fRfA; omega)).tr Sm'))
set_option maxRecDepth 20000 in
theorem lp_X10_faceE {g : fGP} {d : Nat} {σ : fAH} {Q : fRes → fAH → Prop} {x : fXS} {a : Int32}  (Ms : fMs g σ) (ok : fOK x) (Ir : fIr σ x) (hz : fI σ 89 0 = nI 0) (hv : ¬ (nI 0 ≤ a ∧ a < nI (dT (xD x) 1))) (h : ∀ σ', fSm fRfA σ σ' → fIr σ' x → fI σ' 89 0 = nI 1 → Q (.inl (some (.int (nI 0)))) σ') : fEv g (d + 2) mX10_face 5 [some (.ref 89), some (.int a), none, none] [] σ Q := by
  obtain ⟨D, ⟨S, T, sd, pn, P, rn, R⟩, B, tp, pl, im, Im⟩ := x
  have hD : fWD D := ok.1
  have hW : fWS D S := ok.2.1.1
  have hC : fWC D S := ok.2.1.2.1
  have hN : fWN S 0 0 := ok.2.1.2.2.1
  have Mr : fMr σ D S sd := Ir.1
  have Mt : fMt σ S T := Ir.2.1
  obtain ⟨t0, t1, t2, t3, t4, t5, t6⟩ := id hD.1
  have np := hW.n hD
  have n5 := hW.2.2.2.2
  have tp6 : tp ≤ 600 := ok.2.2.2.1
  have im3 : im ≤ 3 := ok.2.2.2.2.1
  have pn3 : pn ≤ 30 := ok.2.1.2.2.2.1
  have rn6 : rn ≤ 60 := ok.2.1.2.2.2.2.2.1
  have Rc : fRc σ (S, T, sd, pn, P, rn, R) := Ir.2.2.2.2.1
  have w52 := hW.1
  show fEv g (d + 2) mX10_face 5 [some (.ref 89), some (.int a), none, none] [] σ Q
  refine e_aload_n dX10_face_5 rfl rfl ?_
  refine e_aload_n dX10_face_6 rfl rfl ?_
  refine e_iload_n dX10_face_7 rfl rfl ?_
  refine e_callV (k := 89) [.int a] dX10_face_8 cc_X10_isSlot lk_RX10_177 im_X10_isSlot se_X10_isSlot (by decide) (Ms.s 89 rfl) (Ms.n (by decide)) rfl (Nat.le_of_ble_eq_true rfl) (Nat.le_of_ble_eq_true rfl) ?_
  refine t_X10_isSlotF Ms Mr hD hv (fK_i ?_)
  show fEv g _ mX10_face 11 [some (.ref 89), some (.int a), none, none] [.int (nI 0), .ref 89] σ Q
  refine e_if_ne 18 dX10_face_11 (by decide) (fun c => absurd c (by decide)) (fun _ => ?_)
  refine e_iconst (nI 1) dX10_face_14 (by decide) ?_
  refine e_goto 19 dX10_face_15 (by decide) ?_
  refine e_iconst (nI 1) dX10_face_19 (by decide) ?_
  refine e_callV (k := 89) [.int (nI 1), .int (nI 1)] dX10_face_20 cc_X10_bad lk_RX10_148 im_X10_bad se_X10_bad (by decide) (Ms.s 89 rfl) (Ms.n (by decide)) rfl (Nat.le_of_ble_eq_true rfl) (Nat.le_of_ble_eq_true rfl) ?_
  refine t_X10_bad1 Ms hz (by decide) (fK_i ?_)
  show fEv g _ mX10_face 23 [some (.ref 89), some (.int a), none, none] [.int (nI 1)] (fsI σ 89 0 (nI 1)) Q
  refine e_if_eq 28 dX10_face_23 (by decide) (fun c => absurd c (by decide)) (fun _ => ?_)
  refine e_iconst (nI 0) dX10_face_26 (by decide) ?_
  exact e_ireturn .int dX10_face_27 rfl rfl (h _ (fSm_I (by unfold fRfA; omega)) (Ir.f0 ok (A := fun a => a = 89) (fSm_I rfl) (fun a (q : a = 89) => Or.inl (by omega)) (fun j hj => by simp only [List.mem_cons, List.not_mem_nil, or_false] at hj; rw [fI_I, if_neg (by omega)])) (by rw [fI_I, if_pos ⟨rfl, rfl⟩]))
set_option maxRecDepth 20000 in
theorem t_X10_faceE {g : fGP} {d : Nat} {σ : fAH} {Q : fRes → fAH → Prop} {x : fXS} {a : Int32}  (Ms : fMs g σ) (ok : fOK x) (Ir : fIr σ x) (hv : ¬ (nI 0 ≤ a ∧ a < nI (dT (xD x) 1))) (h : ∀ σ', fSm fRfA σ σ' → fIr σ' x → fI σ' 89 0 = nI 1 → Q (.inl (some (.int (nI 0)))) σ') : fEv g (d + 2) mX10_face 0 (fent [.ref 89, .int a] 4) [] σ Q := by
  have S9 : fSm (fun a => a = 89) σ (fsI σ 89 0 (nI 0)) := fSm_I rfl
  show fEv g (d + 2) mX10_face 0 [some (.ref 89), some (.int a), none, none] [] σ Q
  refine e_aload_n dX10_face_0 rfl rfl ?_
  refine e_iconst (nI 0) dX10_face_1 (by decide) ?_
  refine e_putI dX10_face_2 fl_RX10_76 (Ms.s 89 rfl) (Ms.n (by decide)) rfl rfl ?_
  exact lp_X10_faceE (Ms.sm S9) ok (Ir.f0 ok S9 (fun a (q : a = 89) => Or.inl (by omega)) (fun j hj => by simp only [List.mem_cons, List.not_mem_nil, or_false] at hj; rw [fI_I, if_neg (by omega)])) (by rw [fI_I, if_pos ⟨rfl, rfl⟩]) hv (fun σ' Sm' => h σ' ((S9.to (fun a (q : a = 89) => by unfold fRfA; omega)).tr Sm'))
set_option maxRecDepth 20000 in
theorem l_X10_lis {g : fGP} {d : Nat} {σ : fAH} {Q : fRes → fAH → Prop} {R : Nat → Nat} {rn : Nat} (Ms : fMs g σ) (rn6 : rn ≤ 60) (h23 : fI σ 89 23 = nI rn) (hR : ∀ r, r < rn → fI σ (222 + r) 0 = nI (R r / 2) ∧ fI σ (222 + r) 1 = nI (R r % 2)) (hR4 : ∀ r, R r < 4) : ∀ (n i : Nat) (a : Nat) (b : Nat), i + n = rn → fEv g d mX10_listening 63 [some (.ref 89), some (.int (nI (a + mct (fun j => decide (R j / 2 = R j % 2)) n i))), some (.int (nI (b + msf (fun j => R j % 2) n i))), some (.int (nI rn))] [] σ Q → fEv g (d) mX10_listening 11 [some (.ref 89), some (.int (nI a)), some (.int (nI b)), some (.int (nI i))] [] σ Q := by
  intro n
  induction n with
  | zero =>
    intro i a b hin  h
    refine e_iload_n dX10_listening_11 rfl rfl ?_
    refine e_aload_n dX10_listening_12 rfl rfl ?_
    refine e_getI dX10_listening_13 fl_RX10_162 (Ms.s 89 rfl) (Ms.n (by decide)) rfl ?_
    refine e_int (nI rn) h23 ?_
    refine e_icmp_ge 63 dX10_listening_16 (by decide) (fun cz => ?_) (fun cz => absurd ((nI_le' (by omega) (by omega)).mpr (by omega)) cz)
    rw [show i = rn by omega] at h ⊢
    exact h
  | succ n ih =>
    intro i a b hin  h
    have hi : i < rn := by omega
    have r4 := hR4 i
    refine e_iload_n dX10_listening_11 rfl rfl ?_
    refine e_aload_n dX10_listening_12 rfl rfl ?_
    refine e_getI dX10_listening_13 fl_RX10_162 (Ms.s 89 rfl) (Ms.n (by decide)) rfl ?_
    refine e_int (nI rn) h23 ?_
    refine e_icmp_ge 63 dX10_listening_16 (by decide) (fun cz => absurd ((nI_le' (by omega) (by omega)).mp cz) (by omega)) (fun cz => ?_)
    refine e_iload_n dX10_listening_19 rfl rfl ?_
    refine e_aload_n dX10_listening_20 rfl rfl ?_
    refine e_getR (q := 221) dX10_listening_21 fl_RX10_61 (Ms.s 89 rfl) (Ms.n (by decide)) rfl (Ms.r 89 28 rfl) (by unfold fscr; omega) ?_
    refine e_iload_n dX10_listening_24 rfl rfl ?_
    refine e_aaload (q := 222 + i) i dX10_listening_25 (Ms.s 221 rfl) (by decide) (Ms.n (by decide)) rfl (by omega) (by decide) (Ms.r 221 _ (frf_record _ (by omega))) (by unfold fscr; omega) ?_
    refine e_iconst (nI 0) dX10_listening_26 (by decide) ?_
    refine e_iaload 0 dX10_listening_27 (Ms.s _ (fsh_record _ (by omega))) (Ms.n (by omega)) rfl (by omega) (by decide) ?_
    refine e_int (nI (R i / 2)) (hR i (by omega)).1 ?_
    refine e_aload_n dX10_listening_28 rfl rfl ?_
    refine e_getR (q := 221) dX10_listening_29 fl_RX10_61 (Ms.s 89 rfl) (Ms.n (by decide)) rfl (Ms.r 89 28 rfl) (by unfold fscr; omega) ?_
    refine e_iload_n dX10_listening_32 rfl rfl ?_
    refine e_aaload (q := 222 + i) i dX10_listening_33 (Ms.s 221 rfl) (by decide) (Ms.n (by decide)) rfl (by omega) (by decide) (Ms.r 221 _ (frf_record _ (by omega))) (by unfold fscr; omega) ?_
    refine e_iconst (nI 1) dX10_listening_34 (by decide) ?_
    refine e_iaload 1 dX10_listening_35 (Ms.s _ (fsh_record _ (by omega))) (Ms.n (by omega)) rfl (by omega) (by decide) ?_
    refine e_int (nI (R i % 2)) (hR i (by omega)).2 ?_
    refine e_icmp_ne 43 dX10_listening_36 (by decide) (fun c36 => ?_) (fun c36 => ?_)
    · rw [nI_inj (by omega) (by omega)] at c36
      refine e_iconst (nI 0) dX10_listening_43 (by decide) ?_
      refine e_iadd dX10_listening_44 ?_
      refine e_int (nI a) (nI_add a 0) ?_
      refine e_istore_n (L1 := [some (.ref 89), some (.int (nI a)), some (.int (nI b)), some (.int (nI i))]) dX10_listening_45 rfl (by decide) rfl ?_
      refine e_iload_n dX10_listening_46 rfl rfl ?_
      refine e_aload_n dX10_listening_47 rfl rfl ?_
      refine e_getR (q := 221) dX10_listening_48 fl_RX10_61 (Ms.s 89 rfl) (Ms.n (by decide)) rfl (Ms.r 89 28 rfl) (by unfold fscr; omega) ?_
      refine e_iload_n dX10_listening_51 rfl rfl ?_
      refine e_aaload (q := 222 + i) i dX10_listening_52 (Ms.s 221 rfl) (by decide) (Ms.n (by decide)) rfl (by omega) (by decide) (Ms.r 221 _ (frf_record _ (by omega))) (by unfold fscr; omega) ?_
      refine e_iconst (nI 1) dX10_listening_53 (by decide) ?_
      refine e_iaload 1 dX10_listening_54 (Ms.s _ (fsh_record _ (by omega))) (Ms.n (by omega)) rfl (by omega) (by decide) ?_
      refine e_int (nI (R i % 2)) (hR i (by omega)).2 ?_
      refine e_iadd dX10_listening_55 ?_
      refine e_int (nI (b + R i % 2)) (nI_add b (R i % 2)) ?_
      refine e_istore_n (L1 := [some (.ref 89), some (.int (nI a)), some (.int (nI (b + R i % 2))), some (.int (nI i))]) dX10_listening_56 rfl (by decide) rfl ?_
      refine e_iinc (v := nI (i + 1)) (L1 := [some (.ref 89), some (.int (nI a)), some (.int (nI (b + R i % 2))), some (.int (nI (i + 1)))]) dX10_listening_57 rfl (show nI i + Int32.ofInt 1 = nI (i + 1) from nI_add i 1) (by decide) rfl ?_
      refine e_goto 11 dX10_listening_60 (by decide) ?_
      refine ih (i + 1) (a) (b + R i % 2) (by omega) ?_
      have e1 : mct (fun j => decide (R j / 2 = R j % 2)) (n + 1) i = 0 + mct (fun j => decide (R j / 2 = R j % 2)) n (i + 1) := by show bn (decide (R i / 2 = R i % 2)) + _ = _; rw [decide_eq_false c36]; rfl
      rw [e1, show msf (fun j => R j % 2) (n + 1) i = R i % 2 + msf (fun j => R j % 2) n (i + 1) from rfl, Nat.zero_add, ← Nat.add_assoc] at h
      exact h
    · rw [nI_inj (by omega) (by omega)] at c36
      refine e_iconst (nI 1) dX10_listening_39 (by decide) ?_
      refine e_goto 44 dX10_listening_40 (by decide) ?_
      refine e_iadd dX10_listening_44 ?_
      refine e_int (nI (a + 1)) (nI_add a 1) ?_
      refine e_istore_n (L1 := [some (.ref 89), some (.int (nI (a + 1))), some (.int (nI b)), some (.int (nI i))]) dX10_listening_45 rfl (by decide) rfl ?_
      refine e_iload_n dX10_listening_46 rfl rfl ?_
      refine e_aload_n dX10_listening_47 rfl rfl ?_
      refine e_getR (q := 221) dX10_listening_48 fl_RX10_61 (Ms.s 89 rfl) (Ms.n (by decide)) rfl (Ms.r 89 28 rfl) (by unfold fscr; omega) ?_
      refine e_iload_n dX10_listening_51 rfl rfl ?_
      refine e_aaload (q := 222 + i) i dX10_listening_52 (Ms.s 221 rfl) (by decide) (Ms.n (by decide)) rfl (by omega) (by decide) (Ms.r 221 _ (frf_record _ (by omega))) (by unfold fscr; omega) ?_
      refine e_iconst (nI 1) dX10_listening_53 (by decide) ?_
      refine e_iaload 1 dX10_listening_54 (Ms.s _ (fsh_record _ (by omega))) (Ms.n (by omega)) rfl (by omega) (by decide) ?_
      refine e_int (nI (R i % 2)) (hR i (by omega)).2 ?_
      refine e_iadd dX10_listening_55 ?_
      refine e_int (nI (b + R i % 2)) (nI_add b (R i % 2)) ?_
      refine e_istore_n (L1 := [some (.ref 89), some (.int (nI (a + 1))), some (.int (nI (b + R i % 2))), some (.int (nI i))]) dX10_listening_56 rfl (by decide) rfl ?_
      refine e_iinc (v := nI (i + 1)) (L1 := [some (.ref 89), some (.int (nI (a + 1))), some (.int (nI (b + R i % 2))), some (.int (nI (i + 1)))]) dX10_listening_57 rfl (show nI i + Int32.ofInt 1 = nI (i + 1) from nI_add i 1) (by decide) rfl ?_
      refine e_goto 11 dX10_listening_60 (by decide) ?_
      refine ih (i + 1) (a + 1) (b + R i % 2) (by omega) ?_
      have e1 : mct (fun j => decide (R j / 2 = R j % 2)) (n + 1) i = 1 + mct (fun j => decide (R j / 2 = R j % 2)) n (i + 1) := by show bn (decide (R i / 2 = R i % 2)) + _ = _; rw [decide_eq_true c36]; rfl
      rw [e1, show msf (fun j => R j % 2) (n + 1) i = R i % 2 + msf (fun j => R j % 2) n (i + 1) from rfl, ← Nat.add_assoc, ← Nat.add_assoc] at h
      exact h
set_option maxRecDepth 20000 in
theorem lp_X10_listening {g : fGP} {d : Nat} {σ : fAH} {Q : fRes → fAH → Prop} {x : fXS}  (Ms : fMs g σ) (ok : fOK x) (Ir : fIr σ x) (hz : fI σ 89 0 = nI 0) (h : ∀ σ', fSm fRfA σ σ' → fIr σ' x → fI σ' 89 0 = nI 0 → Q (.inl (some (.int (vLis (xI x))))) σ') : fEv g (d) mX10_listening 5 [some (.ref 89), none, none, none] [] σ Q := by
  obtain ⟨D, ⟨S, T, sd, pn, P, rn, R⟩, B, tp, pl, im, Im⟩ := x
  have hD : fWD D := ok.1
  have hW : fWS D S := ok.2.1.1
  have hC : fWC D S := ok.2.1.2.1
  have hN : fWN S 0 0 := ok.2.1.2.2.1
  have Mr : fMr σ D S sd := Ir.1
  have Mt : fMt σ S T := Ir.2.1
  obtain ⟨t0, t1, t2, t3, t4, t5, t6⟩ := id hD.1
  have np := hW.n hD
  have n5 := hW.2.2.2.2
  have tp6 : tp ≤ 600 := ok.2.2.2.1
  have im3 : im ≤ 3 := ok.2.2.2.2.1
  have pn3 : pn ≤ 30 := ok.2.1.2.2.2.1
  have rn6 : rn ≤ 60 := ok.2.1.2.2.2.2.2.1
  have Rc : fRc σ (S, T, sd, pn, P, rn, R) := Ir.2.2.2.2.1
  have w52 := hW.1
  show fEv g (d) mX10_listening 5 [some (.ref 89), none, none, none] [] σ Q
  refine e_iconst (nI 0) dX10_listening_5 (by decide) ?_
  refine e_istore_n (L1 := [some (.ref 89), some (.int (nI 0)), none, none]) dX10_listening_6 rfl (by decide) rfl ?_
  refine e_iconst (nI 0) dX10_listening_7 (by decide) ?_
  refine e_istore_n (L1 := [some (.ref 89), some (.int (nI 0)), some (.int (nI 0)), none]) dX10_listening_8 rfl (by decide) rfl ?_
  refine e_iconst (nI 0) dX10_listening_9 (by decide) ?_
  refine e_istore_n (L1 := [some (.ref 89), some (.int (nI 0)), some (.int (nI 0)), some (.int (nI 0))]) dX10_listening_10 rfl (by decide) rfl ?_
  have hR4 : ∀ j, R j < 4 := ok.2.1.2.2.2.2.2.2
  refine l_X10_lis Ms rn6 Rc.2.2.1 Rc.2.2.2 hR4 rn 0 0 0 (by omega) ?_
  rw [Nat.zero_add, Nat.zero_add, mls1 hR4, mls2 hR4]
  have ms : mcr (S, T, sd, pn, P, rn, R) 0 + mcr (S, T, sd, pn, P, rn, R) 1 + mcr (S, T, sd, pn, P, rn, R) 2 + mcr (S, T, sd, pn, P, rn, R) 3 = rn := mcr_sum ok.2.1
  show fEv g _ mX10_listening 63 [some (.ref 89), some (.int (nI (mcr (S, T, sd, pn, P, rn, R) 3 + mcr (S, T, sd, pn, P, rn, R) 0))), some (.int (nI (mcr (S, T, sd, pn, P, rn, R) 3 + mcr (S, T, sd, pn, P, rn, R) 1))), some (.int (nI rn))] [] σ Q
  refine e_iload_n dX10_listening_63 rfl rfl ?_
  refine e_iconst (nI 2) dX10_listening_64 (by decide) ?_
  refine e_iload_n dX10_listening_65 rfl rfl ?_
  refine e_imul dX10_listening_66 ?_
  refine e_int (nI (2 * (mcr (S, T, sd, pn, P, rn, R) 3 + mcr (S, T, sd, pn, P, rn, R) 1))) (pk_mul 2 (mcr (S, T, sd, pn, P, rn, R) 3 + mcr (S, T, sd, pn, P, rn, R) 1)) ?_
  refine e_aload_n dX10_listening_67 rfl rfl ?_
  refine e_getI dX10_listening_68 fl_RX10_162 (Ms.s 89 rfl) (Ms.n (by decide)) rfl ?_
  refine e_int (nI rn) Rc.2.2.1 ?_
  refine e_icmp_lt 78 dX10_listening_71 (by decide) (fun c71 => ?_) (fun c71 => ?_)
  · rw [nI_lt' (by omega) (by omega)] at c71
    refine e_aload_n dX10_listening_78 rfl rfl ?_
    refine e_getI dX10_listening_79 fl_RX10_162 (Ms.s 89 rfl) (Ms.n (by decide)) rfl ?_
    refine e_int (nI rn) Rc.2.2.1 ?_
    refine e_iload_n dX10_listening_82 rfl rfl ?_
    refine e_isub dX10_listening_83 ?_
    refine e_int (nI (rn - (mcr (S, T, sd, pn, P, rn, R) 3 + mcr (S, T, sd, pn, P, rn, R) 1))) (pk_sub (by omega)) ?_
    refine e_isub dX10_listening_84 ?_
    have h9 : Q (.inl (some (.int (nI (mcr (S, T, sd, pn, P, rn, R) 3 + mcr (S, T, sd, pn, P, rn, R) 0) - nI (max (mcr (S, T, sd, pn, P, rn, R) 3 + mcr (S, T, sd, pn, P, rn, R) 1) (rn - (mcr (S, T, sd, pn, P, rn, R) 3 + mcr (S, T, sd, pn, P, rn, R) 1))))))) σ := h σ fSm.rfl' Ir hz
    rw [show max (mcr (S, T, sd, pn, P, rn, R) 3 + mcr (S, T, sd, pn, P, rn, R) 1) (rn - (mcr (S, T, sd, pn, P, rn, R) 3 + mcr (S, T, sd, pn, P, rn, R) 1)) = rn - (mcr (S, T, sd, pn, P, rn, R) 3 + mcr (S, T, sd, pn, P, rn, R) 1) by omega] at h9
    exact e_ireturn .int dX10_listening_85 rfl rfl h9
  · rw [nI_lt' (by omega) (by omega)] at c71
    refine e_iload_n dX10_listening_74 rfl rfl ?_
    refine e_goto 84 dX10_listening_75 (by decide) ?_
    refine e_isub dX10_listening_84 ?_
    have h9 : Q (.inl (some (.int (nI (mcr (S, T, sd, pn, P, rn, R) 3 + mcr (S, T, sd, pn, P, rn, R) 0) - nI (max (mcr (S, T, sd, pn, P, rn, R) 3 + mcr (S, T, sd, pn, P, rn, R) 1) (rn - (mcr (S, T, sd, pn, P, rn, R) 3 + mcr (S, T, sd, pn, P, rn, R) 1))))))) σ := h σ fSm.rfl' Ir hz
    rw [show max (mcr (S, T, sd, pn, P, rn, R) 3 + mcr (S, T, sd, pn, P, rn, R) 1) (rn - (mcr (S, T, sd, pn, P, rn, R) 3 + mcr (S, T, sd, pn, P, rn, R) 1)) = mcr (S, T, sd, pn, P, rn, R) 3 + mcr (S, T, sd, pn, P, rn, R) 1 by omega] at h9
    exact e_ireturn .int dX10_listening_85 rfl rfl h9
set_option maxRecDepth 20000 in
theorem t_X10_listening {g : fGP} {d : Nat} {σ : fAH} {Q : fRes → fAH → Prop} {x : fXS}  (Ms : fMs g σ) (ok : fOK x) (Ir : fIr σ x) (h : ∀ σ', fSm fRfA σ σ' → fIr σ' x → fI σ' 89 0 = nI 0 → Q (.inl (some (.int (vLis (xI x))))) σ') : fEv g (d) mX10_listening 0 (fent [.ref 89] 4) [] σ Q := by
  have S9 : fSm (fun a => a = 89) σ (fsI σ 89 0 (nI 0)) := fSm_I rfl
  show fEv g (d) mX10_listening 0 [some (.ref 89), none, none, none] [] σ Q
  refine e_aload_n dX10_listening_0 rfl rfl ?_
  refine e_iconst (nI 0) dX10_listening_1 (by decide) ?_
  refine e_putI dX10_listening_2 fl_RX10_76 (Ms.s 89 rfl) (Ms.n (by decide)) rfl rfl ?_
  exact lp_X10_listening (Ms.sm S9) ok (Ir.f0 ok S9 (fun a (q : a = 89) => Or.inl (by omega)) (fun j hj => by simp only [List.mem_cons, List.not_mem_nil, or_false] at hj; rw [fI_I, if_neg (by omega)])) (by rw [fI_I, if_pos ⟨rfl, rfl⟩])  (fun σ' Sm' => h σ' ((S9.to (fun a (q : a = 89) => by unfold fRfA; omega)).tr Sm'))
set_option maxRecDepth 20000 in
theorem l_X10_tru {g : fGP} {d : Nat} {σ : fAH} {Q : fRes → fAH → Prop} {R : Nat → Nat} {rn s9 w : Nat} (Ms : fMs g σ) (hs : s9 ≤ 1) (rn6 : rn ≤ 60) (h23 : fI σ 89 23 = nI rn) (hR : ∀ r, r < rn → fI σ (222 + r) 0 = nI (R r / 2) ∧ fI σ (222 + r) 1 = nI (R r % 2)) (hR4 : ∀ r, R r < 4) : ∀ (n i : Nat) (a : Nat) (b : Nat), i + n = rn → fEv g (d + 1) mX10_trust 94 [some (.ref 89), some (.int (nI s9)), some (.int (nI w)), some (.int (nI (a + mct (fun j => decide (R j / 2 = s9)) n i))), some (.int (nI (b + msf (fun j => if R j / 2 = s9 then R j % 2 else 0) n i))), some (.int (nI rn))] [] σ Q → fEv g (d + 1) mX10_trust 37 [some (.ref 89), some (.int (nI s9)), some (.int (nI w)), some (.int (nI a)), some (.int (nI b)), some (.int (nI i))] [] σ Q := by
  intro n
  induction n with
  | zero =>
    intro i a b hin  h
    refine e_iload dX10_trust_37 rfl ?_
    refine e_aload_n dX10_trust_39 rfl rfl ?_
    refine e_getI dX10_trust_40 fl_RX10_162 (Ms.s 89 rfl) (Ms.n (by decide)) rfl ?_
    refine e_int (nI rn) h23 ?_
    refine e_icmp_ge 94 dX10_trust_43 (by decide) (fun cz => ?_) (fun cz => absurd ((nI_le' (by omega) (by omega)).mpr (by omega)) cz)
    rw [show i = rn by omega] at h ⊢
    exact h
  | succ n ih =>
    intro i a b hin  h
    have hi : i < rn := by omega
    have r4 := hR4 i
    refine e_iload dX10_trust_37 rfl ?_
    refine e_aload_n dX10_trust_39 rfl rfl ?_
    refine e_getI dX10_trust_40 fl_RX10_162 (Ms.s 89 rfl) (Ms.n (by decide)) rfl ?_
    refine e_int (nI rn) h23 ?_
    refine e_icmp_ge 94 dX10_trust_43 (by decide) (fun cz => absurd ((nI_le' (by omega) (by omega)).mp cz) (by omega)) (fun cz => ?_)
    refine e_aload_n dX10_trust_46 rfl rfl ?_
    refine e_getR (q := 221) dX10_trust_47 fl_RX10_61 (Ms.s 89 rfl) (Ms.n (by decide)) rfl (Ms.r 89 28 rfl) (by unfold fscr; omega) ?_
    refine e_iload dX10_trust_50 rfl ?_
    refine e_aaload (q := 222 + i) i dX10_trust_52 (Ms.s 221 rfl) (by decide) (Ms.n (by decide)) rfl (by omega) (by decide) (Ms.r 221 _ (frf_record _ (by omega))) (by unfold fscr; omega) ?_
    refine e_iconst (nI 0) dX10_trust_53 (by decide) ?_
    refine e_iaload 0 dX10_trust_54 (Ms.s _ (fsh_record _ (by omega))) (Ms.n (by omega)) rfl (by omega) (by decide) ?_
    refine e_int (nI (R i / 2)) (hR i (by omega)).1 ?_
    refine e_iconst (nI 1) dX10_trust_55 (by decide) ?_
    refine e_icmp_ne 63 dX10_trust_56 (by decide) (fun c56 => ?_) (fun c56 => ?_)
    · rw [nI_inj (by omega) (by omega)] at c56
      refine e_iconst (nI 0) dX10_trust_63 (by decide) ?_
      refine e_iload_n dX10_trust_64 rfl rfl ?_
      refine e_icmp_eq 71 dX10_trust_65 (by decide) (fun c65 => ?_) (fun c65 => ?_)
      · rw [nI_inj (by omega) (by omega)] at c65
        refine e_iinc (v := nI (a + 1)) (L1 := [some (.ref 89), some (.int (nI s9)), some (.int (nI w)), some (.int (nI (a + 1))), some (.int (nI b)), some (.int (nI i))]) dX10_trust_71 rfl (show nI a + Int32.ofInt 1 = nI (a + 1) from nI_add a 1) (by decide) rfl ?_
        refine e_iload dX10_trust_74 rfl ?_
        refine e_aload_n dX10_trust_76 rfl rfl ?_
        refine e_getR (q := 221) dX10_trust_77 fl_RX10_61 (Ms.s 89 rfl) (Ms.n (by decide)) rfl (Ms.r 89 28 rfl) (by unfold fscr; omega) ?_
        refine e_iload dX10_trust_80 rfl ?_
        refine e_aaload (q := 222 + i) i dX10_trust_82 (Ms.s 221 rfl) (by decide) (Ms.n (by decide)) rfl (by omega) (by decide) (Ms.r 221 _ (frf_record _ (by omega))) (by unfold fscr; omega) ?_
        refine e_iconst (nI 1) dX10_trust_83 (by decide) ?_
        refine e_iaload 1 dX10_trust_84 (Ms.s _ (fsh_record _ (by omega))) (Ms.n (by omega)) rfl (by omega) (by decide) ?_
        refine e_int (nI (R i % 2)) (hR i (by omega)).2 ?_
        refine e_iadd dX10_trust_85 ?_
        refine e_int (nI (b + R i % 2)) (nI_add b (R i % 2)) ?_
        refine e_istore (L1 := [some (.ref 89), some (.int (nI s9)), some (.int (nI w)), some (.int (nI (a + 1))), some (.int (nI (b + R i % 2))), some (.int (nI i))]) dX10_trust_86 (by decide) rfl ?_
        refine e_iinc (v := nI (i + 1)) (L1 := [some (.ref 89), some (.int (nI s9)), some (.int (nI w)), some (.int (nI (a + 1))), some (.int (nI (b + R i % 2))), some (.int (nI (i + 1)))]) dX10_trust_88 rfl (show nI i + Int32.ofInt 1 = nI (i + 1) from nI_add i 1) (by decide) rfl ?_
        refine e_goto 37 dX10_trust_91 (by decide) ?_
        refine ih (i + 1) (a + 1) (b + R i % 2) (by omega) ?_
        have e1 : mct (fun j => decide (R j / 2 = s9)) (n + 1) i = 1 + mct (fun j => decide (R j / 2 = s9)) n (i + 1) := by show bn (decide (R i / 2 = s9)) + _ = _; rw [decide_eq_true (by omega)]; rfl
        have e2 : msf (fun j => if R j / 2 = s9 then R j % 2 else 0) (n + 1) i = R i % 2 + msf (fun j => if R j / 2 = s9 then R j % 2 else 0) n (i + 1) := by show (if R i / 2 = s9 then R i % 2 else 0) + _ = _; rw [if_pos (by omega)]
        rw [e1, e2, ← Nat.add_assoc, ← Nat.add_assoc] at h
        exact h
      · rw [nI_inj (by omega) (by omega)] at c65
        refine e_goto 88 dX10_trust_68 (by decide) ?_
        refine e_iinc (v := nI (i + 1)) (L1 := [some (.ref 89), some (.int (nI s9)), some (.int (nI w)), some (.int (nI a)), some (.int (nI b)), some (.int (nI (i + 1)))]) dX10_trust_88 rfl (show nI i + Int32.ofInt 1 = nI (i + 1) from nI_add i 1) (by decide) rfl ?_
        refine e_goto 37 dX10_trust_91 (by decide) ?_
        refine ih (i + 1) (a) (b) (by omega) ?_
        have e1 : mct (fun j => decide (R j / 2 = s9)) (n + 1) i = 0 + mct (fun j => decide (R j / 2 = s9)) n (i + 1) := by show bn (decide (R i / 2 = s9)) + _ = _; rw [decide_eq_false (by omega)]; rfl
        have e2 : msf (fun j => if R j / 2 = s9 then R j % 2 else 0) (n + 1) i = 0 + msf (fun j => if R j / 2 = s9 then R j % 2 else 0) n (i + 1) := by show (if R i / 2 = s9 then R i % 2 else 0) + _ = _; rw [if_neg (by omega)]
        rw [e1, e2, Nat.zero_add, Nat.zero_add] at h
        exact h
    · rw [nI_inj (by omega) (by omega)] at c56
      refine e_iconst (nI 1) dX10_trust_59 (by decide) ?_
      refine e_goto 64 dX10_trust_60 (by decide) ?_
      refine e_iload_n dX10_trust_64 rfl rfl ?_
      refine e_icmp_eq 71 dX10_trust_65 (by decide) (fun c65 => ?_) (fun c65 => ?_)
      · rw [nI_inj (by omega) (by omega)] at c65
        refine e_iinc (v := nI (a + 1)) (L1 := [some (.ref 89), some (.int (nI s9)), some (.int (nI w)), some (.int (nI (a + 1))), some (.int (nI b)), some (.int (nI i))]) dX10_trust_71 rfl (show nI a + Int32.ofInt 1 = nI (a + 1) from nI_add a 1) (by decide) rfl ?_
        refine e_iload dX10_trust_74 rfl ?_
        refine e_aload_n dX10_trust_76 rfl rfl ?_
        refine e_getR (q := 221) dX10_trust_77 fl_RX10_61 (Ms.s 89 rfl) (Ms.n (by decide)) rfl (Ms.r 89 28 rfl) (by unfold fscr; omega) ?_
        refine e_iload dX10_trust_80 rfl ?_
        refine e_aaload (q := 222 + i) i dX10_trust_82 (Ms.s 221 rfl) (by decide) (Ms.n (by decide)) rfl (by omega) (by decide) (Ms.r 221 _ (frf_record _ (by omega))) (by unfold fscr; omega) ?_
        refine e_iconst (nI 1) dX10_trust_83 (by decide) ?_
        refine e_iaload 1 dX10_trust_84 (Ms.s _ (fsh_record _ (by omega))) (Ms.n (by omega)) rfl (by omega) (by decide) ?_
        refine e_int (nI (R i % 2)) (hR i (by omega)).2 ?_
        refine e_iadd dX10_trust_85 ?_
        refine e_int (nI (b + R i % 2)) (nI_add b (R i % 2)) ?_
        refine e_istore (L1 := [some (.ref 89), some (.int (nI s9)), some (.int (nI w)), some (.int (nI (a + 1))), some (.int (nI (b + R i % 2))), some (.int (nI i))]) dX10_trust_86 (by decide) rfl ?_
        refine e_iinc (v := nI (i + 1)) (L1 := [some (.ref 89), some (.int (nI s9)), some (.int (nI w)), some (.int (nI (a + 1))), some (.int (nI (b + R i % 2))), some (.int (nI (i + 1)))]) dX10_trust_88 rfl (show nI i + Int32.ofInt 1 = nI (i + 1) from nI_add i 1) (by decide) rfl ?_
        refine e_goto 37 dX10_trust_91 (by decide) ?_
        refine ih (i + 1) (a + 1) (b + R i % 2) (by omega) ?_
        have e1 : mct (fun j => decide (R j / 2 = s9)) (n + 1) i = 1 + mct (fun j => decide (R j / 2 = s9)) n (i + 1) := by show bn (decide (R i / 2 = s9)) + _ = _; rw [decide_eq_true (by omega)]; rfl
        have e2 : msf (fun j => if R j / 2 = s9 then R j % 2 else 0) (n + 1) i = R i % 2 + msf (fun j => if R j / 2 = s9 then R j % 2 else 0) n (i + 1) := by show (if R i / 2 = s9 then R i % 2 else 0) + _ = _; rw [if_pos (by omega)]
        rw [e1, e2, ← Nat.add_assoc, ← Nat.add_assoc] at h
        exact h
      · rw [nI_inj (by omega) (by omega)] at c65
        refine e_goto 88 dX10_trust_68 (by decide) ?_
        refine e_iinc (v := nI (i + 1)) (L1 := [some (.ref 89), some (.int (nI s9)), some (.int (nI w)), some (.int (nI a)), some (.int (nI b)), some (.int (nI (i + 1)))]) dX10_trust_88 rfl (show nI i + Int32.ofInt 1 = nI (i + 1) from nI_add i 1) (by decide) rfl ?_
        refine e_goto 37 dX10_trust_91 (by decide) ?_
        refine ih (i + 1) (a) (b) (by omega) ?_
        have e1 : mct (fun j => decide (R j / 2 = s9)) (n + 1) i = 0 + mct (fun j => decide (R j / 2 = s9)) n (i + 1) := by show bn (decide (R i / 2 = s9)) + _ = _; rw [decide_eq_false (by omega)]; rfl
        have e2 : msf (fun j => if R j / 2 = s9 then R j % 2 else 0) (n + 1) i = 0 + msf (fun j => if R j / 2 = s9 then R j % 2 else 0) n (i + 1) := by show (if R i / 2 = s9 then R i % 2 else 0) + _ = _; rw [if_neg (by omega)]
        rw [e1, e2, Nat.zero_add, Nat.zero_add] at h
        exact h
set_option maxRecDepth 20000 in
theorem lp_X10_trust {g : fGP} {d : Nat} {σ : fAH} {Q : fRes → fAH → Prop} {x : fXS} {s9 w : Nat}  (Ms : fMs g σ) (ok : fOK x) (Ir : fIr σ x) (hz : fI σ 89 0 = nI 0) (hs : s9 ≤ 1) (hw : w ≤ 1) (h : ∀ σ', fSm fRfA σ σ' → fIr σ' x → fI σ' 89 0 = nI 0 → Q (.inl (some (.int (vTru (xI x) s9 w)))) σ') : fEv g (d + 1) mX10_trust 5 [some (.ref 89), some (.int (nI s9)), some (.int (nI w)), none, none, none] [] σ Q := by
  obtain ⟨D, ⟨S, T, sd, pn, P, rn, R⟩, B, tp, pl, im, Im⟩ := x
  have hD : fWD D := ok.1
  have hW : fWS D S := ok.2.1.1
  have hC : fWC D S := ok.2.1.2.1
  have hN : fWN S 0 0 := ok.2.1.2.2.1
  have Mr : fMr σ D S sd := Ir.1
  have Mt : fMt σ S T := Ir.2.1
  obtain ⟨t0, t1, t2, t3, t4, t5, t6⟩ := id hD.1
  have np := hW.n hD
  have n5 := hW.2.2.2.2
  have tp6 : tp ≤ 600 := ok.2.2.2.1
  have im3 : im ≤ 3 := ok.2.2.2.2.1
  have pn3 : pn ≤ 30 := ok.2.1.2.2.2.1
  have rn6 : rn ≤ 60 := ok.2.1.2.2.2.2.2.1
  have Rc : fRc σ (S, T, sd, pn, P, rn, R) := Ir.2.2.2.2.1
  have w52 := hW.1
  show fEv g (d + 1) mX10_trust 5 [some (.ref 89), some (.int (nI s9)), some (.int (nI w)), none, none, none] [] σ Q
  refine e_aload_n dX10_trust_5 rfl rfl ?_
  refine e_iload_n dX10_trust_6 rfl rfl ?_
  refine e_iconst (nI 0) dX10_trust_7 (by decide) ?_
  refine e_iconst (nI 1) dX10_trust_8 (by decide) ?_
  refine e_callS [.int (nI w), .int (nI 0), .int (nI 1)] dX10_trust_9 cc_X10_in lk_RX10_110 st_X10_in in_RX10 rfl (Nat.le_of_ble_eq_true rfl) (Nat.le_of_ble_eq_true rfl) ?_
  refine t_X10_inT ⟨(nI_le' (by omega) (by omega)).mpr (by omega), (nI_le' (by omega) (by omega)).mpr (by omega)⟩ (fK_i ?_)
  show fEv g _ mX10_trust 12 [some (.ref 89), some (.int (nI s9)), some (.int (nI w)), none, none, none] [.int (nI 1), .ref 89] σ Q
  refine e_if_ne 19 dX10_trust_12 (by decide) (fun _ => ?_) (fun c => absurd c (by decide))
  refine e_iconst (nI 0) dX10_trust_19 (by decide) ?_
  refine e_iconst (nI 1) dX10_trust_20 (by decide) ?_
  refine e_callV (k := 89) [.int (nI 0), .int (nI 1)] dX10_trust_21 cc_X10_bad lk_RX10_148 im_X10_bad se_X10_bad (by decide) (Ms.s 89 rfl) (Ms.n (by decide)) rfl (Nat.le_of_ble_eq_true rfl) (Nat.le_of_ble_eq_true rfl) ?_
  refine t_X10_bad0 Ms hz (by decide) (fK_i ?_)
  show fEv g _ mX10_trust 24 [some (.ref 89), some (.int (nI s9)), some (.int (nI w)), none, none, none] [.int (nI 0)] σ Q
  refine e_if_eq 29 dX10_trust_24 (by decide) (fun _ => ?_) (fun c => absurd c (by decide))
  refine e_iconst (nI 0) dX10_trust_29 (by decide) ?_
  refine e_istore_n (L1 := [some (.ref 89), some (.int (nI s9)), some (.int (nI w)), some (.int (nI 0)), none, none]) dX10_trust_30 rfl (by decide) rfl ?_
  refine e_iconst (nI 0) dX10_trust_31 (by decide) ?_
  refine e_istore (L1 := [some (.ref 89), some (.int (nI s9)), some (.int (nI w)), some (.int (nI 0)), some (.int (nI 0)), none]) dX10_trust_32 (by decide) rfl ?_
  refine e_iconst (nI 0) dX10_trust_34 (by decide) ?_
  refine e_istore (L1 := [some (.ref 89), some (.int (nI s9)), some (.int (nI w)), some (.int (nI 0)), some (.int (nI 0)), some (.int (nI 0))]) dX10_trust_35 (by decide) rfl ?_
  have hR4 : ∀ j, R j < 4 := ok.2.1.2.2.2.2.2.2
  refine l_X10_tru Ms hs rn6 Rc.2.2.1 Rc.2.2.2 hR4 rn 0 0 0 (by omega) ?_
  rw [Nat.zero_add, Nat.zero_add, mls3 hs hR4, mls4 hs hR4]
  have ml2 : mcr (S, T, sd, pn, P, rn, R) (2 * s9 + 1) ≤ rn := mct_le (fun j => decide (R j = 2 * s9 + 1)) rn 0
  have ml3 : mcr (S, T, sd, pn, P, rn, R) (2 * s9) ≤ rn := mct_le (fun j => decide (R j = 2 * s9)) rn 0
  show fEv g _ mX10_trust 94 [some (.ref 89), some (.int (nI s9)), some (.int (nI w)), some (.int (nI (mcr (S, T, sd, pn, P, rn, R) (2 * s9 + 1) + mcr (S, T, sd, pn, P, rn, R) (2 * s9)))), some (.int (nI (mcr (S, T, sd, pn, P, rn, R) (2 * s9 + 1)))), some (.int (nI rn))] [] σ Q
  refine e_iload_n dX10_trust_94 rfl rfl ?_
  refine e_if_ne 102 dX10_trust_95 (by decide) (fun c95 => ?_) (fun c95 => ?_)
  · rw [nI_z (by omega)] at c95
    refine e_iload dX10_trust_102 rfl ?_
    refine e_i2l dX10_trust_104 ?_
    refine e_long (nL (mcr (S, T, sd, pn, P, rn, R) (2 * s9 + 1))) (nL_i (by omega)) ?_
    refine e_iload_n dX10_trust_105 rfl rfl ?_
    refine e_i2l dX10_trust_106 ?_
    refine e_long (nL (mcr (S, T, sd, pn, P, rn, R) (2 * s9 + 1) + mcr (S, T, sd, pn, P, rn, R) (2 * s9))) (nL_i (by omega)) ?_
    refine e_iload_n dX10_trust_107 rfl rfl ?_
    refine e_callS [.long (nL (mcr (S, T, sd, pn, P, rn, R) (2 * s9 + 1))), .long (nL (mcr (S, T, sd, pn, P, rn, R) (2 * s9 + 1) + mcr (S, T, sd, pn, P, rn, R) (2 * s9))), .int (nI w)] dX10_trust_108 cc_X10_least lk_RX10_303 st_X10_least in_RX10 rfl (Nat.le_of_ble_eq_true rfl) (Nat.le_of_ble_eq_true rfl) ?_
    refine t_X10_least (by omega) (by omega) (by omega) (by omega) (fK_i ?_)
    show fEv g _ mX10_trust 111 [some (.ref 89), some (.int (nI s9)), some (.int (nI w)), some (.int (nI (mcr (S, T, sd, pn, P, rn, R) (2 * s9 + 1) + mcr (S, T, sd, pn, P, rn, R) (2 * s9)))), some (.int (nI (mcr (S, T, sd, pn, P, rn, R) (2 * s9 + 1)))), some (.int (nI rn))] [.long (nL (if w = 0 then (mcr (S, T, sd, pn, P, rn, R) (2 * s9 + 1)) / Nat.gcd (mcr (S, T, sd, pn, P, rn, R) (2 * s9 + 1)) (mcr (S, T, sd, pn, P, rn, R) (2 * s9 + 1) + mcr (S, T, sd, pn, P, rn, R) (2 * s9)) else (mcr (S, T, sd, pn, P, rn, R) (2 * s9 + 1) + mcr (S, T, sd, pn, P, rn, R) (2 * s9)) / Nat.gcd (mcr (S, T, sd, pn, P, rn, R) (2 * s9 + 1)) (mcr (S, T, sd, pn, P, rn, R) (2 * s9 + 1) + mcr (S, T, sd, pn, P, rn, R) (2 * s9))))] σ Q
    refine e_l2i dX10_trust_111 ?_
    refine e_int (nI (if w = 0 then (mcr (S, T, sd, pn, P, rn, R) (2 * s9 + 1)) / Nat.gcd (mcr (S, T, sd, pn, P, rn, R) (2 * s9 + 1)) (mcr (S, T, sd, pn, P, rn, R) (2 * s9 + 1) + mcr (S, T, sd, pn, P, rn, R) (2 * s9)) else (mcr (S, T, sd, pn, P, rn, R) (2 * s9 + 1) + mcr (S, T, sd, pn, P, rn, R) (2 * s9)) / Nat.gcd (mcr (S, T, sd, pn, P, rn, R) (2 * s9 + 1)) (mcr (S, T, sd, pn, P, rn, R) (2 * s9 + 1) + mcr (S, T, sd, pn, P, rn, R) (2 * s9)))) (nL_l2i _) ?_
    have h9 : Q (.inl (some (.int (vTru (S, T, sd, pn, P, rn, R) s9 w)))) σ := h σ fSm.rfl' Ir hz
    unfold vTru at h9
    rw [if_neg (by omega)] at h9
    exact e_ireturn .int dX10_trust_112 rfl rfl h9
  · rw [nI_z (by omega)] at c95
    refine e_iload_n dX10_trust_98 rfl rfl ?_
    refine e_goto 112 dX10_trust_99 (by decide) ?_
    have h9 : Q (.inl (some (.int (vTru (S, T, sd, pn, P, rn, R) s9 w)))) σ := h σ fSm.rfl' Ir hz
    unfold vTru at h9
    rw [if_pos (by omega)] at h9
    exact e_ireturn .int dX10_trust_112 rfl rfl h9
set_option maxRecDepth 20000 in
theorem t_X10_trust {g : fGP} {d : Nat} {σ : fAH} {Q : fRes → fAH → Prop} {x : fXS} {s9 w : Nat}  (Ms : fMs g σ) (ok : fOK x) (Ir : fIr σ x) (hs : s9 ≤ 1) (hw : w ≤ 1) (h : ∀ σ', fSm fRfA σ σ' → fIr σ' x → fI σ' 89 0 = nI 0 → Q (.inl (some (.int (vTru (xI x) s9 w)))) σ') : fEv g (d + 1) mX10_trust 0 (fent [.ref 89, .int (nI s9), .int (nI w)] 6) [] σ Q := by
  have S9 : fSm (fun a => a = 89) σ (fsI σ 89 0 (nI 0)) := fSm_I rfl
  show fEv g (d + 1) mX10_trust 0 [some (.ref 89), some (.int (nI s9)), some (.int (nI w)), none, none, none] [] σ Q
  refine e_aload_n dX10_trust_0 rfl rfl ?_
  refine e_iconst (nI 0) dX10_trust_1 (by decide) ?_
  refine e_putI dX10_trust_2 fl_RX10_76 (Ms.s 89 rfl) (Ms.n (by decide)) rfl rfl ?_
  exact lp_X10_trust (Ms.sm S9) ok (Ir.f0 ok S9 (fun a (q : a = 89) => Or.inl (by omega)) (fun j hj => by simp only [List.mem_cons, List.not_mem_nil, or_false] at hj; rw [fI_I, if_neg (by omega)])) (by rw [fI_I, if_pos ⟨rfl, rfl⟩]) hs hw (fun σ' Sm' => h σ' ((S9.to (fun a (q : a = 89) => by unfold fRfA; omega)).tr Sm'))
set_option maxRecDepth 20000 in
theorem lp_X10_trustE {g : fGP} {d : Nat} {σ : fAH} {Q : fRes → fAH → Prop} {x : fXS} {s9 : Nat} {b : Int32}  (Ms : fMs g σ) (ok : fOK x) (Ir : fIr σ x) (hz : fI σ 89 0 = nI 0) (hv : ¬ (nI 0 ≤ b ∧ b ≤ nI 1)) (h : ∀ σ', fSm fRfA σ σ' → fIr σ' x → fI σ' 89 0 = nI 1 → Q (.inl (some (.int (nI 0)))) σ') : fEv g (d + 1) mX10_trust 5 [some (.ref 89), some (.int (nI s9)), some (.int b), none, none, none] [] σ Q := by
  obtain ⟨D, ⟨S, T, sd, pn, P, rn, R⟩, B, tp, pl, im, Im⟩ := x
  have hD : fWD D := ok.1
  have hW : fWS D S := ok.2.1.1
  have hC : fWC D S := ok.2.1.2.1
  have hN : fWN S 0 0 := ok.2.1.2.2.1
  have Mr : fMr σ D S sd := Ir.1
  have Mt : fMt σ S T := Ir.2.1
  obtain ⟨t0, t1, t2, t3, t4, t5, t6⟩ := id hD.1
  have np := hW.n hD
  have n5 := hW.2.2.2.2
  have tp6 : tp ≤ 600 := ok.2.2.2.1
  have im3 : im ≤ 3 := ok.2.2.2.2.1
  have pn3 : pn ≤ 30 := ok.2.1.2.2.2.1
  have rn6 : rn ≤ 60 := ok.2.1.2.2.2.2.2.1
  have Rc : fRc σ (S, T, sd, pn, P, rn, R) := Ir.2.2.2.2.1
  have w52 := hW.1
  show fEv g (d + 1) mX10_trust 5 [some (.ref 89), some (.int (nI s9)), some (.int b), none, none, none] [] σ Q
  refine e_aload_n dX10_trust_5 rfl rfl ?_
  refine e_iload_n dX10_trust_6 rfl rfl ?_
  refine e_iconst (nI 0) dX10_trust_7 (by decide) ?_
  refine e_iconst (nI 1) dX10_trust_8 (by decide) ?_
  refine e_callS [.int b, .int (nI 0), .int (nI 1)] dX10_trust_9 cc_X10_in lk_RX10_110 st_X10_in in_RX10 rfl (Nat.le_of_ble_eq_true rfl) (Nat.le_of_ble_eq_true rfl) ?_
  refine t_X10_inF hv (fK_i ?_)
  show fEv g _ mX10_trust 12 [some (.ref 89), some (.int (nI s9)), some (.int b), none, none, none] [.int (nI 0), .ref 89] σ Q
  refine e_if_ne 19 dX10_trust_12 (by decide) (fun c => absurd c (by decide)) (fun _ => ?_)
  refine e_iconst (nI 1) dX10_trust_15 (by decide) ?_
  refine e_goto 20 dX10_trust_16 (by decide) ?_
  refine e_iconst (nI 1) dX10_trust_20 (by decide) ?_
  refine e_callV (k := 89) [.int (nI 1), .int (nI 1)] dX10_trust_21 cc_X10_bad lk_RX10_148 im_X10_bad se_X10_bad (by decide) (Ms.s 89 rfl) (Ms.n (by decide)) rfl (Nat.le_of_ble_eq_true rfl) (Nat.le_of_ble_eq_true rfl) ?_
  refine t_X10_bad1 Ms hz (by decide) (fK_i ?_)
  show fEv g _ mX10_trust 24 [some (.ref 89), some (.int (nI s9)), some (.int b), none, none, none] [.int (nI 1)] (fsI σ 89 0 (nI 1)) Q
  refine e_if_eq 29 dX10_trust_24 (by decide) (fun c => absurd c (by decide)) (fun _ => ?_)
  refine e_iconst (nI 0) dX10_trust_27 (by decide) ?_
  exact e_ireturn .int dX10_trust_28 rfl rfl (h _ (fSm_I (by unfold fRfA; omega)) (Ir.f0 ok (A := fun a => a = 89) (fSm_I rfl) (fun a (q : a = 89) => Or.inl (by omega)) (fun j hj => by simp only [List.mem_cons, List.not_mem_nil, or_false] at hj; rw [fI_I, if_neg (by omega)])) (by rw [fI_I, if_pos ⟨rfl, rfl⟩]))
set_option maxRecDepth 20000 in
theorem t_X10_trustE {g : fGP} {d : Nat} {σ : fAH} {Q : fRes → fAH → Prop} {x : fXS} {s9 : Nat} {b : Int32}  (Ms : fMs g σ) (ok : fOK x) (Ir : fIr σ x) (hv : ¬ (nI 0 ≤ b ∧ b ≤ nI 1)) (h : ∀ σ', fSm fRfA σ σ' → fIr σ' x → fI σ' 89 0 = nI 1 → Q (.inl (some (.int (nI 0)))) σ') : fEv g (d + 1) mX10_trust 0 (fent [.ref 89, .int (nI s9), .int b] 6) [] σ Q := by
  have S9 : fSm (fun a => a = 89) σ (fsI σ 89 0 (nI 0)) := fSm_I rfl
  show fEv g (d + 1) mX10_trust 0 [some (.ref 89), some (.int (nI s9)), some (.int b), none, none, none] [] σ Q
  refine e_aload_n dX10_trust_0 rfl rfl ?_
  refine e_iconst (nI 0) dX10_trust_1 (by decide) ?_
  refine e_putI dX10_trust_2 fl_RX10_76 (Ms.s 89 rfl) (Ms.n (by decide)) rfl rfl ?_
  exact lp_X10_trustE (Ms.sm S9) ok (Ir.f0 ok S9 (fun a (q : a = 89) => Or.inl (by omega)) (fun j hj => by simp only [List.mem_cons, List.not_mem_nil, or_false] at hj; rw [fI_I, if_neg (by omega)])) (by rw [fI_I, if_pos ⟨rfl, rfl⟩]) hv (fun σ' Sm' => h σ' ((S9.to (fun a (q : a = 89) => by unfold fRfA; omega)).tr Sm'))
