theorem mho_6 {x : Nat → Nat} {c : Nat} (h : ∀ j, j < c → x j ≤ 26) (hc : c ≤ 6) : mho x c < 387420490 := by
  have h1 := mho_b c h
  have h2 : 27 ^ c ≤ 27 ^ 6 := Nat.pow_le_pow_right (by decide) hc
  have h3 : (27 : Nat) ^ 6 = 387420489 := by decide
  omega
set_option maxRecDepth 20000 in
theorem t_X10_six {g : fGP} {d : Nat} {σ : fAH} {Q : fRes → fAH → Prop} {a b c x4 x5 x6 : Nat} (h5 : x5 < 100) (h6 : x6 < 100) (h : Q (.inl (some (.int (nI (msix a b c x4 x5 x6))))) σ) : fEv g d mX10_six 0 (fent [.int (nI a), .int (nI b), .int (nI c), .int (nI x4), .int (nI x5), .int (nI x6)] 7) [] σ Q := by
  show fEv g d mX10_six 0 [some (.int (nI a)), some (.int (nI b)), some (.int (nI c)), some (.int (nI x4)), some (.int (nI x5)), some (.int (nI x6)), none] [] σ Q
  refine e_bipush (nI 27) dX10_six_0 (by decide) ?_
  refine e_bipush (nI 27) dX10_six_2 (by decide) ?_
  refine e_bipush (nI 27) dX10_six_4 (by decide) ?_
  refine e_iload_n dX10_six_6 rfl rfl ?_
  refine e_imul dX10_six_7 ?_
  refine e_int (nI (27 * a)) (pk_mul 27 a) ?_
  refine e_iload_n dX10_six_8 rfl rfl ?_
  refine e_iadd dX10_six_9 ?_
  refine e_int (nI (27 * a + b)) (nI_add (27 * a) b) ?_
  refine e_imul dX10_six_10 ?_
  refine e_int (nI (27 * (27 * a + b))) (pk_mul 27 (27 * a + b)) ?_
  refine e_iload_n dX10_six_11 rfl rfl ?_
  refine e_iadd dX10_six_12 ?_
  refine e_int (nI (27 * (27 * a + b) + c)) (nI_add (27 * (27 * a + b)) c) ?_
  refine e_imul dX10_six_13 ?_
  refine e_int (nI (27 * (27 * (27 * a + b) + c))) (pk_mul 27 (27 * (27 * a + b) + c)) ?_
  refine e_iload_n dX10_six_14 rfl rfl ?_
  refine e_iadd dX10_six_15 ?_
  refine e_int (nI (27 * (27 * (27 * a + b) + c) + x4)) (nI_add (27 * (27 * (27 * a + b) + c)) x4) ?_
  refine e_istore (L1 := [some (.int (nI a)), some (.int (nI b)), some (.int (nI c)), some (.int (nI x4)), some (.int (nI x5)), some (.int (nI x6)), some (.int (nI (27 * (27 * (27 * a + b) + c) + x4)))]) dX10_six_16 (by decide) rfl ?_
  refine e_iload dX10_six_18 rfl ?_
  refine e_if_ne 28 dX10_six_20 (by decide) (fun c20 => ?_) (fun c20 => ?_)
  · rw [nI_z (by omega)] at c20
    refine e_bipush (nI 27) dX10_six_28 (by decide) ?_
    refine e_iload dX10_six_30 rfl ?_
    refine e_imul dX10_six_32 ?_
    refine e_int (nI (27 * (27 * (27 * (27 * a + b) + c) + x4))) (pk_mul 27 (27 * (27 * (27 * a + b) + c) + x4)) ?_
    refine e_iload dX10_six_33 rfl ?_
    refine e_iadd dX10_six_35 ?_
    refine e_int (nI (27 * (27 * (27 * (27 * a + b) + c) + x4) + x5)) (nI_add (27 * (27 * (27 * (27 * a + b) + c) + x4)) x5) ?_
    refine e_istore (L1 := [some (.int (nI a)), some (.int (nI b)), some (.int (nI c)), some (.int (nI x4)), some (.int (nI x5)), some (.int (nI x6)), some (.int (nI (27 * (27 * (27 * (27 * a + b) + c) + x4) + x5)))]) dX10_six_36 (by decide) rfl ?_
    refine e_iload dX10_six_38 rfl ?_
    refine e_if_ne 48 dX10_six_40 (by decide) (fun c40 => ?_) (fun c40 => ?_)
    · rw [nI_z (by omega)] at c40
      refine e_bipush (nI 27) dX10_six_48 (by decide) ?_
      refine e_iload dX10_six_50 rfl ?_
      refine e_imul dX10_six_52 ?_
      refine e_int (nI (27 * (27 * (27 * (27 * (27 * a + b) + c) + x4) + x5))) (pk_mul 27 (27 * (27 * (27 * (27 * a + b) + c) + x4) + x5)) ?_
      refine e_iload dX10_six_53 rfl ?_
      refine e_iadd dX10_six_55 ?_
      refine e_int (nI (27 * (27 * (27 * (27 * (27 * a + b) + c) + x4) + x5) + x6)) (nI_add (27 * (27 * (27 * (27 * (27 * a + b) + c) + x4) + x5)) x6) ?_
      have e9 : msix a b c x4 x5 x6 = 27 * (27 * (27 * (27 * (27 * a + b) + c) + x4) + x5) + x6 := by unfold msix; rw [if_neg c40]; rw [if_neg c20]
      rw [e9] at h
      exact e_ireturn .int dX10_six_56 rfl rfl h
    · rw [nI_z (by omega)] at c40
      refine e_iload dX10_six_43 rfl ?_
      refine e_goto 56 dX10_six_45 (by decide) ?_
      have e9 : msix a b c x4 x5 x6 = 27 * (27 * (27 * (27 * a + b) + c) + x4) + x5 := by unfold msix; rw [if_pos c40]; rw [if_neg c20]
      rw [e9] at h
      exact e_ireturn .int dX10_six_56 rfl rfl h
  · rw [nI_z (by omega)] at c20
    refine e_iload dX10_six_23 rfl ?_
    refine e_goto 36 dX10_six_25 (by decide) ?_
    refine e_istore (L1 := [some (.int (nI a)), some (.int (nI b)), some (.int (nI c)), some (.int (nI x4)), some (.int (nI x5)), some (.int (nI x6)), some (.int (nI (27 * (27 * (27 * a + b) + c) + x4)))]) dX10_six_36 (by decide) rfl ?_
    refine e_iload dX10_six_38 rfl ?_
    refine e_if_ne 48 dX10_six_40 (by decide) (fun c40 => ?_) (fun c40 => ?_)
    · rw [nI_z (by omega)] at c40
      refine e_bipush (nI 27) dX10_six_48 (by decide) ?_
      refine e_iload dX10_six_50 rfl ?_
      refine e_imul dX10_six_52 ?_
      refine e_int (nI (27 * (27 * (27 * (27 * a + b) + c) + x4))) (pk_mul 27 (27 * (27 * (27 * a + b) + c) + x4)) ?_
      refine e_iload dX10_six_53 rfl ?_
      refine e_iadd dX10_six_55 ?_
      refine e_int (nI (27 * (27 * (27 * (27 * a + b) + c) + x4) + x6)) (nI_add (27 * (27 * (27 * (27 * a + b) + c) + x4)) x6) ?_
      have e9 : msix a b c x4 x5 x6 = 27 * (27 * (27 * (27 * a + b) + c) + x4) + x6 := by unfold msix; rw [if_neg c40]; rw [if_pos c20]
      rw [e9] at h
      exact e_ireturn .int dX10_six_56 rfl rfl h
    · rw [nI_z (by omega)] at c40
      refine e_iload dX10_six_43 rfl ?_
      refine e_goto 56 dX10_six_45 (by decide) ?_
      have e9 : msix a b c x4 x5 x6 = 27 * (27 * (27 * a + b) + c) + x4 := by unfold msix; rw [if_pos c40]; rw [if_pos c20]
      rw [e9] at h
      exact e_ireturn .int dX10_six_56 rfl rfl h
set_option maxRecDepth 20000 in
theorem l_X10_word {g : fGP} {d : Nat} {σ : fAH} {Q : fRes → fAH → Prop} {B : Nat → Nat} {n : Nat} {a : Nat} (Ms : fMs g σ) (hB : ∀ i, i < 600 → fI σ 90 i = nI (B i)) (hb : ∀ i, B i < 256) (hn : fI σ 89 2 = nI n) (hn6 : n ≤ 600) (hat : fI σ 89 4 = nI a) : ∀ (k c : Nat), a + c + k = n → (∀ j, j < c → 97 ≤ B (a + j) ∧ B (a + j) ≤ 122) → mlt B n a = msc (qlt B) k (a + c) → Q (.inl (some (.int (mwv B n a)))) σ → fEv g (d + 1) mX10_wordHere 8 [some (.ref 89), some (.int (nI (mho (fun j => B (a + j) - 96) (min c 6)))), some (.int (nI c))] [] σ Q := by
  intro k
  induction k with
  | zero =>
    intro c ha hx hm h
    have hba := hb (a + c)
    have h6 := mho_6 (x := (fun j => B (a + j) - 96)) (c := min c 6) (fun j hj => by have := hx j (by omega); show B (a + j) - 96 ≤ 26; omega) (by omega)
    refine e_aload_n dX10_wordHere_8 rfl rfl ?_
    refine e_aload_n dX10_wordHere_9 rfl rfl ?_
    refine e_getI dX10_wordHere_10 fl_RX10_85 (Ms.s 89 rfl) (Ms.n (by decide)) rfl ?_
    refine e_int (nI a) hat ?_
    refine e_iload_n dX10_wordHere_13 rfl rfl ?_
    refine e_iadd dX10_wordHere_14 ?_
    refine e_int (nI (a + c)) (nI_add a c) ?_
    refine e_callV (k := 89) [.int (nI (a + c))] dX10_wordHere_15 cc_X10_byteAt lk_RX10_88 im_X10_byteAt se_X10_byteAt (by decide) (Ms.s 89 rfl) (Ms.n (by decide)) rfl (Nat.le_of_ble_eq_true rfl) (Nat.le_of_ble_eq_true rfl) ?_
    refine t_X10_byteAt Ms hB hn hn6 (by omega) (fK_i ?_)
    show fEv g _ mX10_wordHere 18 [some (.ref 89), some (.int (nI (mho (fun j => B (a + j) - 96) (min c 6)))), some (.int (nI c))] [.int (mba B n (a + c))] σ Q
    refine e_bipush (nI 97) dX10_wordHere_18 (by decide) ?_
    refine e_icmp_lt 75 dX10_wordHere_20 (by decide) (fun c20 => ?_) (fun c20 => ?_)
    · rw [mba_lt (hb (a + c)) (by decide)] at c20
      refine e_iload_n dX10_wordHere_75 rfl rfl ?_
      refine e_bipush (nI 6) dX10_wordHere_76 (by decide) ?_
      refine e_icmp_le 85 dX10_wordHere_78 (by decide) (fun c78 => ?_) (fun c78 => ?_)
      · rw [nI_le' (by omega) (by omega)] at c78
        refine e_iload_n dX10_wordHere_85 rfl rfl ?_
        have hm9 : mlt B n a = a + c := by rw [hm]; exact rfl
        have e9 : mwv B n a = nI (mho (fun j => B (a + j) - 96) (min c 6)) := by unfold mwv; rw [hm9, if_neg (by omega), show a + c - a = min c 6 by omega]
        rw [e9] at h
        exact e_ireturn .int dX10_wordHere_86 rfl rfl h
      · rw [nI_le' (by omega) (by omega)] at c78
        refine e_iconst (-1) dX10_wordHere_81 (by decide) ?_
        refine e_goto 86 dX10_wordHere_82 (by decide) ?_
        have hm9 : mlt B n a = a + c := by rw [hm]; exact rfl
        have e9 : mwv B n a = -1 := by unfold mwv; rw [hm9, if_pos (by omega)]
        rw [e9] at h
        exact e_ireturn .int dX10_wordHere_86 rfl rfl h
    · rw [mba_lt (hb (a + c)) (by decide)] at c20
      refine e_aload_n dX10_wordHere_23 rfl rfl ?_
      refine e_aload_n dX10_wordHere_24 rfl rfl ?_
      refine e_getI dX10_wordHere_25 fl_RX10_85 (Ms.s 89 rfl) (Ms.n (by decide)) rfl ?_
      refine e_int (nI a) hat ?_
      refine e_iload_n dX10_wordHere_28 rfl rfl ?_
      refine e_iadd dX10_wordHere_29 ?_
      refine e_int (nI (a + c)) (nI_add a c) ?_
      refine e_callV (k := 89) [.int (nI (a + c))] dX10_wordHere_30 cc_X10_byteAt lk_RX10_88 im_X10_byteAt se_X10_byteAt (by decide) (Ms.s 89 rfl) (Ms.n (by decide)) rfl (Nat.le_of_ble_eq_true rfl) (Nat.le_of_ble_eq_true rfl) ?_
      refine t_X10_byteAt Ms hB hn hn6 (by omega) (fK_i ?_)
      show fEv g _ mX10_wordHere 33 [some (.ref 89), some (.int (nI (mho (fun j => B (a + j) - 96) (min c 6)))), some (.int (nI c))] [.int (mba B n (a + c))] σ Q
      refine e_bipush (nI 122) dX10_wordHere_33 (by decide) ?_
      refine e_icmp_gt 75 dX10_wordHere_35 (by decide) (fun c35 => ?_) (fun c35 => ?_)
      · rw [mba_gt (hb (a + c)) (by decide)] at c35
        refine e_iload_n dX10_wordHere_75 rfl rfl ?_
        refine e_bipush (nI 6) dX10_wordHere_76 (by decide) ?_
        refine e_icmp_le 85 dX10_wordHere_78 (by decide) (fun c78 => ?_) (fun c78 => ?_)
        · rw [nI_le' (by omega) (by omega)] at c78
          refine e_iload_n dX10_wordHere_85 rfl rfl ?_
          have hm9 : mlt B n a = a + c := by rw [hm]; exact rfl
          have e9 : mwv B n a = nI (mho (fun j => B (a + j) - 96) (min c 6)) := by unfold mwv; rw [hm9, if_neg (by omega), show a + c - a = min c 6 by omega]
          rw [e9] at h
          exact e_ireturn .int dX10_wordHere_86 rfl rfl h
        · rw [nI_le' (by omega) (by omega)] at c78
          refine e_iconst (-1) dX10_wordHere_81 (by decide) ?_
          refine e_goto 86 dX10_wordHere_82 (by decide) ?_
          have hm9 : mlt B n a = a + c := by rw [hm]; exact rfl
          have e9 : mwv B n a = -1 := by unfold mwv; rw [hm9, if_pos (by omega)]
          rw [e9] at h
          exact e_ireturn .int dX10_wordHere_86 rfl rfl h
      · rw [mba_gt (hb (a + c)) (by decide)] at c35
        refine e_iload_n dX10_wordHere_38 rfl rfl ?_
        refine e_bipush (nI 6) dX10_wordHere_39 (by decide) ?_
        refine e_icmp_ge 67 dX10_wordHere_41 (by decide) (fun c41 => ?_) (fun c41 => ?_)
        · rw [nI_le' (by omega) (by omega)] at c41
          refine e_iload_n dX10_wordHere_67 rfl rfl ?_
          refine e_istore_n (L1 := [some (.ref 89), some (.int (nI (mho (fun j => B (a + j) - 96) (min c 6)))), some (.int (nI c))]) dX10_wordHere_68 rfl (by decide) rfl ?_
          refine e_iinc (v := nI (c + 1)) (L1 := [some (.ref 89), some (.int (nI (mho (fun j => B (a + j) - 96) (min c 6)))), some (.int (nI (c + 1)))]) dX10_wordHere_69 rfl (show nI c + Int32.ofInt 1 = nI (c + 1) from nI_add c 1) (by decide) rfl ?_
          refine e_goto 8 dX10_wordHere_72 (by decide) ?_
          omega
        · rw [nI_le' (by omega) (by omega)] at c41
          refine e_bipush (nI 27) dX10_wordHere_44 (by decide) ?_
          refine e_iload_n dX10_wordHere_46 rfl rfl ?_
          refine e_imul dX10_wordHere_47 ?_
          refine e_int (nI (27 * (mho (fun j => B (a + j) - 96) (min c 6)))) (pk_mul 27 (mho (fun j => B (a + j) - 96) (min c 6))) ?_
          refine e_aload_n dX10_wordHere_48 rfl rfl ?_
          refine e_aload_n dX10_wordHere_49 rfl rfl ?_
          refine e_getI dX10_wordHere_50 fl_RX10_85 (Ms.s 89 rfl) (Ms.n (by decide)) rfl ?_
          refine e_int (nI a) hat ?_
          refine e_iload_n dX10_wordHere_53 rfl rfl ?_
          refine e_iadd dX10_wordHere_54 ?_
          refine e_int (nI (a + c)) (nI_add a c) ?_
          refine e_callV (k := 89) [.int (nI (a + c))] dX10_wordHere_55 cc_X10_byteAt lk_RX10_88 im_X10_byteAt se_X10_byteAt (by decide) (Ms.s 89 rfl) (Ms.n (by decide)) rfl (Nat.le_of_ble_eq_true rfl) (Nat.le_of_ble_eq_true rfl) ?_
          refine t_X10_byteAt Ms hB hn hn6 (by omega) (fK_i ?_)
          show fEv g _ mX10_wordHere 58 [some (.ref 89), some (.int (nI (mho (fun j => B (a + j) - 96) (min c 6)))), some (.int (nI c))] [.int (mba B n (a + c)), .int (nI (27 * (mho (fun j => B (a + j) - 96) (min c 6))))] σ Q
          refine e_int (nI (B (a + c))) (mba_in (by omega)) ?_
          refine e_iadd dX10_wordHere_58 ?_
          refine e_int (nI (27 * (mho (fun j => B (a + j) - 96) (min c 6)) + (B (a + c)))) (nI_add (27 * (mho (fun j => B (a + j) - 96) (min c 6))) (B (a + c))) ?_
          refine e_bipush (nI 97) dX10_wordHere_59 (by decide) ?_
          refine e_isub dX10_wordHere_61 ?_
          refine e_int (nI ((27 * (mho (fun j => B (a + j) - 96) (min c 6)) + (B (a + c))) - 97)) (pk_sub (by omega)) ?_
          refine e_iconst (nI 1) dX10_wordHere_62 (by decide) ?_
          refine e_iadd dX10_wordHere_63 ?_
          refine e_int (nI ((27 * (mho (fun j => B (a + j) - 96) (min c 6)) + (B (a + c))) - 97 + 1)) (nI_add ((27 * (mho (fun j => B (a + j) - 96) (min c 6)) + (B (a + c))) - 97) 1) ?_
          refine e_goto 68 dX10_wordHere_64 (by decide) ?_
          refine e_istore_n (L1 := [some (.ref 89), some (.int (nI ((27 * (mho (fun j => B (a + j) - 96) (min c 6)) + (B (a + c))) - 97 + 1))), some (.int (nI c))]) dX10_wordHere_68 rfl (by decide) rfl ?_
          refine e_iinc (v := nI (c + 1)) (L1 := [some (.ref 89), some (.int (nI ((27 * (mho (fun j => B (a + j) - 96) (min c 6)) + (B (a + c))) - 97 + 1))), some (.int (nI (c + 1)))]) dX10_wordHere_69 rfl (show nI c + Int32.ofInt 1 = nI (c + 1) from nI_add c 1) (by decide) rfl ?_
          refine e_goto 8 dX10_wordHere_72 (by decide) ?_
          omega
  | succ k ih =>
    intro c ha hx hm h
    have hba := hb (a + c)
    have h6 := mho_6 (x := (fun j => B (a + j) - 96)) (c := min c 6) (fun j hj => by have := hx j (by omega); show B (a + j) - 96 ≤ 26; omega) (by omega)
    refine e_aload_n dX10_wordHere_8 rfl rfl ?_
    refine e_aload_n dX10_wordHere_9 rfl rfl ?_
    refine e_getI dX10_wordHere_10 fl_RX10_85 (Ms.s 89 rfl) (Ms.n (by decide)) rfl ?_
    refine e_int (nI a) hat ?_
    refine e_iload_n dX10_wordHere_13 rfl rfl ?_
    refine e_iadd dX10_wordHere_14 ?_
    refine e_int (nI (a + c)) (nI_add a c) ?_
    refine e_callV (k := 89) [.int (nI (a + c))] dX10_wordHere_15 cc_X10_byteAt lk_RX10_88 im_X10_byteAt se_X10_byteAt (by decide) (Ms.s 89 rfl) (Ms.n (by decide)) rfl (Nat.le_of_ble_eq_true rfl) (Nat.le_of_ble_eq_true rfl) ?_
    refine t_X10_byteAt Ms hB hn hn6 (by omega) (fK_i ?_)
    show fEv g _ mX10_wordHere 18 [some (.ref 89), some (.int (nI (mho (fun j => B (a + j) - 96) (min c 6)))), some (.int (nI c))] [.int (mba B n (a + c))] σ Q
    refine e_bipush (nI 97) dX10_wordHere_18 (by decide) ?_
    refine e_icmp_lt 75 dX10_wordHere_20 (by decide) (fun c20 => ?_) (fun c20 => ?_)
    · rw [mba_lt (hb (a + c)) (by decide)] at c20
      refine e_iload_n dX10_wordHere_75 rfl rfl ?_
      refine e_bipush (nI 6) dX10_wordHere_76 (by decide) ?_
      refine e_icmp_le 85 dX10_wordHere_78 (by decide) (fun c78 => ?_) (fun c78 => ?_)
      · rw [nI_le' (by omega) (by omega)] at c78
        refine e_iload_n dX10_wordHere_85 rfl rfl ?_
        have hm9 : mlt B n a = a + c := by rw [hm]; exact msc_f (decide_eq_false (by omega))
        have e9 : mwv B n a = nI (mho (fun j => B (a + j) - 96) (min c 6)) := by unfold mwv; rw [hm9, if_neg (by omega), show a + c - a = min c 6 by omega]
        rw [e9] at h
        exact e_ireturn .int dX10_wordHere_86 rfl rfl h
      · rw [nI_le' (by omega) (by omega)] at c78
        refine e_iconst (-1) dX10_wordHere_81 (by decide) ?_
        refine e_goto 86 dX10_wordHere_82 (by decide) ?_
        have hm9 : mlt B n a = a + c := by rw [hm]; exact msc_f (decide_eq_false (by omega))
        have e9 : mwv B n a = -1 := by unfold mwv; rw [hm9, if_pos (by omega)]
        rw [e9] at h
        exact e_ireturn .int dX10_wordHere_86 rfl rfl h
    · rw [mba_lt (hb (a + c)) (by decide)] at c20
      refine e_aload_n dX10_wordHere_23 rfl rfl ?_
      refine e_aload_n dX10_wordHere_24 rfl rfl ?_
      refine e_getI dX10_wordHere_25 fl_RX10_85 (Ms.s 89 rfl) (Ms.n (by decide)) rfl ?_
      refine e_int (nI a) hat ?_
      refine e_iload_n dX10_wordHere_28 rfl rfl ?_
      refine e_iadd dX10_wordHere_29 ?_
      refine e_int (nI (a + c)) (nI_add a c) ?_
      refine e_callV (k := 89) [.int (nI (a + c))] dX10_wordHere_30 cc_X10_byteAt lk_RX10_88 im_X10_byteAt se_X10_byteAt (by decide) (Ms.s 89 rfl) (Ms.n (by decide)) rfl (Nat.le_of_ble_eq_true rfl) (Nat.le_of_ble_eq_true rfl) ?_
      refine t_X10_byteAt Ms hB hn hn6 (by omega) (fK_i ?_)
      show fEv g _ mX10_wordHere 33 [some (.ref 89), some (.int (nI (mho (fun j => B (a + j) - 96) (min c 6)))), some (.int (nI c))] [.int (mba B n (a + c))] σ Q
      refine e_bipush (nI 122) dX10_wordHere_33 (by decide) ?_
      refine e_icmp_gt 75 dX10_wordHere_35 (by decide) (fun c35 => ?_) (fun c35 => ?_)
      · rw [mba_gt (hb (a + c)) (by decide)] at c35
        refine e_iload_n dX10_wordHere_75 rfl rfl ?_
        refine e_bipush (nI 6) dX10_wordHere_76 (by decide) ?_
        refine e_icmp_le 85 dX10_wordHere_78 (by decide) (fun c78 => ?_) (fun c78 => ?_)
        · rw [nI_le' (by omega) (by omega)] at c78
          refine e_iload_n dX10_wordHere_85 rfl rfl ?_
          have hm9 : mlt B n a = a + c := by rw [hm]; exact msc_f (decide_eq_false (by omega))
          have e9 : mwv B n a = nI (mho (fun j => B (a + j) - 96) (min c 6)) := by unfold mwv; rw [hm9, if_neg (by omega), show a + c - a = min c 6 by omega]
          rw [e9] at h
          exact e_ireturn .int dX10_wordHere_86 rfl rfl h
        · rw [nI_le' (by omega) (by omega)] at c78
          refine e_iconst (-1) dX10_wordHere_81 (by decide) ?_
          refine e_goto 86 dX10_wordHere_82 (by decide) ?_
          have hm9 : mlt B n a = a + c := by rw [hm]; exact msc_f (decide_eq_false (by omega))
          have e9 : mwv B n a = -1 := by unfold mwv; rw [hm9, if_pos (by omega)]
          rw [e9] at h
          exact e_ireturn .int dX10_wordHere_86 rfl rfl h
      · rw [mba_gt (hb (a + c)) (by decide)] at c35
        refine e_iload_n dX10_wordHere_38 rfl rfl ?_
        refine e_bipush (nI 6) dX10_wordHere_39 (by decide) ?_
        refine e_icmp_ge 67 dX10_wordHere_41 (by decide) (fun c41 => ?_) (fun c41 => ?_)
        · rw [nI_le' (by omega) (by omega)] at c41
          refine e_iload_n dX10_wordHere_67 rfl rfl ?_
          refine e_istore_n (L1 := [some (.ref 89), some (.int (nI (mho (fun j => B (a + j) - 96) (min c 6)))), some (.int (nI c))]) dX10_wordHere_68 rfl (by decide) rfl ?_
          refine e_iinc (v := nI (c + 1)) (L1 := [some (.ref 89), some (.int (nI (mho (fun j => B (a + j) - 96) (min c 6)))), some (.int (nI (c + 1)))]) dX10_wordHere_69 rfl (show nI c + Int32.ofInt 1 = nI (c + 1) from nI_add c 1) (by decide) rfl ?_
          refine e_goto 8 dX10_wordHere_72 (by decide) ?_
          have hq : qlt B (a + c) = true := decide_eq_true (by omega)
          have hx9 : ∀ j, j < c + 1 → 97 ≤ B (a + j) ∧ B (a + j) ≤ 122 := fun j hj => (Nat.lt_or_eq_of_le (Nat.le_of_lt_succ hj)).elim (hx j) (fun e => by rw [e]; omega)
          have k9 := ih (c + 1) (by omega) hx9 (by rw [hm, msc_t hq]; rfl) h
          rw [show min (c + 1) 6 = min c 6 by omega] at k9
          exact k9
        · rw [nI_le' (by omega) (by omega)] at c41
          refine e_bipush (nI 27) dX10_wordHere_44 (by decide) ?_
          refine e_iload_n dX10_wordHere_46 rfl rfl ?_
          refine e_imul dX10_wordHere_47 ?_
          refine e_int (nI (27 * (mho (fun j => B (a + j) - 96) (min c 6)))) (pk_mul 27 (mho (fun j => B (a + j) - 96) (min c 6))) ?_
          refine e_aload_n dX10_wordHere_48 rfl rfl ?_
          refine e_aload_n dX10_wordHere_49 rfl rfl ?_
          refine e_getI dX10_wordHere_50 fl_RX10_85 (Ms.s 89 rfl) (Ms.n (by decide)) rfl ?_
          refine e_int (nI a) hat ?_
          refine e_iload_n dX10_wordHere_53 rfl rfl ?_
          refine e_iadd dX10_wordHere_54 ?_
          refine e_int (nI (a + c)) (nI_add a c) ?_
          refine e_callV (k := 89) [.int (nI (a + c))] dX10_wordHere_55 cc_X10_byteAt lk_RX10_88 im_X10_byteAt se_X10_byteAt (by decide) (Ms.s 89 rfl) (Ms.n (by decide)) rfl (Nat.le_of_ble_eq_true rfl) (Nat.le_of_ble_eq_true rfl) ?_
          refine t_X10_byteAt Ms hB hn hn6 (by omega) (fK_i ?_)
          show fEv g _ mX10_wordHere 58 [some (.ref 89), some (.int (nI (mho (fun j => B (a + j) - 96) (min c 6)))), some (.int (nI c))] [.int (mba B n (a + c)), .int (nI (27 * (mho (fun j => B (a + j) - 96) (min c 6))))] σ Q
          refine e_int (nI (B (a + c))) (mba_in (by omega)) ?_
          refine e_iadd dX10_wordHere_58 ?_
          refine e_int (nI (27 * (mho (fun j => B (a + j) - 96) (min c 6)) + (B (a + c)))) (nI_add (27 * (mho (fun j => B (a + j) - 96) (min c 6))) (B (a + c))) ?_
          refine e_bipush (nI 97) dX10_wordHere_59 (by decide) ?_
          refine e_isub dX10_wordHere_61 ?_
          refine e_int (nI ((27 * (mho (fun j => B (a + j) - 96) (min c 6)) + (B (a + c))) - 97)) (pk_sub (by omega)) ?_
          refine e_iconst (nI 1) dX10_wordHere_62 (by decide) ?_
          refine e_iadd dX10_wordHere_63 ?_
          refine e_int (nI ((27 * (mho (fun j => B (a + j) - 96) (min c 6)) + (B (a + c))) - 97 + 1)) (nI_add ((27 * (mho (fun j => B (a + j) - 96) (min c 6)) + (B (a + c))) - 97) 1) ?_
          refine e_goto 68 dX10_wordHere_64 (by decide) ?_
          refine e_istore_n (L1 := [some (.ref 89), some (.int (nI ((27 * (mho (fun j => B (a + j) - 96) (min c 6)) + (B (a + c))) - 97 + 1))), some (.int (nI c))]) dX10_wordHere_68 rfl (by decide) rfl ?_
          refine e_iinc (v := nI (c + 1)) (L1 := [some (.ref 89), some (.int (nI ((27 * (mho (fun j => B (a + j) - 96) (min c 6)) + (B (a + c))) - 97 + 1))), some (.int (nI (c + 1)))]) dX10_wordHere_69 rfl (show nI c + Int32.ofInt 1 = nI (c + 1) from nI_add c 1) (by decide) rfl ?_
          refine e_goto 8 dX10_wordHere_72 (by decide) ?_
          have hq : qlt B (a + c) = true := decide_eq_true (by omega)
          have hx9 : ∀ j, j < c + 1 → 97 ≤ B (a + j) ∧ B (a + j) ≤ 122 := fun j hj => (Nat.lt_or_eq_of_le (Nat.le_of_lt_succ hj)).elim (hx j) (fun e => by rw [e]; omega)
          have k9 := ih (c + 1) (by omega) hx9 (by rw [hm, msc_t hq]; rfl) h
          rw [show min (c + 1) 6 = c + 1 by omega, show mho (fun j => B (a + j) - 96) (c + 1) = (27 * (mho (fun j => B (a + j) - 96) (min c 6)) + (B (a + c))) - 97 + 1 by show 27 * mho (fun j => B (a + j) - 96) c + (B (a + c) - 96) = _; rw [show min c 6 = c by omega]; omega] at k9
          exact k9
set_option maxRecDepth 20000 in
theorem t_X10_blanks0 {g : fGP} {d : Nat} {σ : fAH} {Q : fRes → fAH → Prop} {B : Nat → Nat} {n : Nat} {a : Nat} (Ms : fMs g σ) (hB : ∀ i, i < 600 → fI σ 90 i = nI (B i)) (hb : ∀ i, B i < 256) (hn : fI σ 89 2 = nI n) (hn6 : n ≤ 600) (hat : fI σ 89 4 = nI a) (ha : a ≤ n) (hbl : mbl B n a = a) (h : Q (.inl none) σ) : fEv g (d + 1) mX10_blanks 0 (fent [.ref 89] 1) [] σ Q := by
  exact t_X10_blanks Ms hB hb hn hn6 hat ha (by rw [hbl, fsI_id hat]; exact h)
set_option maxRecDepth 20000 in
theorem t_X10_wordHere {g : fGP} {d : Nat} {σ : fAH} {Q : fRes → fAH → Prop} {B : Nat → Nat} {n : Nat} {a : Nat} (Ms : fMs g σ) (hB : ∀ i, i < 600 → fI σ 90 i = nI (B i)) (hb : ∀ i, B i < 256) (hn : fI σ 89 2 = nI n) (hn6 : n ≤ 600) (hat : fI σ 89 4 = nI a) (ha : a ≤ n) (hbl : mbl B n a = a) (h : Q (.inl (some (.int (mwv B n a)))) σ) : fEv g (d + 2) mX10_wordHere 0 (fent [.ref 89] 3) [] σ Q := by
  show fEv g (d + 2) mX10_wordHere 0 [some (.ref 89), none, none] [] σ Q
  refine e_aload_n dX10_wordHere_0 rfl rfl ?_
  refine e_callV (k := 89) [] dX10_wordHere_1 cc_X10_blanks lk_RX10_98 im_X10_blanks se_X10_blanks (by decide) (Ms.s 89 rfl) (Ms.n (by decide)) rfl (Nat.le_of_ble_eq_true rfl) (Nat.le_of_ble_eq_true rfl) ?_
  refine t_X10_blanks0 (B := B) (n := n) (a := a) Ms hB hb hn hn6 hat ha hbl (fK_v ?_)
  show fEv g _ mX10_wordHere 4 [some (.ref 89), none, none] [] σ Q
  refine e_iconst (nI 0) dX10_wordHere_4 (by decide) ?_
  refine e_istore_n (L1 := [some (.ref 89), some (.int (nI 0)), none]) dX10_wordHere_5 rfl (by decide) rfl ?_
  refine e_iconst (nI 0) dX10_wordHere_6 (by decide) ?_
  refine e_istore_n (L1 := [some (.ref 89), some (.int (nI 0)), some (.int (nI 0))]) dX10_wordHere_7 rfl (by decide) rfl ?_
  exact l_X10_word Ms hB hb hn hn6 hat (n - a) 0 (by omega) (fun j hj => absurd hj (by omega)) rfl h
set_option maxRecDepth 20000 in
theorem t_X10_isWord {g : fGP} {d : Nat} {σ : fAH} {Q : fRes → fAH → Prop} {B : Nat → Nat} {n : Nat} {a w : Nat} (Ms : fMs g σ) (hB : ∀ i, i < 600 → fI σ 90 i = nI (B i)) (hb : ∀ i, B i < 256) (hn : fI σ 89 2 = nI n) (hn6 : n ≤ 600) (hat : fI σ 89 4 = nI a) (ha : a ≤ n) (hbl : mbl B n a = a) (hf : fI σ 89 5 = nI 0) (hw : w < 7) (h : Q (.inl (some (.int (nI (bn (mwe B a (mlt B n a) w)))))) σ) : fEv g (d + 3) mX10_isWord 0 (fent [.ref 89, .int (nI (fwn w))] 2) [] σ Q := by
  show fEv g (d + 3) mX10_isWord 0 [some (.ref 89), some (.int (nI (fwn w)))] [] σ Q
  refine e_aload_n dX10_isWord_0 rfl rfl ?_
  refine e_getI dX10_isWord_1 fl_RX10_92 (Ms.s 89 rfl) (Ms.n (by decide)) rfl ?_
  refine e_int (nI 0) hf ?_
  refine e_if_ne 19 dX10_isWord_4 (by decide) (fun c => absurd c (by decide)) (fun _ => ?_)
  refine e_aload_n dX10_isWord_7 rfl rfl ?_
  refine e_callV (k := 89) [] dX10_isWord_8 cc_X10_wordHere lk_RX10_114 im_X10_wordHere se_X10_wordHere (by decide) (Ms.s 89 rfl) (Ms.n (by decide)) rfl (Nat.le_of_ble_eq_true rfl) (Nat.le_of_ble_eq_true rfl) ?_
  refine t_X10_wordHere Ms hB hb hn hn6 hat ha hbl (fK_i ?_)
  show fEv g _ mX10_isWord 11 [some (.ref 89), some (.int (nI (fwn w)))] [.int (mwv B n a)] σ Q
  refine e_iload_n dX10_isWord_11 rfl rfl ?_
  refine e_icmp_ne 19 dX10_isWord_12 (by decide) (fun c12 => ?_) (fun c12 => ?_)
  · rw [mwv_e hw ha] at c12
    refine e_iconst (nI 0) dX10_isWord_19 (by decide) ?_
    have hm : mwe B a (mlt B n a) w = false := (by cases q : mwe B a (mlt B n a) w; rfl; exact absurd q c12)
    rw [hm] at h
    exact e_ireturn .boolean dX10_isWord_20 rfl (by decide) h
  · rw [mwv_e hw ha] at c12
    refine e_iconst (nI 1) dX10_isWord_15 (by decide) ?_
    refine e_goto 20 dX10_isWord_16 (by decide) ?_
    have hm : mwe B a (mlt B n a) w = true := c12
    rw [hm] at h
    exact e_ireturn .boolean dX10_isWord_20 rfl (by decide) h
set_option maxRecDepth 20000 in
theorem t_X10_kindHere {g : fGP} {d : Nat} {σ : fAH} {Q : fRes → fAH → Prop} {B : Nat → Nat} {n : Nat} {a : Nat} (Ms : fMs g σ) (hB : ∀ i, i < 600 → fI σ 90 i = nI (B i)) (hb : ∀ i, B i < 256) (hn : fI σ 89 2 = nI n) (hn6 : n ≤ 600) (hat : fI σ 89 4 = nI a) (ha : a ≤ n) (hbl : mbl B n a = a) (hf : fI σ 89 5 = nI 0) (h : Q (.inl (some (.int (mo (mwr B a (mlt B n a)))))) σ) : fEv g (d + 4) mX10_kindHere 0 (fent [.ref 89] 1) [] σ Q := by
  show fEv g (d + 4) mX10_kindHere 0 [some (.ref 89)] [] σ Q
  refine e_aload_n dX10_kindHere_0 rfl rfl ?_
  refine e_iconst (nI 2) dX10_kindHere_1 (by decide) ?_
  refine e_bipush (nI 12) dX10_kindHere_2 (by decide) ?_
  refine e_bipush (nI 15) dX10_kindHere_4 (by decide) ?_
  refine e_iconst (nI 3) dX10_kindHere_6 (by decide) ?_
  refine e_bipush (nI 11) dX10_kindHere_7 (by decide) ?_
  refine e_iconst (nI 0) dX10_kindHere_9 (by decide) ?_
  refine e_callS [.int (nI 2), .int (nI 12), .int (nI 15), .int (nI 3), .int (nI 11), .int (nI 0)] dX10_kindHere_10 cc_X10_six lk_RX10_118 st_X10_six in_RX10 rfl (Nat.le_of_ble_eq_true rfl) (Nat.le_of_ble_eq_true rfl) ?_
  refine t_X10_six (by decide) (by decide) (fK_i ?_)
  show fEv g _ mX10_kindHere 13 [some (.ref 89)] [.int (nI (msix 2 12 15 3 11 0)), .ref 89] σ Q
  refine e_int (nI (fwn 0)) (by decide) ?_
  refine e_callV (k := 89) [.int (nI (fwn 0))] dX10_kindHere_13 cc_X10_isWord lk_RX10_122 im_X10_isWord se_X10_isWord (by decide) (Ms.s 89 rfl) (Ms.n (by decide)) rfl (Nat.le_of_ble_eq_true rfl) (Nat.le_of_ble_eq_true rfl) ?_
  refine t_X10_isWord Ms hB hb hn hn6 hat ha hbl hf (by decide) (fK_i ?_)
  show fEv g _ mX10_kindHere 16 [some (.ref 89)] [.int (nI (bn (mwe B a (mlt B n a) 0)))] σ Q
  refine e_if_eq 21 dX10_kindHere_16 (by decide) (fun c16 => ?_) (fun c16 => ?_)
  · have c16 := bn0 c16
    refine e_aload_n dX10_kindHere_21 rfl rfl ?_
    refine e_bipush (nI 19) dX10_kindHere_22 (by decide) ?_
    refine e_bipush (nI 12) dX10_kindHere_24 (by decide) ?_
    refine e_bipush (nI 15) dX10_kindHere_26 (by decide) ?_
    refine e_bipush (nI 20) dX10_kindHere_28 (by decide) ?_
    refine e_iconst (nI 0) dX10_kindHere_30 (by decide) ?_
    refine e_iconst (nI 0) dX10_kindHere_31 (by decide) ?_
    refine e_callS [.int (nI 19), .int (nI 12), .int (nI 15), .int (nI 20), .int (nI 0), .int (nI 0)] dX10_kindHere_32 cc_X10_six lk_RX10_118 st_X10_six in_RX10 rfl (Nat.le_of_ble_eq_true rfl) (Nat.le_of_ble_eq_true rfl) ?_
    refine t_X10_six (by decide) (by decide) (fK_i ?_)
    show fEv g _ mX10_kindHere 35 [some (.ref 89)] [.int (nI (msix 19 12 15 20 0 0)), .ref 89] σ Q
    refine e_int (nI (fwn 1)) (by decide) ?_
    refine e_callV (k := 89) [.int (nI (fwn 1))] dX10_kindHere_35 cc_X10_isWord lk_RX10_122 im_X10_isWord se_X10_isWord (by decide) (Ms.s 89 rfl) (Ms.n (by decide)) rfl (Nat.le_of_ble_eq_true rfl) (Nat.le_of_ble_eq_true rfl) ?_
    refine t_X10_isWord Ms hB hb hn hn6 hat ha hbl hf (by decide) (fK_i ?_)
    show fEv g _ mX10_kindHere 38 [some (.ref 89)] [.int (nI (bn (mwe B a (mlt B n a) 1)))] σ Q
    refine e_if_eq 43 dX10_kindHere_38 (by decide) (fun c38 => ?_) (fun c38 => ?_)
    · have c38 := bn0 c38
      refine e_aload_n dX10_kindHere_43 rfl rfl ?_
      refine e_bipush (nI 15) dX10_kindHere_44 (by decide) ?_
      refine e_bipush (nI 18) dX10_kindHere_46 (by decide) ?_
      refine e_iconst (nI 4) dX10_kindHere_48 (by decide) ?_
      refine e_iconst (nI 5) dX10_kindHere_49 (by decide) ?_
      refine e_bipush (nI 18) dX10_kindHere_50 (by decide) ?_
      refine e_iconst (nI 0) dX10_kindHere_52 (by decide) ?_
      refine e_callS [.int (nI 15), .int (nI 18), .int (nI 4), .int (nI 5), .int (nI 18), .int (nI 0)] dX10_kindHere_53 cc_X10_six lk_RX10_118 st_X10_six in_RX10 rfl (Nat.le_of_ble_eq_true rfl) (Nat.le_of_ble_eq_true rfl) ?_
      refine t_X10_six (by decide) (by decide) (fK_i ?_)
      show fEv g _ mX10_kindHere 56 [some (.ref 89)] [.int (nI (msix 15 18 4 5 18 0)), .ref 89] σ Q
      refine e_int (nI (fwn 2)) (by decide) ?_
      refine e_callV (k := 89) [.int (nI (fwn 2))] dX10_kindHere_56 cc_X10_isWord lk_RX10_122 im_X10_isWord se_X10_isWord (by decide) (Ms.s 89 rfl) (Ms.n (by decide)) rfl (Nat.le_of_ble_eq_true rfl) (Nat.le_of_ble_eq_true rfl) ?_
      refine t_X10_isWord Ms hB hb hn hn6 hat ha hbl hf (by decide) (fK_i ?_)
      show fEv g _ mX10_kindHere 59 [some (.ref 89)] [.int (nI (bn (mwe B a (mlt B n a) 2)))] σ Q
      refine e_if_eq 64 dX10_kindHere_59 (by decide) (fun c59 => ?_) (fun c59 => ?_)
      · have c59 := bn0 c59
        refine e_aload_n dX10_kindHere_64 rfl rfl ?_
        refine e_bipush (nI 23) dX10_kindHere_65 (by decide) ?_
        refine e_iconst (nI 1) dX10_kindHere_67 (by decide) ?_
        refine e_bipush (nI 20) dX10_kindHere_68 (by decide) ?_
        refine e_iconst (nI 5) dX10_kindHere_70 (by decide) ?_
        refine e_bipush (nI 18) dX10_kindHere_71 (by decide) ?_
        refine e_iconst (nI 0) dX10_kindHere_73 (by decide) ?_
        refine e_callS [.int (nI 23), .int (nI 1), .int (nI 20), .int (nI 5), .int (nI 18), .int (nI 0)] dX10_kindHere_74 cc_X10_six lk_RX10_118 st_X10_six in_RX10 rfl (Nat.le_of_ble_eq_true rfl) (Nat.le_of_ble_eq_true rfl) ?_
        refine t_X10_six (by decide) (by decide) (fK_i ?_)
        show fEv g _ mX10_kindHere 77 [some (.ref 89)] [.int (nI (msix 23 1 20 5 18 0)), .ref 89] σ Q
        refine e_int (nI (fwn 4)) (by decide) ?_
        refine e_callV (k := 89) [.int (nI (fwn 4))] dX10_kindHere_77 cc_X10_isWord lk_RX10_122 im_X10_isWord se_X10_isWord (by decide) (Ms.s 89 rfl) (Ms.n (by decide)) rfl (Nat.le_of_ble_eq_true rfl) (Nat.le_of_ble_eq_true rfl) ?_
        refine t_X10_isWord Ms hB hb hn hn6 hat ha hbl hf (by decide) (fK_i ?_)
        show fEv g _ mX10_kindHere 80 [some (.ref 89)] [.int (nI (bn (mwe B a (mlt B n a) 4)))] σ Q
        refine e_if_eq 85 dX10_kindHere_80 (by decide) (fun c80 => ?_) (fun c80 => ?_)
        · have c80 := bn0 c80
          refine e_aload_n dX10_kindHere_85 rfl rfl ?_
          refine e_bipush (nI 19) dX10_kindHere_86 (by decide) ?_
          refine e_bipush (nI 12) dX10_kindHere_88 (by decide) ?_
          refine e_iconst (nI 5) dX10_kindHere_90 (by decide) ?_
          refine e_iconst (nI 4) dX10_kindHere_91 (by decide) ?_
          refine e_bipush (nI 7) dX10_kindHere_92 (by decide) ?_
          refine e_iconst (nI 5) dX10_kindHere_94 (by decide) ?_
          refine e_callS [.int (nI 19), .int (nI 12), .int (nI 5), .int (nI 4), .int (nI 7), .int (nI 5)] dX10_kindHere_95 cc_X10_six lk_RX10_118 st_X10_six in_RX10 rfl (Nat.le_of_ble_eq_true rfl) (Nat.le_of_ble_eq_true rfl) ?_
          refine t_X10_six (by decide) (by decide) (fK_i ?_)
          show fEv g _ mX10_kindHere 98 [some (.ref 89)] [.int (nI (msix 19 12 5 4 7 5)), .ref 89] σ Q
          refine e_int (nI (fwn 5)) (by decide) ?_
          refine e_callV (k := 89) [.int (nI (fwn 5))] dX10_kindHere_98 cc_X10_isWord lk_RX10_122 im_X10_isWord se_X10_isWord (by decide) (Ms.s 89 rfl) (Ms.n (by decide)) rfl (Nat.le_of_ble_eq_true rfl) (Nat.le_of_ble_eq_true rfl) ?_
          refine t_X10_isWord Ms hB hb hn hn6 hat ha hbl hf (by decide) (fK_i ?_)
          show fEv g _ mX10_kindHere 101 [some (.ref 89)] [.int (nI (bn (mwe B a (mlt B n a) 5)))] σ Q
          refine e_if_eq 106 dX10_kindHere_101 (by decide) (fun c101 => ?_) (fun c101 => ?_)
          · have c101 := bn0 c101
            refine e_aload_n dX10_kindHere_106 rfl rfl ?_
            refine e_bipush (nI 20) dX10_kindHere_107 (by decide) ?_
            refine e_bipush (nI 8) dX10_kindHere_109 (by decide) ?_
            refine e_iconst (nI 1) dX10_kindHere_111 (by decide) ?_
            refine e_bipush (nI 23) dX10_kindHere_112 (by decide) ?_
            refine e_iconst (nI 0) dX10_kindHere_114 (by decide) ?_
            refine e_iconst (nI 0) dX10_kindHere_115 (by decide) ?_
            refine e_callS [.int (nI 20), .int (nI 8), .int (nI 1), .int (nI 23), .int (nI 0), .int (nI 0)] dX10_kindHere_116 cc_X10_six lk_RX10_118 st_X10_six in_RX10 rfl (Nat.le_of_ble_eq_true rfl) (Nat.le_of_ble_eq_true rfl) ?_
            refine t_X10_six (by decide) (by decide) (fK_i ?_)
            show fEv g _ mX10_kindHere 119 [some (.ref 89)] [.int (nI (msix 20 8 1 23 0 0)), .ref 89] σ Q
            refine e_int (nI (fwn 6)) (by decide) ?_
            refine e_callV (k := 89) [.int (nI (fwn 6))] dX10_kindHere_119 cc_X10_isWord lk_RX10_122 im_X10_isWord se_X10_isWord (by decide) (Ms.s 89 rfl) (Ms.n (by decide)) rfl (Nat.le_of_ble_eq_true rfl) (Nat.le_of_ble_eq_true rfl) ?_
            refine t_X10_isWord Ms hB hb hn hn6 hat ha hbl hf (by decide) (fK_i ?_)
            show fEv g _ mX10_kindHere 122 [some (.ref 89)] [.int (nI (bn (mwe B a (mlt B n a) 6)))] σ Q
            refine e_if_eq 127 dX10_kindHere_122 (by decide) (fun c122 => ?_) (fun c122 => ?_)
            · have c122 := bn0 c122
              refine e_aload_n dX10_kindHere_127 rfl rfl ?_
              refine e_bipush (nI 15) dX10_kindHere_128 (by decide) ?_
              refine e_iconst (nI 4) dX10_kindHere_130 (by decide) ?_
              refine e_iconst (nI 4) dX10_kindHere_131 (by decide) ?_
              refine e_bipush (nI 19) dX10_kindHere_132 (by decide) ?_
              refine e_iconst (nI 0) dX10_kindHere_134 (by decide) ?_
              refine e_iconst (nI 0) dX10_kindHere_135 (by decide) ?_
              refine e_callS [.int (nI 15), .int (nI 4), .int (nI 4), .int (nI 19), .int (nI 0), .int (nI 0)] dX10_kindHere_136 cc_X10_six lk_RX10_118 st_X10_six in_RX10 rfl (Nat.le_of_ble_eq_true rfl) (Nat.le_of_ble_eq_true rfl) ?_
              refine t_X10_six (by decide) (by decide) (fK_i ?_)
              show fEv g _ mX10_kindHere 139 [some (.ref 89)] [.int (nI (msix 15 4 4 19 0 0)), .ref 89] σ Q
              refine e_int (nI (fwn 3)) (by decide) ?_
              refine e_callV (k := 89) [.int (nI (fwn 3))] dX10_kindHere_139 cc_X10_isWord lk_RX10_122 im_X10_isWord se_X10_isWord (by decide) (Ms.s 89 rfl) (Ms.n (by decide)) rfl (Nat.le_of_ble_eq_true rfl) (Nat.le_of_ble_eq_true rfl) ?_
              refine t_X10_isWord Ms hB hb hn hn6 hat ha hbl hf (by decide) (fK_i ?_)
              show fEv g _ mX10_kindHere 142 [some (.ref 89)] [.int (nI (bn (mwe B a (mlt B n a) 3)))] σ Q
              refine e_if_eq 150 dX10_kindHere_142 (by decide) (fun c142 => ?_) (fun c142 => ?_)
              · have c142 := bn0 c142
                refine e_iconst (-1) dX10_kindHere_150 (by decide) ?_
                have hm : mwr B a (mlt B n a) = none := by unfold mwr; rw [if_neg (by rw [c16]; exact Bool.false_ne_true), if_neg (by rw [c38]; exact Bool.false_ne_true), if_neg (by rw [c59]; exact Bool.false_ne_true), if_neg (by rw [c80]; exact Bool.false_ne_true), if_neg (by rw [c101]; exact Bool.false_ne_true), if_neg (by rw [c122]; exact Bool.false_ne_true), if_neg (by rw [c142]; exact Bool.false_ne_true)]
                rw [hm] at h
                exact e_ireturn .int dX10_kindHere_151 rfl rfl h
              · have c142 := bn1 c142
                refine e_bipush (nI 6) dX10_kindHere_145 (by decide) ?_
                refine e_goto 151 dX10_kindHere_147 (by decide) ?_
                have hm : mwr B a (mlt B n a) = some 6 := by unfold mwr; rw [if_neg (by rw [c16]; exact Bool.false_ne_true), if_neg (by rw [c38]; exact Bool.false_ne_true), if_neg (by rw [c59]; exact Bool.false_ne_true), if_neg (by rw [c80]; exact Bool.false_ne_true), if_neg (by rw [c101]; exact Bool.false_ne_true), if_neg (by rw [c122]; exact Bool.false_ne_true), if_pos c142]
                rw [hm] at h
                exact e_ireturn .int dX10_kindHere_151 rfl rfl h
            · have c122 := bn1 c122
              refine e_iconst (nI 5) dX10_kindHere_125 (by decide) ?_
              have hm : mwr B a (mlt B n a) = some 5 := by unfold mwr; rw [if_neg (by rw [c16]; exact Bool.false_ne_true), if_neg (by rw [c38]; exact Bool.false_ne_true), if_neg (by rw [c59]; exact Bool.false_ne_true), if_neg (by rw [c80]; exact Bool.false_ne_true), if_neg (by rw [c101]; exact Bool.false_ne_true), if_pos c122]
              rw [hm] at h
              exact e_ireturn .int dX10_kindHere_126 rfl rfl h
          · have c101 := bn1 c101
            refine e_iconst (nI 4) dX10_kindHere_104 (by decide) ?_
            have hm : mwr B a (mlt B n a) = some 4 := by unfold mwr; rw [if_neg (by rw [c16]; exact Bool.false_ne_true), if_neg (by rw [c38]; exact Bool.false_ne_true), if_neg (by rw [c59]; exact Bool.false_ne_true), if_neg (by rw [c80]; exact Bool.false_ne_true), if_pos c101]
            rw [hm] at h
            exact e_ireturn .int dX10_kindHere_105 rfl rfl h
        · have c80 := bn1 c80
          refine e_iconst (nI 3) dX10_kindHere_83 (by decide) ?_
          have hm : mwr B a (mlt B n a) = some 3 := by unfold mwr; rw [if_neg (by rw [c16]; exact Bool.false_ne_true), if_neg (by rw [c38]; exact Bool.false_ne_true), if_neg (by rw [c59]; exact Bool.false_ne_true), if_pos c80]
          rw [hm] at h
          exact e_ireturn .int dX10_kindHere_84 rfl rfl h
      · have c59 := bn1 c59
        refine e_iconst (nI 2) dX10_kindHere_62 (by decide) ?_
        have hm : mwr B a (mlt B n a) = some 2 := by unfold mwr; rw [if_neg (by rw [c16]; exact Bool.false_ne_true), if_neg (by rw [c38]; exact Bool.false_ne_true), if_pos c59]
        rw [hm] at h
        exact e_ireturn .int dX10_kindHere_63 rfl rfl h
    · have c38 := bn1 c38
      refine e_iconst (nI 1) dX10_kindHere_41 (by decide) ?_
      have hm : mwr B a (mlt B n a) = some 1 := by unfold mwr; rw [if_neg (by rw [c16]; exact Bool.false_ne_true), if_pos c38]
      rw [hm] at h
      exact e_ireturn .int dX10_kindHere_42 rfl rfl h
  · have c16 := bn1 c16
    refine e_iconst (nI 0) dX10_kindHere_19 (by decide) ?_
    have hm : mwr B a (mlt B n a) = some 0 := by unfold mwr; rw [if_pos c16]
    rw [hm] at h
    exact e_ireturn .int dX10_kindHere_20 rfl rfl h
set_option maxRecDepth 20000 in
theorem t_X10_closes {g : fGP} {d : Nat} {σ : fAH} {Q : fRes → fAH → Prop} {B : Nat → Nat} {n : Nat} {s : fP} (Ms : fMs g σ) (hB : ∀ i, i < 600 → fI σ 90 i = nI (B i)) (hb : ∀ i, B i < 256) (hn : fI σ 89 2 = nI n) (hn6 : n ≤ 600) (hs : fPs σ 89 4 n s) (h : ∀ σ', fSm f89 σ σ' → fPs σ' 89 4 n (mse B n s) → (∀ j, j ≠ 4 → j ≠ 5 → j ≠ 6 → fI σ' 89 j = fI σ 89 j) → Q (.inl none) σ') : fEv g (d + 2) mX10_closes 0 (fent [.ref 89] 1) [] σ Q := by
  show fEv g (d + 2) mX10_closes 0 [some (.ref 89)] [] σ Q
  cases s with
  | inl x =>
    have hs : fI σ 89 5 = nI x.1 ∧ fI σ 89 6 = nI x.2 ∧ 1 ≤ x.1 ∧ x.1 ≤ 3 ∧ x.2 ≤ n ∧ ∃ a9, a9 ≤ n ∧ fI σ 89 4 = nI a9 := hs
    refine e_aload_n dX10_closes_0 rfl rfl ?_
    refine e_getI dX10_closes_1 fl_RX10_92 (Ms.s 89 rfl) (Ms.n (by decide)) rfl ?_
    refine e_int (nI x.1) hs.1 ?_
    refine e_if_eq 8 dX10_closes_4 (by decide) (fun c => absurd ((nI_z (by omega)).mp c) (by omega)) (fun _ => ?_)
    exact e_return dX10_closes_7 rfl (h _ fSm.rfl' hs (fun j h3 h5 h6 => rfl))
  | inr a =>
    have hs : a ≤ n ∧ fI σ 89 4 = nI a ∧ fI σ 89 5 = nI 0 ∧ fI σ 89 6 = -1 := hs
    have hat := hs.2.1
    have ha := hs.1
    have b1 := mbl_b (B := B) ha
    refine e_aload_n dX10_closes_0 rfl rfl ?_
    refine e_getI dX10_closes_1 fl_RX10_92 (Ms.s 89 rfl) (Ms.n (by decide)) rfl ?_
    refine e_int (nI 0) hs.2.2.1 ?_
    refine e_if_eq 8 dX10_closes_4 (by decide) (fun _ => ?_) (fun c => absurd c (by decide))
    refine e_aload_n dX10_closes_8 rfl rfl ?_
    refine e_callV (k := 89) [] dX10_closes_9 cc_X10_blanks lk_RX10_98 im_X10_blanks se_X10_blanks (by decide) (Ms.s 89 rfl) (Ms.n (by decide)) rfl (Nat.le_of_ble_eq_true rfl) (Nat.le_of_ble_eq_true rfl) ?_
    refine t_X10_blanks (B := B) (n := n) (a := a) Ms hB hb hn hn6 hat ha (fK_v ?_)
    show fEv g _ mX10_closes 12 [some (.ref 89)] [] (fsI σ 89 4 (nI (mbl B n a))) Q
    refine e_aload_n dX10_closes_12 rfl rfl ?_
    refine e_aload_n dX10_closes_13 rfl rfl ?_
    refine e_getI dX10_closes_14 fl_RX10_85 (Ms.s 89 rfl) (Ms.n (by decide)) rfl ?_
    refine e_int (nI (mbl B n a)) (by rw [fI_I, if_pos ⟨rfl, rfl⟩]) ?_
    refine e_callV (k := 89) [.int (nI (mbl B n a))] dX10_closes_17 cc_X10_byteAt lk_RX10_88 im_X10_byteAt se_X10_byteAt (by decide) (Ms.s 89 rfl) (Ms.n (by decide)) rfl (Nat.le_of_ble_eq_true rfl) (Nat.le_of_ble_eq_true rfl) ?_
    refine t_X10_byteAt Ms hB hn hn6 (by omega) (fK_i ?_)
    show fEv g _ mX10_closes 20 [some (.ref 89)] [.int (mba B n (mbl B n a))] (fsI σ 89 4 (nI (mbl B n a))) Q
    refine e_bipush (nI 59) dX10_closes_20 (by decide) ?_
    refine e_icmp_ne 38 dX10_closes_22 (by decide) (fun c22 => ?_) (fun c22 => ?_)
    · rw [mba_eq (hb (mbl B n a)) (by decide)] at c22
      refine e_aload_n dX10_closes_38 rfl rfl ?_
      refine e_iconst (nI 1) dX10_closes_39 (by decide) ?_
      refine e_aload_n dX10_closes_40 rfl rfl ?_
      refine e_getI dX10_closes_41 fl_RX10_85 (Ms.s 89 rfl) (Ms.n (by decide)) rfl ?_
      refine e_int (nI (mbl B n a)) (by rw [fI_I, if_pos ⟨rfl, rfl⟩]) ?_
      refine e_callV (k := 89) [.int (nI 1), .int (nI (mbl B n a))] dX10_closes_44 cc_X10_wrong lk_RX10_105 im_X10_wrong se_X10_wrong (by decide) (Ms.s 89 rfl) (Ms.n (by decide)) rfl (Nat.le_of_ble_eq_true rfl) (Nat.le_of_ble_eq_true rfl) ?_
      refine t_X10_wrong Ms (by rw [fI_I, if_neg (by omega)]; exact hs.2.2.1) (fK_v ?_)
      show fEv g _ mX10_closes 47 [some (.ref 89)] [] (fsI (fsI (fsI σ 89 4 (nI (mbl B n a))) 89 5 (nI 1)) 89 6 (nI (mbl B n a))) Q
      have e1 : mse B n (.inr a) = .inl (1, mbl B n a) := if_neg (fun q => by omega)
      rw [e1] at h
      exact e_return dX10_closes_47 rfl (h _ (((fSm_I (A := f89) rfl).tr (fSm_I rfl)).tr (fSm_I rfl)) ⟨by rw [fI_I, if_neg (by omega), fI_I, if_pos ⟨rfl, rfl⟩], by rw [fI_I, if_pos ⟨rfl, rfl⟩], by show 1 ≤ 1; decide, by show 1 ≤ 3; decide, by show mbl B n a ≤ n; omega, mbl B n a, by omega, by rw [fI_I, if_neg (by omega), fI_I, if_neg (by omega), fI_I, if_pos ⟨rfl, rfl⟩]⟩ (fun j h3 h5 h6 => by rw [fI_I, if_neg (by omega), fI_I, if_neg (by omega), fI_I, if_neg (by omega)]))
    · rw [mba_eq (hb (mbl B n a)) (by decide)] at c22
      refine e_aload_n dX10_closes_25 rfl rfl ?_
      refine e_dup dX10_closes_26 rfl ?_
      refine e_getI dX10_closes_27 fl_RX10_85 (Ms.s 89 rfl) (Ms.n (by decide)) rfl ?_
      refine e_int (nI (mbl B n a)) (by rw [fI_I, if_pos ⟨rfl, rfl⟩]) ?_
      refine e_iconst (nI 1) dX10_closes_30 (by decide) ?_
      refine e_iadd dX10_closes_31 ?_
      refine e_int (nI (mbl B n a + 1)) (nI_add (mbl B n a) 1) ?_
      refine e_putI dX10_closes_32 fl_RX10_85 (Ms.s 89 rfl) (Ms.n (by decide)) rfl rfl ?_
      refine e_goto 47 dX10_closes_35 (by decide) ?_
      have e1 : mse B n (.inr a) = .inr (mbl B n a + 1) := if_pos (by omega)
      rw [e1] at h
      exact e_return dX10_closes_47 rfl (h _ ((fSm_I (A := f89) rfl).tr (fSm_I rfl)) ⟨by omega, by rw [fI_I, if_pos ⟨rfl, rfl⟩], by rw [fI_I, if_neg (by omega), fI_I, if_neg (by omega)]; exact hs.2.2.1, by rw [fI_I, if_neg (by omega), fI_I, if_neg (by omega)]; exact hs.2.2.2⟩ (fun j h3 h5 h6 => by rw [fI_I, if_neg (by omega), fI_I, if_neg (by omega)]))
