set_option maxRecDepth 20000 in
theorem l_X5_isWord {g : fGP} {d : Nat} {σ : fAH} {Q : fRes → fAH → Prop} {B : Nat → Nat} {n : Nat} {a w : Nat} (Ms : fMs g σ) (hB : ∀ i, i < 600 → fI σ 1 i = sb (B i) ∧ B i < 256) (hn : fI σ 8 2 = nI n) (hn6 : n ≤ 600) (hw : w < 7) (ha : a + fln w ≤ n) : ∀ (k i : Nat), i + k = fln w → Q (.inl (some (.int (nI (bn (mwq B a w k i)))))) σ → fEv g (d + 4) mX5_isWord 17 [some (.ref 8), some (.int (nI a)), some (.ref (fscr + (1 + w))), some (.int (nI i))] [] σ Q := by
  intro k
  induction k with
  | zero =>
    intro i hi h
    have fb := (fch_b w hw).1
    refine e_iload_n dX5_isWord_17 rfl rfl ?_
    refine e_aload_n dX5_isWord_18 rfl rfl ?_
    refine e_callW w hw [] dX5_isWord_19 cc_J0_length_8abf5 lw_RX5_90 im_J0_length_8abf5 sw_J0_length_8abf5 rfl (Nat.le_of_ble_eq_true rfl) (Nat.le_of_ble_eq_true rfl) ?_
    refine t_J0_length hw (fK_i ?_)
    show fEv g _ mX5_isWord 22 [some (.ref 8), some (.int (nI a)), some (.ref (fscr + (1 + w))), some (.int (nI i))] [.int (nI (fln w)), .int (nI i)] σ Q
    refine e_icmp_ge 49 dX5_isWord_22 (by decide) (fun cz => ?_) (fun cz => absurd ((nI_le' (by omega) (by omega)).mpr (by omega)) cz)
    refine e_iconst (nI 1) dX5_isWord_49 (by decide) ?_
    have hm : mwq B a w 0 i = true := rfl
    rw [hm] at h
    exact e_ireturn .boolean dX5_isWord_50 rfl (by decide) h
  | succ k ih =>
    intro i hi h
    have fb := (fch_b w hw).1
    have hba := (hB (a + i) (by omega)).2
    have hbc := (fch_b w hw).2 i (by omega)
    refine e_iload_n dX5_isWord_17 rfl rfl ?_
    refine e_aload_n dX5_isWord_18 rfl rfl ?_
    refine e_callW w hw [] dX5_isWord_19 cc_J0_length_8abf5 lw_RX5_90 im_J0_length_8abf5 sw_J0_length_8abf5 rfl (Nat.le_of_ble_eq_true rfl) (Nat.le_of_ble_eq_true rfl) ?_
    refine t_J0_length hw (fK_i ?_)
    show fEv g _ mX5_isWord 22 [some (.ref 8), some (.int (nI a)), some (.ref (fscr + (1 + w))), some (.int (nI i))] [.int (nI (fln w)), .int (nI i)] σ Q
    refine e_icmp_ge 49 dX5_isWord_22 (by decide) (fun cz => absurd ((nI_le' (by omega) (by omega)).mp cz) (by omega)) (fun cz => ?_)
    refine e_aload_n dX5_isWord_25 rfl rfl ?_
    refine e_getR (q := 1) dX5_isWord_26 fl_RX5_34 (Ms.s 8 rfl) (Ms.n (by decide)) rfl (Ms.r 8 0 rfl) (by unfold fscr; omega) ?_
    refine e_iload_n dX5_isWord_29 rfl rfl ?_
    refine e_iload_n dX5_isWord_30 rfl rfl ?_
    refine e_iadd dX5_isWord_31 ?_
    refine e_int (nI (a + i)) (nI_add a i) ?_
    refine e_baload (a + i) dX5_isWord_32 (Ms.s 1 rfl) (Ms.n (by decide)) rfl (by omega) (by decide) ?_
    refine e_int (sb (B (a + i))) (hB (a + i) (by omega)).1 ?_
    refine e_aload_n dX5_isWord_33 rfl rfl ?_
    refine e_iload_n dX5_isWord_34 rfl rfl ?_
    refine e_callW w hw [.int (nI i)] dX5_isWord_35 cc_J0_charAt_5068e lw_RX5_94 im_J0_charAt_5068e sw_J0_charAt_5068e rfl (Nat.le_of_ble_eq_true rfl) (Nat.le_of_ble_eq_true rfl) ?_
    refine t_J0_charAt hw (by omega) (fK_i ?_)
    show fEv g _ mX5_isWord 38 [some (.ref 8), some (.int (nI a)), some (.ref (fscr + (1 + w))), some (.int (nI i))] [.int (nI (fch w i)), .int (sb (B (a + i)))] σ Q
    refine e_icmp_eq 43 dX5_isWord_38 (by decide) (fun c38 => ?_) (fun c38 => ?_)
    · rw [sb_eq hba (by omega)] at c38
      refine e_iinc (v := nI (i + 1)) (L1 := [some (.ref 8), some (.int (nI a)), some (.ref (fscr + (1 + w))), some (.int (nI (i + 1)))]) dX5_isWord_43 rfl (show nI i + Int32.ofInt 1 = nI (i + 1) from nI_add i 1) (by decide) rfl ?_
      refine e_goto 17 dX5_isWord_46 (by decide) ?_
      rw [show mwq B a w (k + 1) i = (decide (B (a + i) = fch w i) && mwq B a w k (i + 1)) from rfl, decide_eq_true c38, Bool.true_and] at h
      exact ih (i + 1) (by omega) h
    · rw [sb_eq hba (by omega)] at c38
      refine e_iconst (nI 0) dX5_isWord_41 (by decide) ?_
      have hm : mwq B a w (k + 1) i = false := by show (decide _ && _) = false; rw [decide_eq_false c38]; rfl
      rw [hm] at h
      exact e_ireturn .boolean dX5_isWord_42 rfl (by decide) h
set_option maxRecDepth 20000 in
theorem t_X5_isWord {g : fGP} {d : Nat} {σ : fAH} {Q : fRes → fAH → Prop} {B : Nat → Nat} {n : Nat} {a w e : Nat} (Ms : fMs g σ) (hB : ∀ i, i < 600 → fI σ 1 i = sb (B i) ∧ B i < 256) (hn : fI σ 8 2 = nI n) (hn6 : n ≤ 600) (hw : w < 7) (hat : fI σ 8 3 = nI e) (ha : a ≤ e) (he : e ≤ n) (h : Q (.inl (some (.int (nI (bn (mwe B a e w)))))) σ) : fEv g (d + 4) mX5_isWord 0 (fent [.ref 8, .int (nI a), .ref (fscr + (1 + w))] 4) [] σ Q := by
  have fb := (fch_b w hw).1
  show fEv g (d + 4) mX5_isWord 0 [some (.ref 8), some (.int (nI a)), some (.ref (fscr + (1 + w))), none] [] σ Q
  refine e_aload_n dX5_isWord_0 rfl rfl ?_
  refine e_getI dX5_isWord_1 fl_RX5_22 (Ms.s 8 rfl) (Ms.n (by decide)) rfl ?_
  refine e_int (nI e) hat ?_
  refine e_iload_n dX5_isWord_4 rfl rfl ?_
  refine e_isub dX5_isWord_5 ?_
  refine e_int (nI (e - a)) (pk_sub (by omega)) ?_
  refine e_aload_n dX5_isWord_6 rfl rfl ?_
  refine e_callW w hw [] dX5_isWord_7 cc_J0_length_8abf5 lw_RX5_90 im_J0_length_8abf5 sw_J0_length_8abf5 rfl (Nat.le_of_ble_eq_true rfl) (Nat.le_of_ble_eq_true rfl) ?_
  refine t_J0_length hw (fK_i ?_)
  show fEv g _ mX5_isWord 10 [some (.ref 8), some (.int (nI a)), some (.ref (fscr + (1 + w))), none] [.int (nI (fln w)), .int (nI (e - a))] σ Q
  refine e_icmp_eq 15 dX5_isWord_10 (by decide) (fun c10 => ?_) (fun c10 => ?_)
  · rw [nI_inj (by omega) (by omega)] at c10
    refine e_iconst (nI 0) dX5_isWord_15 (by decide) ?_
    refine e_istore_n (L1 := [some (.ref 8), some (.int (nI a)), some (.ref (fscr + (1 + w))), some (.int (nI 0))]) dX5_isWord_16 rfl (by decide) rfl ?_
    exact l_X5_isWord Ms hB hn hn6 hw (by omega) (fln w) 0 (by omega) (by unfold mwe at h; rw [decide_eq_true (show e = a + fln w by omega), Bool.true_and] at h; exact h)
  · rw [nI_inj (by omega) (by omega)] at c10
    refine e_iconst (nI 0) dX5_isWord_13 (by decide) ?_
    have hm : mwe B a e w = false := by unfold mwe; rw [decide_eq_false (by omega)]; rfl
    rw [hm] at h
    exact e_ireturn .boolean dX5_isWord_14 rfl (by decide) h
set_option maxRecDepth 20000 in
theorem l_X5_word {g : fGP} {d : Nat} {σ : fAH} {Q : fRes → fAH → Prop} {B : Nat → Nat} {n : Nat} {st : Nat} (Ms : fMs g σ) (hB : ∀ i, i < 600 → fI σ 1 i = sb (B i) ∧ B i < 256) (hn : fI σ 8 2 = nI n) (hn6 : n ≤ 600)  : ∀ (k a : Nat), a + k = n → (fEv g d mX5_readWord 57 [some (.ref 8), some (.int (nI st))] [] (fsI σ 8 3 (nI (msc (qlt B) k a))) Q) → fEv g (d) mX5_readWord 5 [some (.ref 8), some (.int (nI st))] [] (fsI σ 8 3 (nI a)) Q := by
  intro k
  induction k with
  | zero =>
    intro a  ha h
    refine e_aload_n dX5_readWord_5 rfl rfl ?_
    refine e_getI dX5_readWord_6 fl_RX5_22 (Ms.s 8 rfl) (Ms.n (by decide)) rfl ?_
    refine e_int (nI a) (by rw [fI_I, if_pos ⟨rfl, rfl⟩]) ?_
    refine e_aload_n dX5_readWord_9 rfl rfl ?_
    refine e_getI dX5_readWord_10 fl_RX5_18 (Ms.s 8 rfl) (Ms.n (by decide)) rfl ?_
    refine e_int (nI n) (by rw [fI_I, if_neg (by omega)]; exact hn) ?_
    refine e_icmp_ge 57 dX5_readWord_13 (by decide) (fun cz => ?_) (fun cz => absurd ((nI_le' (by omega) (by omega)).mpr (by omega)) cz)
    exact h
  | succ k ih =>
    intro a  ha h
    have hba := (hB a (by omega)).2
    refine e_aload_n dX5_readWord_5 rfl rfl ?_
    refine e_getI dX5_readWord_6 fl_RX5_22 (Ms.s 8 rfl) (Ms.n (by decide)) rfl ?_
    refine e_int (nI a) (by rw [fI_I, if_pos ⟨rfl, rfl⟩]) ?_
    refine e_aload_n dX5_readWord_9 rfl rfl ?_
    refine e_getI dX5_readWord_10 fl_RX5_18 (Ms.s 8 rfl) (Ms.n (by decide)) rfl ?_
    refine e_int (nI n) (by rw [fI_I, if_neg (by omega)]; exact hn) ?_
    refine e_icmp_ge 57 dX5_readWord_13 (by decide) (fun cz => absurd ((nI_le' (by omega) (by omega)).mp cz) (by omega)) (fun cz => ?_)
    refine e_aload_n dX5_readWord_16 rfl rfl ?_
    refine e_getR (q := 1) dX5_readWord_17 fl_RX5_34 (Ms.s 8 rfl) (Ms.n (by decide)) rfl (Ms.r 8 0 rfl) (by unfold fscr; omega) ?_
    refine e_aload_n dX5_readWord_20 rfl rfl ?_
    refine e_getI dX5_readWord_21 fl_RX5_22 (Ms.s 8 rfl) (Ms.n (by decide)) rfl ?_
    refine e_int (nI a) (by rw [fI_I, if_pos ⟨rfl, rfl⟩]) ?_
    refine e_baload a dX5_readWord_24 (Ms.s 1 rfl) (Ms.n (by decide)) rfl (by omega) (by decide) ?_
    refine e_int (sb (B a)) (by rw [fI_I, if_neg (by omega)]; exact (hB a (by omega)).1) ?_
    refine e_bipush (nI 97) dX5_readWord_25 (by decide) ?_
    refine e_icmp_lt 57 dX5_readWord_27 (by decide) (fun c27 => ?_) (fun c27 => ?_)
    · rw [sb_lt hba (by decide)] at c27
      have hq : qlt B a = false := decide_eq_false (by omega)
      rw [msc_f hq] at h
      exact h
    · rw [sb_lt hba (by decide)] at c27
      refine e_aload_n dX5_readWord_30 rfl rfl ?_
      refine e_getR (q := 1) dX5_readWord_31 fl_RX5_34 (Ms.s 8 rfl) (Ms.n (by decide)) rfl (Ms.r 8 0 rfl) (by unfold fscr; omega) ?_
      refine e_aload_n dX5_readWord_34 rfl rfl ?_
      refine e_getI dX5_readWord_35 fl_RX5_22 (Ms.s 8 rfl) (Ms.n (by decide)) rfl ?_
      refine e_int (nI a) (by rw [fI_I, if_pos ⟨rfl, rfl⟩]) ?_
      refine e_baload a dX5_readWord_38 (Ms.s 1 rfl) (Ms.n (by decide)) rfl (by omega) (by decide) ?_
      refine e_int (sb (B a)) (by rw [fI_I, if_neg (by omega)]; exact (hB a (by omega)).1) ?_
      refine e_bipush (nI 122) dX5_readWord_39 (by decide) ?_
      refine e_icmp_gt 57 dX5_readWord_41 (by decide) (fun c41 => ?_) (fun c41 => ?_)
      · rw [sb_gt hba (by decide)] at c41
        have hq : qlt B a = false := decide_eq_false (by omega)
        rw [msc_f hq] at h
        exact h
      · rw [sb_gt hba (by decide)] at c41
        refine e_aload_n dX5_readWord_44 rfl rfl ?_
        refine e_dup dX5_readWord_45 rfl ?_
        refine e_getI dX5_readWord_46 fl_RX5_22 (Ms.s 8 rfl) (Ms.n (by decide)) rfl ?_
        refine e_int (nI a) (by rw [fI_I, if_pos ⟨rfl, rfl⟩]) ?_
        refine e_iconst (nI 1) dX5_readWord_49 (by decide) ?_
        refine e_iadd dX5_readWord_50 ?_
        refine e_int (nI (a + 1)) (nI_add a 1) ?_
        refine e_putI dX5_readWord_51 fl_RX5_22 (Ms.s 8 rfl) (Ms.n (by decide)) rfl rfl ?_
        refine e_goto 5 dX5_readWord_54 (by decide) ?_
        rw [fsI_2]
        have hq : qlt B a = true := decide_eq_true (by omega)
        rw [msc_t hq] at h
        exact ih (a + 1) (by omega) h
set_option maxRecDepth 20000 in
theorem l_X5_words {g : fGP} {d : Nat} {σ : fAH} {Q : fRes → fAH → Prop} {B : Nat → Nat} {n : Nat} {a : Nat} (Ms : fMs g σ) (hB : ∀ i, i < 600 → fI σ 1 i = sb (B i) ∧ B i < 256) (hn : fI σ 8 2 = nI n) (hn6 : n ≤ 600) (b1 : a ≤ mlt B n a ∧ mlt B n a ≤ n) (hat : fI σ 8 3 = nI (mlt B n a)) (h : Q (.inl (some (.int (mo (mwc B a (mlt B n a)))))) σ) : fEv g (d + 5) mX5_readWord 57 [some (.ref 8), some (.int (nI a))] [] σ Q := by
  refine e_aload_n dX5_readWord_57 rfl rfl ?_
  refine e_iload_n dX5_readWord_58 rfl rfl ?_
  refine e_ldcW 0 (by decide) rfl rfl dX5_readWord_59 ?_
  refine e_callV (k := 8) [.int (nI a), .ref (fscr + (1 + 0))] dX5_readWord_61 cc_X5_isWord lk_RX5_74 im_X5_isWord se_X5_isWord (by decide) (Ms.s 8 rfl) (Ms.n (by decide)) rfl (Nat.le_of_ble_eq_true rfl) (Nat.le_of_ble_eq_true rfl) ?_
  refine t_X5_isWord Ms hB hn hn6 (by decide) hat b1.1 b1.2 (fK_i ?_)
  show fEv g _ mX5_readWord 64 [some (.ref 8), some (.int (nI a))] [.int (nI (bn (mwe B a (mlt B n a) 0)))] σ Q
  refine e_if_eq 69 dX5_readWord_64 (by decide) (fun c64 => ?_) (fun c64 => ?_)
  · have c64 := bn0 c64
    refine e_aload_n dX5_readWord_69 rfl rfl ?_
    refine e_iload_n dX5_readWord_70 rfl rfl ?_
    refine e_ldcW 1 (by decide) rfl rfl dX5_readWord_71 ?_
    refine e_callV (k := 8) [.int (nI a), .ref (fscr + (1 + 1))] dX5_readWord_73 cc_X5_isWord lk_RX5_74 im_X5_isWord se_X5_isWord (by decide) (Ms.s 8 rfl) (Ms.n (by decide)) rfl (Nat.le_of_ble_eq_true rfl) (Nat.le_of_ble_eq_true rfl) ?_
    refine t_X5_isWord Ms hB hn hn6 (by decide) hat b1.1 b1.2 (fK_i ?_)
    show fEv g _ mX5_readWord 76 [some (.ref 8), some (.int (nI a))] [.int (nI (bn (mwe B a (mlt B n a) 1)))] σ Q
    refine e_if_eq 81 dX5_readWord_76 (by decide) (fun c76 => ?_) (fun c76 => ?_)
    · have c76 := bn0 c76
      refine e_aload_n dX5_readWord_81 rfl rfl ?_
      refine e_iload_n dX5_readWord_82 rfl rfl ?_
      refine e_ldcW 2 (by decide) rfl rfl dX5_readWord_83 ?_
      refine e_callV (k := 8) [.int (nI a), .ref (fscr + (1 + 2))] dX5_readWord_85 cc_X5_isWord lk_RX5_74 im_X5_isWord se_X5_isWord (by decide) (Ms.s 8 rfl) (Ms.n (by decide)) rfl (Nat.le_of_ble_eq_true rfl) (Nat.le_of_ble_eq_true rfl) ?_
      refine t_X5_isWord Ms hB hn hn6 (by decide) hat b1.1 b1.2 (fK_i ?_)
      show fEv g _ mX5_readWord 88 [some (.ref 8), some (.int (nI a))] [.int (nI (bn (mwe B a (mlt B n a) 2)))] σ Q
      refine e_if_eq 93 dX5_readWord_88 (by decide) (fun c88 => ?_) (fun c88 => ?_)
      · have c88 := bn0 c88
        refine e_aload_n dX5_readWord_93 rfl rfl ?_
        refine e_iload_n dX5_readWord_94 rfl rfl ?_
        refine e_ldcW 3 (by decide) rfl rfl dX5_readWord_95 ?_
        refine e_callV (k := 8) [.int (nI a), .ref (fscr + (1 + 3))] dX5_readWord_97 cc_X5_isWord lk_RX5_74 im_X5_isWord se_X5_isWord (by decide) (Ms.s 8 rfl) (Ms.n (by decide)) rfl (Nat.le_of_ble_eq_true rfl) (Nat.le_of_ble_eq_true rfl) ?_
        refine t_X5_isWord Ms hB hn hn6 (by decide) hat b1.1 b1.2 (fK_i ?_)
        show fEv g _ mX5_readWord 100 [some (.ref 8), some (.int (nI a))] [.int (nI (bn (mwe B a (mlt B n a) 3)))] σ Q
        refine e_if_eq 105 dX5_readWord_100 (by decide) (fun c100 => ?_) (fun c100 => ?_)
        · have c100 := bn0 c100
          refine e_aload_n dX5_readWord_105 rfl rfl ?_
          refine e_iload_n dX5_readWord_106 rfl rfl ?_
          refine e_ldcW 4 (by decide) rfl rfl dX5_readWord_107 ?_
          refine e_callV (k := 8) [.int (nI a), .ref (fscr + (1 + 4))] dX5_readWord_109 cc_X5_isWord lk_RX5_74 im_X5_isWord se_X5_isWord (by decide) (Ms.s 8 rfl) (Ms.n (by decide)) rfl (Nat.le_of_ble_eq_true rfl) (Nat.le_of_ble_eq_true rfl) ?_
          refine t_X5_isWord Ms hB hn hn6 (by decide) hat b1.1 b1.2 (fK_i ?_)
          show fEv g _ mX5_readWord 112 [some (.ref 8), some (.int (nI a))] [.int (nI (bn (mwe B a (mlt B n a) 4)))] σ Q
          refine e_if_eq 117 dX5_readWord_112 (by decide) (fun c112 => ?_) (fun c112 => ?_)
          · have c112 := bn0 c112
            refine e_aload_n dX5_readWord_117 rfl rfl ?_
            refine e_iload_n dX5_readWord_118 rfl rfl ?_
            refine e_ldcW 5 (by decide) rfl rfl dX5_readWord_119 ?_
            refine e_callV (k := 8) [.int (nI a), .ref (fscr + (1 + 5))] dX5_readWord_121 cc_X5_isWord lk_RX5_74 im_X5_isWord se_X5_isWord (by decide) (Ms.s 8 rfl) (Ms.n (by decide)) rfl (Nat.le_of_ble_eq_true rfl) (Nat.le_of_ble_eq_true rfl) ?_
            refine t_X5_isWord Ms hB hn hn6 (by decide) hat b1.1 b1.2 (fK_i ?_)
            show fEv g _ mX5_readWord 124 [some (.ref 8), some (.int (nI a))] [.int (nI (bn (mwe B a (mlt B n a) 5)))] σ Q
            refine e_if_eq 129 dX5_readWord_124 (by decide) (fun c124 => ?_) (fun c124 => ?_)
            · have c124 := bn0 c124
              refine e_aload_n dX5_readWord_129 rfl rfl ?_
              refine e_iload_n dX5_readWord_130 rfl rfl ?_
              refine e_ldcW 6 (by decide) rfl rfl dX5_readWord_131 ?_
              refine e_callV (k := 8) [.int (nI a), .ref (fscr + (1 + 6))] dX5_readWord_133 cc_X5_isWord lk_RX5_74 im_X5_isWord se_X5_isWord (by decide) (Ms.s 8 rfl) (Ms.n (by decide)) rfl (Nat.le_of_ble_eq_true rfl) (Nat.le_of_ble_eq_true rfl) ?_
              refine t_X5_isWord Ms hB hn hn6 (by decide) hat b1.1 b1.2 (fK_i ?_)
              show fEv g _ mX5_readWord 136 [some (.ref 8), some (.int (nI a))] [.int (nI (bn (mwe B a (mlt B n a) 6)))] σ Q
              refine e_if_eq 144 dX5_readWord_136 (by decide) (fun c136 => ?_) (fun c136 => ?_)
              · have c136 := bn0 c136
                refine e_iconst (-1) dX5_readWord_144 (by decide) ?_
                have hm : mwc B a (mlt B n a) = none := by unfold mwc; rw [if_neg (by rw [c64]; exact Bool.false_ne_true), if_neg (by rw [c76]; exact Bool.false_ne_true), if_neg (by rw [c88]; exact Bool.false_ne_true), if_neg (by rw [c100]; exact Bool.false_ne_true), if_neg (by rw [c112]; exact Bool.false_ne_true), if_neg (by rw [c124]; exact Bool.false_ne_true), if_neg (by rw [c136]; exact Bool.false_ne_true)]
                rw [hm] at h
                exact e_ireturn .int dX5_readWord_145 rfl rfl h
              · have c136 := bn1 c136
                refine e_bipush (nI 6) dX5_readWord_139 (by decide) ?_
                refine e_goto 145 dX5_readWord_141 (by decide) ?_
                have hm : mwc B a (mlt B n a) = some 6 := by unfold mwc; rw [if_neg (by rw [c64]; exact Bool.false_ne_true), if_neg (by rw [c76]; exact Bool.false_ne_true), if_neg (by rw [c88]; exact Bool.false_ne_true), if_neg (by rw [c100]; exact Bool.false_ne_true), if_neg (by rw [c112]; exact Bool.false_ne_true), if_neg (by rw [c124]; exact Bool.false_ne_true), if_pos c136]
                rw [hm] at h
                exact e_ireturn .int dX5_readWord_145 rfl rfl h
            · have c124 := bn1 c124
              refine e_iconst (nI 5) dX5_readWord_127 (by decide) ?_
              have hm : mwc B a (mlt B n a) = some 5 := by unfold mwc; rw [if_neg (by rw [c64]; exact Bool.false_ne_true), if_neg (by rw [c76]; exact Bool.false_ne_true), if_neg (by rw [c88]; exact Bool.false_ne_true), if_neg (by rw [c100]; exact Bool.false_ne_true), if_neg (by rw [c112]; exact Bool.false_ne_true), if_pos c124]
              rw [hm] at h
              exact e_ireturn .int dX5_readWord_128 rfl rfl h
          · have c112 := bn1 c112
            refine e_iconst (nI 4) dX5_readWord_115 (by decide) ?_
            have hm : mwc B a (mlt B n a) = some 4 := by unfold mwc; rw [if_neg (by rw [c64]; exact Bool.false_ne_true), if_neg (by rw [c76]; exact Bool.false_ne_true), if_neg (by rw [c88]; exact Bool.false_ne_true), if_neg (by rw [c100]; exact Bool.false_ne_true), if_pos c112]
            rw [hm] at h
            exact e_ireturn .int dX5_readWord_116 rfl rfl h
        · have c100 := bn1 c100
          refine e_iconst (nI 3) dX5_readWord_103 (by decide) ?_
          have hm : mwc B a (mlt B n a) = some 3 := by unfold mwc; rw [if_neg (by rw [c64]; exact Bool.false_ne_true), if_neg (by rw [c76]; exact Bool.false_ne_true), if_neg (by rw [c88]; exact Bool.false_ne_true), if_pos c100]
          rw [hm] at h
          exact e_ireturn .int dX5_readWord_104 rfl rfl h
      · have c88 := bn1 c88
        refine e_iconst (nI 2) dX5_readWord_91 (by decide) ?_
        have hm : mwc B a (mlt B n a) = some 2 := by unfold mwc; rw [if_neg (by rw [c64]; exact Bool.false_ne_true), if_neg (by rw [c76]; exact Bool.false_ne_true), if_pos c88]
        rw [hm] at h
        exact e_ireturn .int dX5_readWord_92 rfl rfl h
    · have c76 := bn1 c76
      refine e_iconst (nI 1) dX5_readWord_79 (by decide) ?_
      have hm : mwc B a (mlt B n a) = some 1 := by unfold mwc; rw [if_neg (by rw [c64]; exact Bool.false_ne_true), if_pos c76]
      rw [hm] at h
      exact e_ireturn .int dX5_readWord_80 rfl rfl h
  · have c64 := bn1 c64
    refine e_iconst (nI 0) dX5_readWord_67 (by decide) ?_
    have hm : mwc B a (mlt B n a) = some 0 := by unfold mwc; rw [if_pos c64]
    rw [hm] at h
    exact e_ireturn .int dX5_readWord_68 rfl rfl h
set_option maxRecDepth 20000 in
theorem t_X5_readWord {g : fGP} {d : Nat} {σ : fAH} {Q : fRes → fAH → Prop} {B : Nat → Nat} {n : Nat} {a : Nat} (Ms : fMs g σ) (hB : ∀ i, i < 600 → fI σ 1 i = sb (B i) ∧ B i < 256) (hn : fI σ 8 2 = nI n) (hn6 : n ≤ 600) (hat : fI σ 8 3 = nI a) (ha : a ≤ n) (h : Q (.inl (some (.int (mo (mwc B a (mlt B n a)))))) (fsI σ 8 3 (nI (mlt B n a)))) : fEv g (d + 5) mX5_readWord 0 (fent [.ref 8] 2) [] σ Q := by
  show fEv g (d + 5) mX5_readWord 0 [some (.ref 8), none] [] σ Q
  refine e_aload_n dX5_readWord_0 rfl rfl ?_
  refine e_getI dX5_readWord_1 fl_RX5_22 (Ms.s 8 rfl) (Ms.n (by decide)) rfl ?_
  refine e_int (nI a) hat ?_
  refine e_istore_n (L1 := [some (.ref 8), some (.int (nI a))]) dX5_readWord_4 rfl (by decide) rfl ?_
  have k9 := l_X5_word (st := a) (Q := Q) (d := d + 5) Ms hB hn hn6 (n - a) a (by omega) ?_
  · rw [fsI_id hat] at k9; exact k9
  have b1 := mlt_b (B := B) ha
  exact l_X5_words (Ms.sm (A := fun a => a = 8) (fSm_I rfl)) (fun i hi => by rw [fI_ne (by omega)]; exact hB i hi) (by rw [fI_I, if_neg (by omega)]; exact hn) hn6 b1 (by rw [fI_I, if_pos ⟨rfl, rfl⟩]; rfl) h
set_option maxRecDepth 20000 in
theorem t_X5_readEnd {g : fGP} {d : Nat} {σ : fAH} {Q : fRes → fAH → Prop} {B : Nat → Nat} {n : Nat} {s : fP} (Ms : fMs g σ) (hB : ∀ i, i < 600 → fI σ 1 i = sb (B i) ∧ B i < 256) (hn : fI σ 8 2 = nI n) (hn6 : n ≤ 600) (hs : fPs σ 8 3 n s) (h : ∀ σ', fSm (fun a => a = 8) σ σ' → fPs σ' 8 3 n (mse B n s) → (∀ j, j ≠ 3 → j ≠ 5 → j ≠ 6 → fI σ' 8 j = fI σ 8 j) → Q (.inl none) σ') : fEv g (d + 1) mX5_readEnd 0 (fent [.ref 8] 1) [] σ Q := by
  show fEv g (d + 1) mX5_readEnd 0 [some (.ref 8)] [] σ Q
  cases s with
  | inl x =>
    have hs : fI σ 8 5 = nI x.1 ∧ fI σ 8 6 = nI x.2 ∧ 1 ≤ x.1 ∧ x.1 ≤ 3 ∧ x.2 ≤ n ∧ ∃ a9, a9 ≤ n ∧ fI σ 8 3 = nI a9 := hs
    refine e_aload_n dX5_readEnd_0 rfl rfl ?_
    refine e_getI dX5_readEnd_1 fl_RX5_28 (Ms.s 8 rfl) (Ms.n (by decide)) rfl ?_
    refine e_int (nI x.1) hs.1 ?_
    refine e_if_eq 8 dX5_readEnd_4 (by decide) (fun c => absurd ((nI_z (by omega)).mp c) (by omega)) (fun _ => ?_)
    exact e_return dX5_readEnd_7 rfl (h _ fSm.rfl' hs (fun j h3 h5 h6 => rfl))
  | inr a =>
    have hs : a ≤ n ∧ fI σ 8 3 = nI a ∧ fI σ 8 5 = nI 0 ∧ fI σ 8 6 = -1 := hs
    have hat := hs.2.1
    have ha := hs.1
    have b1 := mbl_b (B := B) ha
    refine e_aload_n dX5_readEnd_0 rfl rfl ?_
    refine e_getI dX5_readEnd_1 fl_RX5_28 (Ms.s 8 rfl) (Ms.n (by decide)) rfl ?_
    refine e_int (nI 0) hs.2.2.1 ?_
    refine e_if_eq 8 dX5_readEnd_4 (by decide) (fun _ => ?_) (fun c => absurd c (by decide))
    refine e_aload_n dX5_readEnd_8 rfl rfl ?_
    refine e_callV (k := 8) [] dX5_readEnd_9 cc_X5_skipBlanks lk_RX5_47 im_X5_skipBlanks se_X5_skipBlanks (by decide) (Ms.s 8 rfl) (Ms.n (by decide)) rfl (Nat.le_of_ble_eq_true rfl) (Nat.le_of_ble_eq_true rfl) ?_
    refine t_X5_skipBlanks (B := B) (n := n) (a := a) Ms hB hn hn6 hat ha (fK_v ?_)
    show fEv g _ mX5_readEnd 12 [some (.ref 8)] [] (fsI σ 8 3 (nI (mbl B n a))) Q
    refine e_aload_n dX5_readEnd_12 rfl rfl ?_
    refine e_getI dX5_readEnd_13 fl_RX5_22 (Ms.s 8 rfl) (Ms.n (by decide)) rfl ?_
    refine e_int (nI (mbl B n a)) (by rw [fI_I, if_pos ⟨rfl, rfl⟩]) ?_
    refine e_aload_n dX5_readEnd_16 rfl rfl ?_
    refine e_getI dX5_readEnd_17 fl_RX5_18 (Ms.s 8 rfl) (Ms.n (by decide)) rfl ?_
    refine e_int (nI n) (by rw [fI_I, if_neg (by omega)]; exact hn) ?_
    refine e_icmp_ge 50 dX5_readEnd_20 (by decide) (fun c20 => ?_) (fun c20 => ?_)
    · rw [nI_le' (by omega) (by omega)] at c20
      refine e_aload_n dX5_readEnd_50 rfl rfl ?_
      refine e_iconst (nI 1) dX5_readEnd_51 (by decide) ?_
      refine e_aload_n dX5_readEnd_52 rfl rfl ?_
      refine e_getI dX5_readEnd_53 fl_RX5_22 (Ms.s 8 rfl) (Ms.n (by decide)) rfl ?_
      refine e_int (nI (mbl B n a)) (by rw [fI_I, if_pos ⟨rfl, rfl⟩]) ?_
      refine e_callV (k := 8) [.int (nI 1), .int (nI (mbl B n a))] dX5_readEnd_56 cc_X5_blame lk_RX5_57 im_X5_blame se_X5_blame (by decide) (Ms.s 8 rfl) (Ms.n (by decide)) rfl (Nat.le_of_ble_eq_true rfl) (Nat.le_of_ble_eq_true rfl) ?_
      refine t_X5_blame (Ms) (by rw [fI_I, if_neg (by omega)]; exact hs.2.2.1) (fK_v ?_)
      show fEv g _ mX5_readEnd 59 [some (.ref 8)] [] (fsI (fsI (fsI σ 8 3 (nI (mbl B n a))) 8 5 (nI 1)) 8 6 (nI (mbl B n a))) Q
      have e1 : mse B n (.inr a) = .inl (1, mbl B n a) := if_neg (fun q => by omega)
      rw [e1] at h
      exact e_return dX5_readEnd_59 rfl (h _ (((fSm_I (A := fun a => a = 8) rfl).tr (fSm_I rfl)).tr (fSm_I rfl)) ⟨by rw [fI_I, if_neg (by omega), fI_I, if_pos ⟨rfl, rfl⟩], by rw [fI_I, if_pos ⟨rfl, rfl⟩], by show 1 ≤ 1; decide, by show 1 ≤ 3; decide, by show mbl B n a ≤ n; omega, mbl B n a, by omega, by rw [fI_I, if_neg (by omega), fI_I, if_neg (by omega), fI_I, if_pos ⟨rfl, rfl⟩]⟩ (fun j h3 h5 h6 => by rw [fI_I, if_neg (by omega), fI_I, if_neg (by omega), fI_I, if_neg (by omega)]))
    · rw [nI_le' (by omega) (by omega)] at c20
      refine e_aload_n dX5_readEnd_23 rfl rfl ?_
      refine e_getR (q := 1) dX5_readEnd_24 fl_RX5_34 (Ms.s 8 rfl) (Ms.n (by decide)) rfl (Ms.r 8 0 rfl) (by unfold fscr; omega) ?_
      refine e_aload_n dX5_readEnd_27 rfl rfl ?_
      refine e_getI dX5_readEnd_28 fl_RX5_22 (Ms.s 8 rfl) (Ms.n (by decide)) rfl ?_
      refine e_int (nI (mbl B n a)) (by rw [fI_I, if_pos ⟨rfl, rfl⟩]) ?_
      refine e_baload (mbl B n a) dX5_readEnd_31 (Ms.s 1 rfl) (Ms.n (by decide)) rfl (by omega) (by decide) ?_
      refine e_int (sb (B (mbl B n a))) (by rw [fI_I, if_neg (by omega)]; exact (hB (mbl B n a) (by omega)).1) ?_
      refine e_bipush (nI 59) dX5_readEnd_32 (by decide) ?_
      refine e_icmp_ne 50 dX5_readEnd_34 (by decide) (fun c34 => ?_) (fun c34 => ?_)
      · rw [sb_eq (hB (mbl B n a) (by omega)).2 (by decide)] at c34
        refine e_aload_n dX5_readEnd_50 rfl rfl ?_
        refine e_iconst (nI 1) dX5_readEnd_51 (by decide) ?_
        refine e_aload_n dX5_readEnd_52 rfl rfl ?_
        refine e_getI dX5_readEnd_53 fl_RX5_22 (Ms.s 8 rfl) (Ms.n (by decide)) rfl ?_
        refine e_int (nI (mbl B n a)) (by rw [fI_I, if_pos ⟨rfl, rfl⟩]) ?_
        refine e_callV (k := 8) [.int (nI 1), .int (nI (mbl B n a))] dX5_readEnd_56 cc_X5_blame lk_RX5_57 im_X5_blame se_X5_blame (by decide) (Ms.s 8 rfl) (Ms.n (by decide)) rfl (Nat.le_of_ble_eq_true rfl) (Nat.le_of_ble_eq_true rfl) ?_
        refine t_X5_blame (Ms) (by rw [fI_I, if_neg (by omega)]; exact hs.2.2.1) (fK_v ?_)
        show fEv g _ mX5_readEnd 59 [some (.ref 8)] [] (fsI (fsI (fsI σ 8 3 (nI (mbl B n a))) 8 5 (nI 1)) 8 6 (nI (mbl B n a))) Q
        have e1 : mse B n (.inr a) = .inl (1, mbl B n a) := if_neg (fun q => by omega)
        rw [e1] at h
        exact e_return dX5_readEnd_59 rfl (h _ (((fSm_I (A := fun a => a = 8) rfl).tr (fSm_I rfl)).tr (fSm_I rfl)) ⟨by rw [fI_I, if_neg (by omega), fI_I, if_pos ⟨rfl, rfl⟩], by rw [fI_I, if_pos ⟨rfl, rfl⟩], by show 1 ≤ 1; decide, by show 1 ≤ 3; decide, by show mbl B n a ≤ n; omega, mbl B n a, by omega, by rw [fI_I, if_neg (by omega), fI_I, if_neg (by omega), fI_I, if_pos ⟨rfl, rfl⟩]⟩ (fun j h3 h5 h6 => by rw [fI_I, if_neg (by omega), fI_I, if_neg (by omega), fI_I, if_neg (by omega)]))
      · rw [sb_eq (hB (mbl B n a) (by omega)).2 (by decide)] at c34
        refine e_aload_n dX5_readEnd_37 rfl rfl ?_
        refine e_dup dX5_readEnd_38 rfl ?_
        refine e_getI dX5_readEnd_39 fl_RX5_22 (Ms.s 8 rfl) (Ms.n (by decide)) rfl ?_
        refine e_int (nI (mbl B n a)) (by rw [fI_I, if_pos ⟨rfl, rfl⟩]) ?_
        refine e_iconst (nI 1) dX5_readEnd_42 (by decide) ?_
        refine e_iadd dX5_readEnd_43 ?_
        refine e_int (nI (mbl B n a + 1)) (nI_add (mbl B n a) 1) ?_
        refine e_putI dX5_readEnd_44 fl_RX5_22 (Ms.s 8 rfl) (Ms.n (by decide)) rfl rfl ?_
        refine e_goto 59 dX5_readEnd_47 (by decide) ?_
        have e1 : mse B n (.inr a) = .inr (mbl B n a + 1) := if_pos (by omega)
        rw [e1] at h
        exact e_return dX5_readEnd_59 rfl (h _ ((fSm_I (A := fun a => a = 8) rfl).tr (fSm_I rfl)) ⟨by omega, by rw [fI_I, if_pos ⟨rfl, rfl⟩], by rw [fI_I, if_neg (by omega), fI_I, if_neg (by omega)]; exact hs.2.2.1, by rw [fI_I, if_neg (by omega), fI_I, if_neg (by omega)]; exact hs.2.2.2⟩ (fun j h3 h5 h6 => by rw [fI_I, if_neg (by omega), fI_I, if_neg (by omega)]))
