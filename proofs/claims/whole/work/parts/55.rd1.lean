theorem e_i2c {g : fGP} {d : Nat} {M : fMT} {pc : Nat} {L : List (Option Value)} {st : List Value} {σ : fAH} {Q : fRes → fAH → Prop} {x : Int32} (hd : decode M.2.1 pc = .ok (.i2c, 1)) (h : fEv g d M (pc + 1) L (.int (x.toUInt32 % 65536).toInt32 :: st) σ Q) : fEv g d M pc L (.int x :: st) σ Q := fun p e R s m args below meth c H locs cells slots ls C hl => lv_i2c C.1 C.2.1 hd rfl (h p e R s m args below meth c H locs cells slots ls C hl)
theorem fln_b : ∀ i, i < 7 → fsln.getD i 0 < 100 := by decide
theorem t_J0_coder {g : fGP} {d : Nat} {σ : fAH} {Q : fRes → fAH → Prop} {i : Nat} (hi : i < 7) (h : Q (.inl (some (.int (nI 0)))) σ) : fEv g d mJ0_coder_7d493 0 (fent [.ref (fscr + (1 + i))] 1) [] σ Q := by
  show fEv g d mJ0_coder_7d493 0 [some (.ref (fscr + (1 + i)))] [] σ Q
  refine e_compact fw_RJ0_38 dJ0_coder_7d493_0 ?_
  refine e_if_eq 13 dJ0_coder_7d493_3 (by decide) (fun c => absurd c (by decide)) (fun _ => ?_)
  refine e_aload_n dJ0_coder_7d493_6 rfl rfl ?_
  refine e_wcod i hi fw_RJ0_15 dJ0_coder_7d493_7 ?_
  refine e_goto 14 dJ0_coder_7d493_10 (by decide) ?_
  exact e_ireturn .byte dJ0_coder_7d493_14 rfl (by decide) h
theorem t_J0_isLatin1 {g : fGP} {d : Nat} {σ : fAH} {Q : fRes → fAH → Prop} {i : Nat} (hi : i < 7) (h : Q (.inl (some (.int (nI 1)))) σ) : fEv g d mJ0_isLatin1_aae02 0 (fent [.ref (fscr + (1 + i))] 1) [] σ Q := by
  show fEv g d mJ0_isLatin1_aae02 0 [some (.ref (fscr + (1 + i)))] [] σ Q
  refine e_compact fw_RJ0_38 dJ0_isLatin1_aae02_0 ?_
  refine e_if_eq 17 dJ0_isLatin1_aae02_3 (by decide) (fun c => absurd c (by decide)) (fun _ => ?_)
  refine e_aload_n dJ0_isLatin1_aae02_6 rfl rfl ?_
  refine e_wcod i hi fw_RJ0_15 dJ0_isLatin1_aae02_7 ?_
  refine e_if_ne 17 dJ0_isLatin1_aae02_10 (by decide) (fun c => absurd rfl c) (fun _ => ?_)
  refine e_iconst (nI 1) dJ0_isLatin1_aae02_13 (by decide) ?_
  refine e_goto 18 dJ0_isLatin1_aae02_14 (by decide) ?_
  exact e_ireturn .boolean dJ0_isLatin1_aae02_18 rfl (by decide) h
theorem nI_sh0 {l : Nat} (h : l < 2147483648) : nI l >>> (nI 0 &&& 31) = nI l := by
  have := nI_shr (m := l) (k := 0) h (by decide)
  rw [Nat.pow_zero, Nat.div_one] at this
  exact this
theorem t_J0_length {g : fGP} {d : Nat} {σ : fAH} {Q : fRes → fAH → Prop} {i : Nat} (hi : i < 7) (h : Q (.inl (some (.int (nI (fln i))))) σ) : fEv g (d + 1) mJ0_length_8abf5 0 (fent [.ref (fscr + (1 + i))] 1) [] σ Q := by
  show fEv g (d + 1) mJ0_length_8abf5 0 [some (.ref (fscr + (1 + i)))] [] σ Q
  refine e_aload_n dJ0_length_8abf5_0 rfl rfl ?_
  refine e_wval i hi fw_RJ0_9 dJ0_length_8abf5_1 ?_
  refine e_wlen i hi dJ0_length_8abf5_4 ?_
  refine e_aload_n dJ0_length_8abf5_5 rfl rfl ?_
  refine e_callW i hi [] dJ0_length_8abf5_6 cc_J0_coder_7d493 lw_RJ0_335 im_J0_coder_7d493 sw_J0_coder_7d493 rfl (Nat.le_of_ble_eq_true rfl) (Nat.le_of_ble_eq_true rfl) ?_
  refine t_J0_coder hi (fK_i ?_)
  show fEv g _ mJ0_length_8abf5 9 [some (.ref (fscr + (1 + i)))] [.int (nI 0), .int (nI (fln i))] σ Q
  refine e_ishr dJ0_length_8abf5_9 ?_
  refine e_int (nI (fln i)) (nI_sh0 (by have : fln i < 100 := fln_b i hi; omega)) ?_
  exact e_ireturn .int dJ0_length_8abf5_10 rfl rfl h
theorem t_J3_checkIndex {g : fGP} {d : Nat} {σ : fAH} {Q : fRes → fAH → Prop} {k n : Nat} {v : Value} (hk : k < n) (hn : n < 1000) (hv : v.category = 1) (h : Q (.inl (some (.int (nI k)))) σ) : fEv g d mJ3_checkIndex_8e157 0 [some (.int (nI k)), some (.int (nI n)), some v] [] σ Q := by
  refine e_iload_n dJ3_checkIndex_8e157_0 rfl rfl ?_
  refine e_if_lt 9 dJ3_checkIndex_8e157_1 (by decide) (fun c => absurd ((nI_zlt (by omega)).mp c) (by omega)) (fun _ => ?_)
  refine e_iload_n dJ3_checkIndex_8e157_4 rfl rfl ?_
  refine e_iload_n dJ3_checkIndex_8e157_5 rfl rfl ?_
  refine e_icmp_lt 16 dJ3_checkIndex_8e157_6 (by decide) (fun _ => ?_) (fun c => absurd ((nI_lt' (by omega) (by omega)).mpr hk) c)
  refine e_iload_n dJ3_checkIndex_8e157_16 rfl rfl ?_
  exact e_ireturn .int dJ3_checkIndex_8e157_17 rfl rfl h
theorem t_J0_checkIndex {g : fGP} {d : Nat} {σ : fAH} {Q : fRes → fAH → Prop} {k n : Nat} (hk : k < n) (hn : n < 1000) (h : Q (.inl none) σ) : fEv g (d + 1) mJ0_checkIndex_df160 0 (fent [.int (nI k), .int (nI n)] 2) [] σ Q := by
  show fEv g (d + 1) mJ0_checkIndex_df160 0 [some (.int (nI k)), some (.int (nI n))] [] σ Q
  refine e_iload_n dJ0_checkIndex_df160_0 rfl rfl ?_
  refine e_iload_n dJ0_checkIndex_df160_1 rfl rfl ?_
  refine e_sioobe fw_RJ0_1053 dJ0_checkIndex_df160_2 (fun v hv => ?_)
  rcases hv with rfl | rfl
  · refine e_callS [.int (nI k), .int (nI n), .null] dJ0_checkIndex_df160_5 cc_J3_checkIndex_8e157 lk_RJ0_1059 st_J3_checkIndex_8e157 in_RJ3 rfl (Nat.le_of_ble_eq_true rfl) (Nat.le_of_ble_eq_true rfl) ?_
    refine t_J3_checkIndex hk hn rfl (fK_i ?_)
    show fEv g _ mJ0_checkIndex_df160 8 [some (.int (nI k)), some (.int (nI n))] [.int (nI k)] σ Q
    refine e_pop dJ0_checkIndex_df160_8 rfl ?_
    exact e_return dJ0_checkIndex_df160_9 rfl h
  · refine e_callS [.int (nI k), .int (nI n), .ref (fscr + 15)] dJ0_checkIndex_df160_5 cc_J3_checkIndex_8e157 lk_RJ0_1059 st_J3_checkIndex_8e157 in_RJ3 rfl (Nat.le_of_ble_eq_true rfl) (Nat.le_of_ble_eq_true rfl) ?_
    refine t_J3_checkIndex hk hn rfl (fK_i ?_)
    show fEv g _ mJ0_checkIndex_df160 8 [some (.int (nI k)), some (.int (nI n))] [.int (nI k)] σ Q
    refine e_pop dJ0_checkIndex_df160_8 rfl ?_
    exact e_return dJ0_checkIndex_df160_9 rfl h
theorem fch_n : ∀ i, i < 7 → ∀ k, k < fln i → narrow .char (.int (nI (fch i k))) = .int (nI (fch i k)) := by decide
theorem t_J1_charAt {g : fGP} {d : Nat} {σ : fAH} {Q : fRes → fAH → Prop} {i k : Nat} (hi : i < 7) (hk : k < fln i) (h : Q (.inl (some (.int (nI (fch i k))))) σ) : fEv g (d + 2) mJ1_charAt_3b067 0 (fent [.ref (fscr + (8 + i)), .int (nI k)] 2) [] σ Q := by
  have hb : fln i < 100 := fln_b i hi
  show fEv g (d + 2) mJ1_charAt_3b067 0 [some (.ref (fscr + (8 + i))), some (.int (nI k))] [] σ Q
  refine e_iload_n dJ1_charAt_3b067_0 rfl rfl ?_
  refine e_aload_n dJ1_charAt_3b067_1 rfl rfl ?_
  refine e_wlen i hi dJ1_charAt_3b067_2 ?_
  refine e_callS [.int (nI k), .int (nI (fln i))] dJ1_charAt_3b067_3 cc_J0_checkIndex_df160 lk_RJ1_9 st_J0_checkIndex_df160 in_RJ0 rfl (Nat.le_of_ble_eq_true rfl) (Nat.le_of_ble_eq_true rfl) ?_
  refine t_J0_checkIndex hk (by omega) (fK_v ?_)
  show fEv g _ mJ1_charAt_3b067 6 [some (.ref (fscr + (8 + i))), some (.int (nI k))] [] σ Q
  refine e_aload_n dJ1_charAt_3b067_6 rfl rfl ?_
  refine e_iload_n dJ1_charAt_3b067_7 rfl rfl ?_
  refine e_wld i hi k hk (show fln i < 2147483648 by omega) dJ1_charAt_3b067_8 ?_
  refine e_sipush 255 dJ1_charAt_3b067_9 (by decide) ?_
  refine e_iand dJ1_charAt_3b067_12 ?_
  refine e_i2c dJ1_charAt_3b067_13 ?_
  refine e_int (nI (fch i k)) (fch_v i hi k hk) ?_
  exact e_ireturn .char dJ1_charAt_3b067_14 rfl (fch_n i hi k hk) h
theorem t_J0_charAt {g : fGP} {d : Nat} {σ : fAH} {Q : fRes → fAH → Prop} {i k : Nat} (hi : i < 7) (hk : k < fln i) (h : Q (.inl (some (.int (nI (fch i k))))) σ) : fEv g (d + 3) mJ0_charAt_5068e 0 (fent [.ref (fscr + (1 + i)), .int (nI k)] 2) [] σ Q := by
  show fEv g (d + 3) mJ0_charAt_5068e 0 [some (.ref (fscr + (1 + i))), some (.int (nI k))] [] σ Q
  refine e_aload_n dJ0_charAt_5068e_0 rfl rfl ?_
  refine e_callW i hi [] dJ0_charAt_5068e_1 cc_J0_isLatin1_aae02 lw_RJ0_492 im_J0_isLatin1_aae02 sw_J0_isLatin1_aae02 rfl (Nat.le_of_ble_eq_true rfl) (Nat.le_of_ble_eq_true rfl) ?_
  refine t_J0_isLatin1 hi (fK_i ?_)
  show fEv g _ mJ0_charAt_5068e 4 [some (.ref (fscr + (1 + i))), some (.int (nI k))] [.int (nI 1)] σ Q
  refine e_if_eq 16 dJ0_charAt_5068e_4 (by decide) (fun c => absurd c (by decide)) (fun _ => ?_)
  refine e_aload_n dJ0_charAt_5068e_7 rfl rfl ?_
  refine e_wval i hi fw_RJ0_9 dJ0_charAt_5068e_8 ?_
  refine e_iload_n dJ0_charAt_5068e_11 rfl rfl ?_
  refine e_callS [.ref (fscr + (8 + i)), .int (nI k)] dJ0_charAt_5068e_12 cc_J1_charAt_3b067 lk_RJ0_495 st_J1_charAt_3b067 in_RJ1 rfl (Nat.le_of_ble_eq_true rfl) (Nat.le_of_ble_eq_true rfl) ?_
  refine t_J1_charAt hi hk (fK_i ?_)
  show fEv g _ mJ0_charAt_5068e 15 [some (.ref (fscr + (1 + i))), some (.int (nI k))] [.int (nI (fch i k))] σ Q
  exact e_ireturn .char dJ0_charAt_5068e_15 rfl (fch_n i hi k hk) h
set_option maxRecDepth 20000 in
theorem l_X5_skip {g : fGP} {d : Nat} {σ : fAH} {Q : fRes → fAH → Prop} {B : Nat → Nat} {n : Nat} (Ms : fMs g σ) (hB : ∀ i, i < 600 → fI σ 1 i = sb (B i) ∧ B i < 256) (hn : fI σ 8 2 = nI n) (hn6 : n ≤ 600)  : ∀ (k a : Nat), a + k = n → (Q (.inl none) (fsI σ 8 3 (nI (msc (qbl B) k a)))) → fEv g (d) mX5_skipBlanks 0 [some (.ref 8)] [] (fsI σ 8 3 (nI a)) Q := by
  intro k
  induction k with
  | zero =>
    intro a  ha h
    refine e_aload_n dX5_skipBlanks_0 rfl rfl ?_
    refine e_getI dX5_skipBlanks_1 fl_RX5_22 (Ms.s 8 rfl) (Ms.n (by decide)) rfl ?_
    refine e_int (nI a) (by rw [fI_I, if_pos ⟨rfl, rfl⟩]) ?_
    refine e_aload_n dX5_skipBlanks_4 rfl rfl ?_
    refine e_getI dX5_skipBlanks_5 fl_RX5_18 (Ms.s 8 rfl) (Ms.n (by decide)) rfl ?_
    refine e_int (nI n) (by rw [fI_I, if_neg (by omega)]; exact hn) ?_
    refine e_icmp_ge 38 dX5_skipBlanks_8 (by decide) (fun cz => ?_) (fun cz => absurd ((nI_le' (by omega) (by omega)).mpr (by omega)) cz)
    exact e_return dX5_skipBlanks_38 rfl h
  | succ k ih =>
    intro a  ha h
    have hba := (hB a (by omega)).2
    refine e_aload_n dX5_skipBlanks_0 rfl rfl ?_
    refine e_getI dX5_skipBlanks_1 fl_RX5_22 (Ms.s 8 rfl) (Ms.n (by decide)) rfl ?_
    refine e_int (nI a) (by rw [fI_I, if_pos ⟨rfl, rfl⟩]) ?_
    refine e_aload_n dX5_skipBlanks_4 rfl rfl ?_
    refine e_getI dX5_skipBlanks_5 fl_RX5_18 (Ms.s 8 rfl) (Ms.n (by decide)) rfl ?_
    refine e_int (nI n) (by rw [fI_I, if_neg (by omega)]; exact hn) ?_
    refine e_icmp_ge 38 dX5_skipBlanks_8 (by decide) (fun cz => absurd ((nI_le' (by omega) (by omega)).mp cz) (by omega)) (fun cz => ?_)
    refine e_aload_n dX5_skipBlanks_11 rfl rfl ?_
    refine e_getR (q := 1) dX5_skipBlanks_12 fl_RX5_34 (Ms.s 8 rfl) (Ms.n (by decide)) rfl (Ms.r 8 0 rfl) (by unfold fscr; omega) ?_
    refine e_aload_n dX5_skipBlanks_15 rfl rfl ?_
    refine e_getI dX5_skipBlanks_16 fl_RX5_22 (Ms.s 8 rfl) (Ms.n (by decide)) rfl ?_
    refine e_int (nI a) (by rw [fI_I, if_pos ⟨rfl, rfl⟩]) ?_
    refine e_baload a dX5_skipBlanks_19 (Ms.s 1 rfl) (Ms.n (by decide)) rfl (by omega) (by decide) ?_
    refine e_int (sb (B a)) (by rw [fI_I, if_neg (by omega)]; exact (hB a (by omega)).1) ?_
    refine e_bipush (nI 32) dX5_skipBlanks_20 (by decide) ?_
    refine e_icmp_ne 38 dX5_skipBlanks_22 (by decide) (fun c22 => ?_) (fun c22 => ?_)
    · rw [sb_eq hba (by decide)] at c22
      rw [msc_f (decide_eq_false (by omega))] at h
      exact e_return dX5_skipBlanks_38 rfl h
    · rw [sb_eq hba (by decide)] at c22
      refine e_aload_n dX5_skipBlanks_25 rfl rfl ?_
      refine e_dup dX5_skipBlanks_26 rfl ?_
      refine e_getI dX5_skipBlanks_27 fl_RX5_22 (Ms.s 8 rfl) (Ms.n (by decide)) rfl ?_
      refine e_int (nI a) (by rw [fI_I, if_pos ⟨rfl, rfl⟩]) ?_
      refine e_iconst (nI 1) dX5_skipBlanks_30 (by decide) ?_
      refine e_iadd dX5_skipBlanks_31 ?_
      refine e_int (nI (a + 1)) (nI_add a 1) ?_
      refine e_putI dX5_skipBlanks_32 fl_RX5_22 (Ms.s 8 rfl) (Ms.n (by decide)) rfl rfl ?_
      refine e_goto 0 dX5_skipBlanks_35 (by decide) ?_
      rw [fsI_2]
      rw [msc_t (decide_eq_true (by omega))] at h
      exact ih (a + 1) (by omega) h
set_option maxRecDepth 20000 in
theorem t_X5_skipBlanks {g : fGP} {d : Nat} {σ : fAH} {Q : fRes → fAH → Prop} {B : Nat → Nat} {n : Nat} {a : Nat} (Ms : fMs g σ) (hB : ∀ i, i < 600 → fI σ 1 i = sb (B i) ∧ B i < 256) (hn : fI σ 8 2 = nI n) (hn6 : n ≤ 600) (hat : fI σ 8 3 = nI a) (ha : a ≤ n) (h : Q (.inl none) (fsI σ 8 3 (nI (mbl B n a)))) : fEv g d mX5_skipBlanks 0 (fent [.ref 8] 1) [] σ Q := by
  have k := l_X5_skip (d := d) (Q := Q) Ms hB hn hn6 (n - a) a (by omega) h
  rw [fsI_id hat] at k
  exact k
set_option maxRecDepth 20000 in
theorem t_X5_blame {g : fGP} {d : Nat} {σ : fAH} {Q : fRes → fAH → Prop} {c p : Nat} (Ms : fMs g σ) (hf : fI σ 8 5 = nI 0) (h : Q (.inl none) (fsI (fsI σ 8 5 (nI c)) 8 6 (nI p))) : fEv g d mX5_blame 0 (fent [.ref 8, .int (nI c), .int (nI p)] 3) [] σ Q := by
  show fEv g d mX5_blame 0 [some (.ref 8), some (.int (nI c)), some (.int (nI p))] [] σ Q
  refine e_aload_n dX5_blame_0 rfl rfl ?_
  refine e_getI dX5_blame_1 fl_RX5_28 (Ms.s 8 rfl) (Ms.n (by decide)) rfl ?_
  refine e_int (nI 0) hf ?_
  refine e_if_ne 17 dX5_blame_4 (by decide) (fun c => absurd c (by decide)) (fun _ => ?_)
  refine e_aload_n dX5_blame_7 rfl rfl ?_
  refine e_iload_n dX5_blame_8 rfl rfl ?_
  refine e_putI dX5_blame_9 fl_RX5_28 (Ms.s 8 rfl) (Ms.n (by decide)) rfl rfl ?_
  refine e_aload_n dX5_blame_12 rfl rfl ?_
  refine e_iload_n dX5_blame_13 rfl rfl ?_
  refine e_putI dX5_blame_14 fl_RX5_31 (Ms.s 8 rfl) (Ms.n (by decide)) rfl rfl ?_
  exact e_return dX5_blame_17 rfl h
set_option maxRecDepth 20000 in
theorem l_X5_dig {g : fGP} {d : Nat} {σ : fAH} {Q : fRes → fAH → Prop} {B : Nat → Nat} {n : Nat} {lo hi : Int32} {st : Nat} (Ms : fMs g σ) (hB : ∀ i, i < 600 → fI σ 1 i = sb (B i) ∧ B i < 256) (hn : fI σ 8 2 = nI n) (hn6 : n ≤ 600)  : ∀ (k a : Nat) (v : Nat), a + k = n → (fEv g d mX5_readNumber 99 [some (.ref 8), some (.int lo), some (.int hi), some (.int (nI st)), some (.int (nI (min 10000 (mdn B k a v))))] [] (fsI σ 8 3 (nI (msc (qdg B) k a))) Q) → fEv g (d) mX5_readNumber 21 [some (.ref 8), some (.int lo), some (.int hi), some (.int (nI st)), some (.int (nI (min 10000 v)))] [] (fsI σ 8 3 (nI a)) Q := by
  intro k
  induction k with
  | zero =>
    intro a v ha h
    refine e_aload_n dX5_readNumber_21 rfl rfl ?_
    refine e_getI dX5_readNumber_22 fl_RX5_22 (Ms.s 8 rfl) (Ms.n (by decide)) rfl ?_
    refine e_int (nI a) (by rw [fI_I, if_pos ⟨rfl, rfl⟩]) ?_
    refine e_aload_n dX5_readNumber_25 rfl rfl ?_
    refine e_getI dX5_readNumber_26 fl_RX5_18 (Ms.s 8 rfl) (Ms.n (by decide)) rfl ?_
    refine e_int (nI n) (by rw [fI_I, if_neg (by omega)]; exact hn) ?_
    refine e_icmp_ge 99 dX5_readNumber_29 (by decide) (fun cz => ?_) (fun cz => absurd ((nI_le' (by omega) (by omega)).mpr (by omega)) cz)
    exact h
  | succ k ih =>
    intro a v ha h
    have hba := (hB a (by omega)).2
    refine e_aload_n dX5_readNumber_21 rfl rfl ?_
    refine e_getI dX5_readNumber_22 fl_RX5_22 (Ms.s 8 rfl) (Ms.n (by decide)) rfl ?_
    refine e_int (nI a) (by rw [fI_I, if_pos ⟨rfl, rfl⟩]) ?_
    refine e_aload_n dX5_readNumber_25 rfl rfl ?_
    refine e_getI dX5_readNumber_26 fl_RX5_18 (Ms.s 8 rfl) (Ms.n (by decide)) rfl ?_
    refine e_int (nI n) (by rw [fI_I, if_neg (by omega)]; exact hn) ?_
    refine e_icmp_ge 99 dX5_readNumber_29 (by decide) (fun cz => absurd ((nI_le' (by omega) (by omega)).mp cz) (by omega)) (fun cz => ?_)
    refine e_aload_n dX5_readNumber_32 rfl rfl ?_
    refine e_getR (q := 1) dX5_readNumber_33 fl_RX5_34 (Ms.s 8 rfl) (Ms.n (by decide)) rfl (Ms.r 8 0 rfl) (by unfold fscr; omega) ?_
    refine e_aload_n dX5_readNumber_36 rfl rfl ?_
    refine e_getI dX5_readNumber_37 fl_RX5_22 (Ms.s 8 rfl) (Ms.n (by decide)) rfl ?_
    refine e_int (nI a) (by rw [fI_I, if_pos ⟨rfl, rfl⟩]) ?_
    refine e_baload a dX5_readNumber_40 (Ms.s 1 rfl) (Ms.n (by decide)) rfl (by omega) (by decide) ?_
    refine e_int (sb (B a)) (by rw [fI_I, if_neg (by omega)]; exact (hB a (by omega)).1) ?_
    refine e_bipush (nI 48) dX5_readNumber_41 (by decide) ?_
    refine e_icmp_lt 99 dX5_readNumber_43 (by decide) (fun c43 => ?_) (fun c43 => ?_)
    · rw [sb_lt hba (by decide)] at c43
      have hq : qdg B a = false := decide_eq_false (by omega)
      rw [msc_f hq, mdn_f hq] at h
      exact h
    · rw [sb_lt hba (by decide)] at c43
      refine e_aload_n dX5_readNumber_46 rfl rfl ?_
      refine e_getR (q := 1) dX5_readNumber_47 fl_RX5_34 (Ms.s 8 rfl) (Ms.n (by decide)) rfl (Ms.r 8 0 rfl) (by unfold fscr; omega) ?_
      refine e_aload_n dX5_readNumber_50 rfl rfl ?_
      refine e_getI dX5_readNumber_51 fl_RX5_22 (Ms.s 8 rfl) (Ms.n (by decide)) rfl ?_
      refine e_int (nI a) (by rw [fI_I, if_pos ⟨rfl, rfl⟩]) ?_
      refine e_baload a dX5_readNumber_54 (Ms.s 1 rfl) (Ms.n (by decide)) rfl (by omega) (by decide) ?_
      refine e_int (sb (B a)) (by rw [fI_I, if_neg (by omega)]; exact (hB a (by omega)).1) ?_
      refine e_bipush (nI 57) dX5_readNumber_55 (by decide) ?_
      refine e_icmp_gt 99 dX5_readNumber_57 (by decide) (fun c57 => ?_) (fun c57 => ?_)
      · rw [sb_gt hba (by decide)] at c57
        have hq : qdg B a = false := decide_eq_false (by omega)
        rw [msc_f hq, mdn_f hq] at h
        exact h
      · rw [sb_gt hba (by decide)] at c57
        refine e_sipush (nI 10000) dX5_readNumber_60 (by decide) ?_
        refine e_iload dX5_readNumber_63 rfl ?_
        refine e_bipush (nI 10) dX5_readNumber_65 (by decide) ?_
        refine e_imul dX5_readNumber_67 ?_
        refine e_int (nI ((min 10000 v) * 10)) (pk_mul (min 10000 v) 10) ?_
        refine e_aload_n dX5_readNumber_68 rfl rfl ?_
        refine e_getR (q := 1) dX5_readNumber_69 fl_RX5_34 (Ms.s 8 rfl) (Ms.n (by decide)) rfl (Ms.r 8 0 rfl) (by unfold fscr; omega) ?_
        refine e_aload_n dX5_readNumber_72 rfl rfl ?_
        refine e_getI dX5_readNumber_73 fl_RX5_22 (Ms.s 8 rfl) (Ms.n (by decide)) rfl ?_
        refine e_int (nI a) (by rw [fI_I, if_pos ⟨rfl, rfl⟩]) ?_
        refine e_baload a dX5_readNumber_76 (Ms.s 1 rfl) (Ms.n (by decide)) rfl (by omega) (by decide) ?_
        refine e_int (nI (B a)) (by first | exact sb_lo (by omega) | (rw [fI_I, if_neg (by omega), (hB a (by omega)).1]; exact sb_lo (by omega))) ?_
        refine e_iadd dX5_readNumber_77 ?_
        refine e_int (nI ((min 10000 v) * 10 + B a)) (nI_add ((min 10000 v) * 10) (B a)) ?_
        refine e_bipush (nI 48) dX5_readNumber_78 (by decide) ?_
        refine e_isub dX5_readNumber_80 ?_
        refine e_int (nI (((min 10000 v) * 10 + B a) - 48)) (pk_sub (by omega)) ?_
        refine e_min dX5_readNumber_81 ml_RX5_41 w_min (Nat.le_of_ble_eq_true rfl) ?_
        refine e_int (nI (min 10000 (10 * v + (B a - 48)))) ((nI_mn (by omega) (by omega)).trans (by rw [show min 10000 (min 10000 v * 10 + B a - 48) = min 10000 (10 * v + (B a - 48)) by omega])) ?_
        refine e_istore (L1 := [some (.ref 8), some (.int lo), some (.int hi), some (.int (nI st)), some (.int (nI (min 10000 (10 * v + (B a - 48)))))]) dX5_readNumber_84 (by decide) rfl ?_
        refine e_aload_n dX5_readNumber_86 rfl rfl ?_
        refine e_dup dX5_readNumber_87 rfl ?_
        refine e_getI dX5_readNumber_88 fl_RX5_22 (Ms.s 8 rfl) (Ms.n (by decide)) rfl ?_
        refine e_int (nI a) (by rw [fI_I, if_pos ⟨rfl, rfl⟩]) ?_
        refine e_iconst (nI 1) dX5_readNumber_91 (by decide) ?_
        refine e_iadd dX5_readNumber_92 ?_
        refine e_int (nI (a + 1)) (nI_add a 1) ?_
        refine e_putI dX5_readNumber_93 fl_RX5_22 (Ms.s 8 rfl) (Ms.n (by decide)) rfl rfl ?_
        refine e_goto 21 dX5_readNumber_96 (by decide) ?_
        rw [fsI_2]
        have hq : qdg B a = true := decide_eq_true (by omega)
        rw [msc_t hq, mdn_t hq] at h
        exact ih (a + 1) _ (by omega) h
set_option maxRecDepth 20000 in
theorem t_X5_readNumber {g : fGP} {d : Nat} {σ : fAH} {Q : fRes → fAH → Prop} {B : Nat → Nat} {n : Nat} {s : fP} {lo hi1 : Nat} {hi : Int32} (Ms : fMs g σ) (hB : ∀ i, i < 600 → fI σ 1 i = sb (B i) ∧ B i < 256) (hn : fI σ 8 2 = nI n) (hn6 : n ≤ 600) (hs : fPs σ 8 3 n s) (hlo : lo ≤ 2) (hh1 : ∀ a, s = .inr a → hi1 ≤ 1000) (hl : ∀ a, s = .inr a → ∀ v, v < 100000 → (nI v ≤ hi ↔ v < hi1)) (h : ∀ σ', fSm (fun a => a = 8) σ σ' → fPs σ' 8 3 n (mnum B n lo hi1 s) → (∀ j, j ≠ 3 → j ≠ 5 → j ≠ 6 → fI σ' 8 j = fI σ 8 j) → Q (.inl (some (.int (nI (mnv B n lo hi1 lo s))))) σ') : fEv g (d + 1) mX5_readNumber 0 (fent [.ref 8, .int (nI lo), .int hi] 5) [] σ Q := by
  show fEv g (d + 1) mX5_readNumber 0 [some (.ref 8), some (.int (nI lo)), some (.int hi), none, none] [] σ Q
  cases s with
  | inl x =>
    have hs : fI σ 8 5 = nI x.1 ∧ fI σ 8 6 = nI x.2 ∧ 1 ≤ x.1 ∧ x.1 ≤ 3 ∧ x.2 ≤ n ∧ ∃ a9, a9 ≤ n ∧ fI σ 8 3 = nI a9 := hs
    refine e_aload_n dX5_readNumber_0 rfl rfl ?_
    refine e_getI dX5_readNumber_1 fl_RX5_28 (Ms.s 8 rfl) (Ms.n (by decide)) rfl ?_
    refine e_int (nI x.1) hs.1 ?_
    refine e_if_eq 9 dX5_readNumber_4 (by decide) (fun c => absurd ((nI_z (by omega)).mp c) (by omega)) (fun _ => ?_)
    refine e_iload_n dX5_readNumber_7 rfl rfl ?_
    exact e_ireturn .int dX5_readNumber_8 rfl rfl (h _ fSm.rfl' hs (fun j h3 h5 h6 => rfl))
  | inr a =>
    have hs : a ≤ n ∧ fI σ 8 3 = nI a ∧ fI σ 8 5 = nI 0 ∧ fI σ 8 6 = -1 := hs
    have hat := hs.2.1
    have ha := hs.1
    have hh1 := hh1 a rfl
    have b1 := mbl_b (B := B) ha
    have b2 := mdg_b (B := B) b1.2
    refine e_aload_n dX5_readNumber_0 rfl rfl ?_
    refine e_getI dX5_readNumber_1 fl_RX5_28 (Ms.s 8 rfl) (Ms.n (by decide)) rfl ?_
    refine e_int (nI 0) hs.2.2.1 ?_
    refine e_if_eq 9 dX5_readNumber_4 (by decide) (fun _ => ?_) (fun c => absurd c (by decide))
    refine e_aload_n dX5_readNumber_9 rfl rfl ?_
    refine e_callV (k := 8) [] dX5_readNumber_10 cc_X5_skipBlanks lk_RX5_47 im_X5_skipBlanks se_X5_skipBlanks (by decide) (Ms.s 8 rfl) (Ms.n (by decide)) rfl (Nat.le_of_ble_eq_true rfl) (Nat.le_of_ble_eq_true rfl) ?_
    refine t_X5_skipBlanks (B := B) (n := n) (a := a) Ms hB hn hn6 hat ha (fK_v ?_)
    show fEv g _ mX5_readNumber 13 [some (.ref 8), some (.int (nI lo)), some (.int hi), none, none] [] (fsI σ 8 3 (nI (mbl B n a))) Q
    refine e_aload_n dX5_readNumber_13 rfl rfl ?_
    refine e_getI dX5_readNumber_14 fl_RX5_22 (Ms.s 8 rfl) (Ms.n (by decide)) rfl ?_
    refine e_int (nI (mbl B n a)) (by rw [fI_I, if_pos ⟨rfl, rfl⟩]) ?_
    refine e_istore_n (L1 := [some (.ref 8), some (.int (nI lo)), some (.int hi), some (.int (nI (mbl B n a))), none]) dX5_readNumber_17 rfl (by decide) rfl ?_
    refine e_iconst (nI 0) dX5_readNumber_18 (by decide) ?_
    refine e_istore (L1 := [some (.ref 8), some (.int (nI lo)), some (.int hi), some (.int (nI (mbl B n a))), some (.int (nI 0))]) dX5_readNumber_19 (by decide) rfl ?_
    refine l_X5_dig (Q := Q) (d := d + 1) Ms hB hn hn6 (n - mbl B n a) (mbl B n a) 0 (by omega) ?_
    rw [show msc (qdg B) (n - mbl B n a) (mbl B n a) = mdg B n (mbl B n a) from rfl, show mdn B (n - mbl B n a) (mbl B n a) 0 = mV B n a from rfl]
    refine e_aload_n dX5_readNumber_99 rfl rfl ?_
    refine e_getI dX5_readNumber_100 fl_RX5_22 (Ms.s 8 rfl) (Ms.n (by decide)) rfl ?_
    refine e_int (nI (mdg B n (mbl B n a))) (by rw [fI_I, if_pos ⟨rfl, rfl⟩]) ?_
    refine e_iload_n dX5_readNumber_103 rfl rfl ?_
    refine e_icmp_ne 115 dX5_readNumber_104 (by decide) (fun c104 => ?_) (fun c104 => ?_)
    · rw [nI_inj (by omega) (by omega)] at c104
      refine e_iload dX5_readNumber_115 rfl ?_
      refine e_iload_n dX5_readNumber_117 rfl rfl ?_
      refine e_icmp_lt 127 dX5_readNumber_118 (by decide) (fun c118 => ?_) (fun c118 => ?_)
      · rw [nI_lt' (by omega) (by omega)] at c118
        refine e_aload_n dX5_readNumber_127 rfl rfl ?_
        refine e_iconst (nI 2) dX5_readNumber_128 (by decide) ?_
        refine e_iload_n dX5_readNumber_129 rfl rfl ?_
        refine e_callV (k := 8) [.int (nI 2), .int (nI (mbl B n a))] dX5_readNumber_130 cc_X5_blame lk_RX5_57 im_X5_blame se_X5_blame (by decide) (Ms.s 8 rfl) (Ms.n (by decide)) rfl (Nat.le_of_ble_eq_true rfl) (Nat.le_of_ble_eq_true rfl) ?_
        refine t_X5_blame (Ms) (by rw [fI_I, if_neg (by omega)]; exact hs.2.2.1) (fK_v ?_)
        show fEv g _ mX5_readNumber 133 [some (.ref 8), some (.int (nI lo)), some (.int hi), some (.int (nI (mbl B n a))), some (.int (nI (min 10000 (mV B n a))))] [] (fsI (fsI (fsI σ 8 3 (nI (mdg B n (mbl B n a)))) 8 5 (nI 2)) 8 6 (nI (mbl B n a))) Q
        refine e_iload_n dX5_readNumber_133 rfl rfl ?_
        have e1 : mnum B n lo hi1 (.inr a) = .inl (2, mbl B n a) := by show (if _ then _ else if _ then _ else _) = _; rw [if_neg c104, if_neg (by omega)]
        have e2 : mnv B n lo hi1 lo (.inr a) = lo := by show (if _ then _ else if _ then _ else _) = _; rw [if_neg c104, if_neg (by omega)]
        rw [e1, e2] at h
        exact e_ireturn .int dX5_readNumber_134 rfl rfl (h _ (((fSm_I (A := fun a => a = 8) rfl).tr (fSm_I rfl)).tr (fSm_I rfl)) ⟨by rw [fI_I, if_neg (by omega), fI_I, if_pos ⟨rfl, rfl⟩], by rw [fI_I, if_pos ⟨rfl, rfl⟩], by show 1 ≤ 2; decide, by show 2 ≤ 3; decide, by show mbl B n a ≤ n; omega, mdg B n (mbl B n a), by omega, by rw [fI_I, if_neg (by omega), fI_I, if_neg (by omega), fI_I, if_pos ⟨rfl, rfl⟩]⟩ (fun j h3 h5 h6 => by rw [fI_I, if_neg (by omega), fI_I, if_neg (by omega), fI_I, if_neg (by omega)]))
      · rw [nI_lt' (by omega) (by omega)] at c118
        refine e_iload dX5_readNumber_121 rfl ?_
        refine e_iload_n dX5_readNumber_123 rfl rfl ?_
        refine e_icmp_le 135 dX5_readNumber_124 (by decide) (fun c124 => ?_) (fun c124 => ?_)
        · rw [hl a rfl _ (by omega)] at c124
          refine e_iload dX5_readNumber_135 rfl ?_
          have e1 : mnum B n lo hi1 (.inr a) = .inr (mdg B n (mbl B n a)) := by show (if _ then _ else if _ then _ else _) = _; rw [if_neg c104, if_pos (by omega)]
          have e2 : mnv B n lo hi1 lo (.inr a) = mV B n a := by show (if _ then _ else if _ then _ else _) = _; rw [if_neg c104, if_pos (by omega)]
          rw [e1, e2] at h
          rw [show min 10000 (mV B n a) = mV B n a by omega]
          exact e_ireturn .int dX5_readNumber_137 rfl rfl (h _ (fSm_I (A := fun a => a = 8) rfl) ⟨by omega, by rw [fI_I, if_pos ⟨rfl, rfl⟩], by rw [fI_I, if_neg (by omega)]; exact hs.2.2.1, by rw [fI_I, if_neg (by omega)]; exact hs.2.2.2⟩ (fun j h3 h5 h6 => by rw [fI_I, if_neg (by omega)]))
        · rw [hl a rfl _ (by omega)] at c124
          refine e_aload_n dX5_readNumber_127 rfl rfl ?_
          refine e_iconst (nI 2) dX5_readNumber_128 (by decide) ?_
          refine e_iload_n dX5_readNumber_129 rfl rfl ?_
          refine e_callV (k := 8) [.int (nI 2), .int (nI (mbl B n a))] dX5_readNumber_130 cc_X5_blame lk_RX5_57 im_X5_blame se_X5_blame (by decide) (Ms.s 8 rfl) (Ms.n (by decide)) rfl (Nat.le_of_ble_eq_true rfl) (Nat.le_of_ble_eq_true rfl) ?_
          refine t_X5_blame (Ms) (by rw [fI_I, if_neg (by omega)]; exact hs.2.2.1) (fK_v ?_)
          show fEv g _ mX5_readNumber 133 [some (.ref 8), some (.int (nI lo)), some (.int hi), some (.int (nI (mbl B n a))), some (.int (nI (min 10000 (mV B n a))))] [] (fsI (fsI (fsI σ 8 3 (nI (mdg B n (mbl B n a)))) 8 5 (nI 2)) 8 6 (nI (mbl B n a))) Q
          refine e_iload_n dX5_readNumber_133 rfl rfl ?_
          have e1 : mnum B n lo hi1 (.inr a) = .inl (2, mbl B n a) := by show (if _ then _ else if _ then _ else _) = _; rw [if_neg c104, if_neg (by omega)]
          have e2 : mnv B n lo hi1 lo (.inr a) = lo := by show (if _ then _ else if _ then _ else _) = _; rw [if_neg c104, if_neg (by omega)]
          rw [e1, e2] at h
          exact e_ireturn .int dX5_readNumber_134 rfl rfl (h _ (((fSm_I (A := fun a => a = 8) rfl).tr (fSm_I rfl)).tr (fSm_I rfl)) ⟨by rw [fI_I, if_neg (by omega), fI_I, if_pos ⟨rfl, rfl⟩], by rw [fI_I, if_pos ⟨rfl, rfl⟩], by show 1 ≤ 2; decide, by show 2 ≤ 3; decide, by show mbl B n a ≤ n; omega, mdg B n (mbl B n a), by omega, by rw [fI_I, if_neg (by omega), fI_I, if_neg (by omega), fI_I, if_pos ⟨rfl, rfl⟩]⟩ (fun j h3 h5 h6 => by rw [fI_I, if_neg (by omega), fI_I, if_neg (by omega), fI_I, if_neg (by omega)]))
    · rw [nI_inj (by omega) (by omega)] at c104
      refine e_aload_n dX5_readNumber_107 rfl rfl ?_
      refine e_iconst (nI 1) dX5_readNumber_108 (by decide) ?_
      refine e_iload_n dX5_readNumber_109 rfl rfl ?_
      refine e_callV (k := 8) [.int (nI 1), .int (nI (mbl B n a))] dX5_readNumber_110 cc_X5_blame lk_RX5_57 im_X5_blame se_X5_blame (by decide) (Ms.s 8 rfl) (Ms.n (by decide)) rfl (Nat.le_of_ble_eq_true rfl) (Nat.le_of_ble_eq_true rfl) ?_
      refine t_X5_blame (Ms) (by rw [fI_I, if_neg (by omega)]; exact hs.2.2.1) (fK_v ?_)
      show fEv g _ mX5_readNumber 113 [some (.ref 8), some (.int (nI lo)), some (.int hi), some (.int (nI (mbl B n a))), some (.int (nI (min 10000 (mV B n a))))] [] (fsI (fsI (fsI σ 8 3 (nI (mdg B n (mbl B n a)))) 8 5 (nI 1)) 8 6 (nI (mbl B n a))) Q
      refine e_iload_n dX5_readNumber_113 rfl rfl ?_
      have e1 : mnum B n lo hi1 (.inr a) = .inl (1, mbl B n a) := by show (if _ then _ else if _ then _ else _) = _; rw [if_pos c104]
      have e2 : mnv B n lo hi1 lo (.inr a) = lo := by show (if _ then _ else if _ then _ else _) = _; rw [if_pos c104]
      rw [e1, e2] at h
      exact e_ireturn .int dX5_readNumber_114 rfl rfl (h _ (((fSm_I (A := fun a => a = 8) rfl).tr (fSm_I rfl)).tr (fSm_I rfl)) ⟨by rw [fI_I, if_neg (by omega), fI_I, if_pos ⟨rfl, rfl⟩], by rw [fI_I, if_pos ⟨rfl, rfl⟩], by show 1 ≤ 1; decide, by show 1 ≤ 3; decide, by show mbl B n a ≤ n; omega, mdg B n (mbl B n a), by omega, by rw [fI_I, if_neg (by omega), fI_I, if_neg (by omega), fI_I, if_pos ⟨rfl, rfl⟩]⟩ (fun j h3 h5 h6 => by rw [fI_I, if_neg (by omega), fI_I, if_neg (by omega), fI_I, if_neg (by omega)]))
