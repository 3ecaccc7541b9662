theorem w7 {w : Nat} (h : w < 7) : w = 0 ∨ w = 1 ∨ w = 2 ∨ w = 3 ∨ w = 4 ∨ w = 5 ∨ w = 6 := by omega
set_option maxRecDepth 20000 in
theorem t_X5_isFull {g : fGP} {d : Nat} {σ : fAH} {Q : fRes → fAH → Prop} {D : fSD} {w : Nat} (Ms : fMs g σ) (Gr : fGr σ 9 D) (hD : fWD D) (hw : w < 7) (h : Q (.inl (some (.int (nI (bn (mfl D (mkc w))))))) σ) : fEv g d mX5_isFull 0 (fent [.ref 8, .int (nI w)] 2) [] σ Q := by
  obtain ⟨t0, t1, t2, t3, t4, t5, t6⟩ := id hD.1
  rcases w7 hw with rfl | rfl | rfl | rfl | rfl | rfl | rfl
  · rw [show mkc 0 = 0 from rfl] at h
    show fEv g d mX5_isFull 0 [some (.ref 8), some (.int (nI 0))] [] σ Q
    refine e_iload_n dX5_isFull_0 rfl rfl ?_
    refine e_tswIn (off := 31) 32 dX5_isFull_1 (by decide) (by decide) (by decide) (by decide) ?_
    refine e_aload_n dX5_isFull_32 rfl rfl ?_
    refine e_getR (q := 9) dX5_isFull_33 fl_RX5_12 (Ms.s 8 rfl) (Ms.n (by decide)) rfl (Ms.r 8 1 rfl) (by unfold fscr; omega) ?_
    refine e_getI dX5_isFull_36 fl_RX5_98 (Ms.s 9 rfl) (Ms.n (by decide)) rfl ?_
    refine e_int (nI (dT D 0)) Gr.1.1 ?_
    refine e_bipush (nI 6) dX5_isFull_39 (by decide) ?_
    refine e_icmp_lt 48 dX5_isFull_41 (by decide) (fun c41 => ?_) (fun c41 => ?_)
    · rw [nI_lt' (by omega) (by omega)] at c41
      refine e_iconst (nI 0) dX5_isFull_48 (by decide) ?_
      have hm : mfl D 0 = false := decide_eq_false (by omega)
      rw [hm] at h
      exact e_ireturn .boolean dX5_isFull_49 rfl (by decide) h
    · rw [nI_lt' (by omega) (by omega)] at c41
      refine e_iconst (nI 1) dX5_isFull_44 (by decide) ?_
      refine e_goto 49 dX5_isFull_45 (by decide) ?_
      have hm : mfl D 0 = true := decide_eq_true (by omega)
      rw [hm] at h
      exact e_ireturn .boolean dX5_isFull_49 rfl (by decide) h
  · rw [show mkc 1 = 1 from rfl] at h
    show fEv g d mX5_isFull 0 [some (.ref 8), some (.int (nI 1))] [] σ Q
    refine e_iload_n dX5_isFull_0 rfl rfl ?_
    refine e_tswIn (off := 49) 50 dX5_isFull_1 (by decide) (by decide) (by decide) (by decide) ?_
    refine e_aload_n dX5_isFull_50 rfl rfl ?_
    refine e_getR (q := 9) dX5_isFull_51 fl_RX5_12 (Ms.s 8 rfl) (Ms.n (by decide)) rfl (Ms.r 8 1 rfl) (by unfold fscr; omega) ?_
    refine e_getI dX5_isFull_54 fl_RX5_101 (Ms.s 9 rfl) (Ms.n (by decide)) rfl ?_
    refine e_int (nI (dT D 1)) Gr.1.2.1 ?_
    refine e_bipush (nI 12) dX5_isFull_57 (by decide) ?_
    refine e_icmp_lt 66 dX5_isFull_59 (by decide) (fun c59 => ?_) (fun c59 => ?_)
    · rw [nI_lt' (by omega) (by omega)] at c59
      refine e_iconst (nI 0) dX5_isFull_66 (by decide) ?_
      have hm : mfl D 1 = false := decide_eq_false (by omega)
      rw [hm] at h
      exact e_ireturn .boolean dX5_isFull_67 rfl (by decide) h
    · rw [nI_lt' (by omega) (by omega)] at c59
      refine e_iconst (nI 1) dX5_isFull_62 (by decide) ?_
      refine e_goto 67 dX5_isFull_63 (by decide) ?_
      have hm : mfl D 1 = true := decide_eq_true (by omega)
      rw [hm] at h
      exact e_ireturn .boolean dX5_isFull_67 rfl (by decide) h
  · rw [show mkc 2 = 2 from rfl] at h
    show fEv g d mX5_isFull 0 [some (.ref 8), some (.int (nI 2))] [] σ Q
    refine e_iload_n dX5_isFull_0 rfl rfl ?_
    refine e_tswIn (off := 67) 68 dX5_isFull_1 (by decide) (by decide) (by decide) (by decide) ?_
    refine e_aload_n dX5_isFull_68 rfl rfl ?_
    refine e_getR (q := 9) dX5_isFull_69 fl_RX5_12 (Ms.s 8 rfl) (Ms.n (by decide)) rfl (Ms.r 8 1 rfl) (by unfold fscr; omega) ?_
    refine e_getI dX5_isFull_72 fl_RX5_104 (Ms.s 9 rfl) (Ms.n (by decide)) rfl ?_
    refine e_int (nI (dT D 2)) Gr.1.2.2.1 ?_
    refine e_bipush (nI 6) dX5_isFull_75 (by decide) ?_
    refine e_icmp_lt 84 dX5_isFull_77 (by decide) (fun c77 => ?_) (fun c77 => ?_)
    · rw [nI_lt' (by omega) (by omega)] at c77
      refine e_iconst (nI 0) dX5_isFull_84 (by decide) ?_
      have hm : mfl D 2 = false := decide_eq_false (by omega)
      rw [hm] at h
      exact e_ireturn .boolean dX5_isFull_85 rfl (by decide) h
    · rw [nI_lt' (by omega) (by omega)] at c77
      refine e_iconst (nI 1) dX5_isFull_80 (by decide) ?_
      refine e_goto 85 dX5_isFull_81 (by decide) ?_
      have hm : mfl D 2 = true := decide_eq_true (by omega)
      rw [hm] at h
      exact e_ireturn .boolean dX5_isFull_85 rfl (by decide) h
  · rw [show mkc 3 = 6 from rfl] at h
    show fEv g d mX5_isFull 0 [some (.ref 8), some (.int (nI 3))] [] σ Q
    refine e_iload_n dX5_isFull_0 rfl rfl ?_
    refine e_tswIn (off := 85) 86 dX5_isFull_1 (by decide) (by decide) (by decide) (by decide) ?_
    refine e_aload_n dX5_isFull_86 rfl rfl ?_
    refine e_getR (q := 9) dX5_isFull_87 fl_RX5_12 (Ms.s 8 rfl) (Ms.n (by decide)) rfl (Ms.r 8 1 rfl) (by unfold fscr; omega) ?_
    refine e_getI dX5_isFull_90 fl_RX5_107 (Ms.s 9 rfl) (Ms.n (by decide)) rfl ?_
    refine e_int (nI (dT D 6)) Gr.1.2.2.2.1 ?_
    refine e_bipush (nI 24) dX5_isFull_93 (by decide) ?_
    refine e_icmp_lt 102 dX5_isFull_95 (by decide) (fun c95 => ?_) (fun c95 => ?_)
    · rw [nI_lt' (by omega) (by omega)] at c95
      refine e_iconst (nI 0) dX5_isFull_102 (by decide) ?_
      have hm : mfl D 6 = false := decide_eq_false (by omega)
      rw [hm] at h
      exact e_ireturn .boolean dX5_isFull_103 rfl (by decide) h
    · rw [nI_lt' (by omega) (by omega)] at c95
      refine e_iconst (nI 1) dX5_isFull_98 (by decide) ?_
      refine e_goto 103 dX5_isFull_99 (by decide) ?_
      have hm : mfl D 6 = true := decide_eq_true (by omega)
      rw [hm] at h
      exact e_ireturn .boolean dX5_isFull_103 rfl (by decide) h
  · rw [show mkc 4 = 3 from rfl] at h
    show fEv g d mX5_isFull 0 [some (.ref 8), some (.int (nI 4))] [] σ Q
    refine e_iload_n dX5_isFull_0 rfl rfl ?_
    refine e_tswOut 104 dX5_isFull_1 (by decide) (by decide) ?_
    refine e_iconst (nI 0) dX5_isFull_104 (by decide) ?_
    have hm : mfl D 3 = false := decide_eq_false (by omega)
    rw [hm] at h
    exact e_ireturn .boolean dX5_isFull_105 rfl (by decide) h
  · rw [show mkc 5 = 4 from rfl] at h
    show fEv g d mX5_isFull 0 [some (.ref 8), some (.int (nI 5))] [] σ Q
    refine e_iload_n dX5_isFull_0 rfl rfl ?_
    refine e_tswOut 104 dX5_isFull_1 (by decide) (by decide) ?_
    refine e_iconst (nI 0) dX5_isFull_104 (by decide) ?_
    have hm : mfl D 4 = false := decide_eq_false (by omega)
    rw [hm] at h
    exact e_ireturn .boolean dX5_isFull_105 rfl (by decide) h
  · rw [show mkc 6 = 5 from rfl] at h
    show fEv g d mX5_isFull 0 [some (.ref 8), some (.int (nI 6))] [] σ Q
    refine e_iload_n dX5_isFull_0 rfl rfl ?_
    refine e_tswOut 104 dX5_isFull_1 (by decide) (by decide) ?_
    refine e_iconst (nI 0) dX5_isFull_104 (by decide) ?_
    have hm : mfl D 5 = false := decide_eq_false (by omega)
    rw [hm] at h
    exact e_ireturn .boolean dX5_isFull_105 rfl (by decide) h
set_option maxRecDepth 20000 in
theorem t_X5_readNumbers {g : fGP} {d : Nat} {σ : fAH} {Q : fRes → fAH → Prop} {B : Nat → Nat} {n : Nat} {D : fSD} {s : fP} {c9 : Nat} {w : Nat} (Ms : fMs g σ) (hB : ∀ i, i < 600 → fI σ 1 i = sb (B i) ∧ B i < 256) (hn : fI σ 8 2 = nI n) (hn6 : n ≤ 600) (hc : fI σ 8 4 = nI c9) (Gr : fGr σ 9 D) (hD : fWD D) (hs : fPs σ 8 3 n s) (hw : w < 7) (hf : ¬ mfl D (mkc w) = true) (h : ∀ σ', fSm fRdA σ σ' → fPs σ' 8 3 n (mns B n (mkc w) D s).1 → (∀ e, (mns B n (mkc w) D s).1 = .inr e → fGr σ' 9 (mns B n (mkc w) D s).2) → fI σ' 8 2 = nI n → fI σ' 8 4 = nI c9 → Q (.inl none) σ') : fEv g (d + 3) mX5_readNumbers 0 (fent [.ref 8, .int (nI w)] 2) [] σ Q := by
  obtain ⟨t0, t1, t2, t3, t4, t5, t6⟩ := id hD.1
  rcases w7 hw with rfl | rfl | rfl | rfl | rfl | rfl | rfl
  · rw [show mkc 0 = 0 from rfl] at h hf
    have hf : ¬ ((0 = 0 ∧ 6 ≤ dT D 0) ∨ (0 = 1 ∧ 12 ≤ dT D 1) ∨ (0 = 2 ∧ 6 ≤ dT D 2) ∨ (0 = 6 ∧ 24 ≤ dT D 6)) := fun q => hf (decide_eq_true q)
    have hfl9 : dT D 0 < 6 := by omega
    show fEv g (d + 3) mX5_readNumbers 0 [some (.ref 8), some (.int (nI 0))] [] σ Q
    refine e_iload_n dX5_readNumbers_0 rfl rfl ?_
    refine e_tswIn (off := 39) 40 dX5_readNumbers_1 (by decide) (by decide) (by decide) (by decide) ?_
    refine e_aload_n dX5_readNumbers_40 rfl rfl ?_
    refine e_callV (k := 8) [] dX5_readNumbers_41 cc_X5_readBlock lk_RX5_110 im_X5_readBlock se_X5_readBlock (by decide) (Ms.s 8 rfl) (Ms.n (by decide)) rfl (Nat.le_of_ble_eq_true rfl) (Nat.le_of_ble_eq_true rfl) ?_
    refine t_X5_readBlock Ms hB hn hn6 hc Gr hD hs hfl9 (fun σ1 Sm1 hs1 Gr1 hn1 hc1 => fK_v (?_))
    show fEv g _ mX5_readNumbers 44 [some (.ref 8), some (.int (nI 0))] [] σ1 Q
    refine e_goto 116 dX5_readNumbers_44 (by decide) ?_
    exact e_return dX5_readNumbers_116 rfl (h _ Sm1 hs1 Gr1 hn1 hc1)
  · rw [show mkc 1 = 1 from rfl] at h hf
    have hf : ¬ ((1 = 0 ∧ 6 ≤ dT D 0) ∨ (1 = 1 ∧ 12 ≤ dT D 1) ∨ (1 = 2 ∧ 6 ≤ dT D 2) ∨ (1 = 6 ∧ 24 ≤ dT D 6)) := fun q => hf (decide_eq_true q)
    have hfl9 : dT D 1 < 12 := by omega
    show fEv g (d + 3) mX5_readNumbers 0 [some (.ref 8), some (.int (nI 1))] [] σ Q
    refine e_iload_n dX5_readNumbers_0 rfl rfl ?_
    refine e_tswIn (off := 46) 47 dX5_readNumbers_1 (by decide) (by decide) (by decide) (by decide) ?_
    refine e_aload_n dX5_readNumbers_47 rfl rfl ?_
    refine e_callV (k := 8) [] dX5_readNumbers_48 cc_X5_readSlot lk_RX5_113 im_X5_readSlot se_X5_readSlot (by decide) (Ms.s 8 rfl) (Ms.n (by decide)) rfl (Nat.le_of_ble_eq_true rfl) (Nat.le_of_ble_eq_true rfl) ?_
    refine t_X5_readSlot Ms hB hn hn6 hc Gr hD hs hfl9 (fun σ1 Sm1 hs1 Gr1 hn1 hc1 => fK_v (?_))
    show fEv g _ mX5_readNumbers 51 [some (.ref 8), some (.int (nI 1))] [] σ1 Q
    refine e_goto 116 dX5_readNumbers_51 (by decide) ?_
    exact e_return dX5_readNumbers_116 rfl (h _ Sm1 hs1 Gr1 hn1 hc1)
  · rw [show mkc 2 = 2 from rfl] at h hf
    have hf : ¬ ((2 = 0 ∧ 6 ≤ dT D 0) ∨ (2 = 1 ∧ 12 ≤ dT D 1) ∨ (2 = 2 ∧ 6 ≤ dT D 2) ∨ (2 = 6 ∧ 24 ≤ dT D 6)) := fun q => hf (decide_eq_true q)
    have hfl9 : dT D 2 < 6 := by omega
    show fEv g (d + 3) mX5_readNumbers 0 [some (.ref 8), some (.int (nI 2))] [] σ Q
    refine e_iload_n dX5_readNumbers_0 rfl rfl ?_
    refine e_tswIn (off := 53) 54 dX5_readNumbers_1 (by decide) (by decide) (by decide) (by decide) ?_
    refine e_aload_n dX5_readNumbers_54 rfl rfl ?_
    refine e_callV (k := 8) [] dX5_readNumbers_55 cc_X5_readOrder lk_RX5_116 im_X5_readOrder se_X5_readOrder (by decide) (Ms.s 8 rfl) (Ms.n (by decide)) rfl (Nat.le_of_ble_eq_true rfl) (Nat.le_of_ble_eq_true rfl) ?_
    refine t_X5_readOrder Ms hB hn hn6 hc Gr hD hs hfl9 (fun σ1 Sm1 hs1 Gr1 hn1 hc1 => fK_v (?_))
    show fEv g _ mX5_readNumbers 58 [some (.ref 8), some (.int (nI 2))] [] σ1 Q
    refine e_goto 116 dX5_readNumbers_58 (by decide) ?_
    exact e_return dX5_readNumbers_116 rfl (h _ Sm1 hs1 Gr1 hn1 hc1)
  · rw [show mkc 3 = 6 from rfl] at h hf
    have hf : ¬ ((6 = 0 ∧ 6 ≤ dT D 0) ∨ (6 = 1 ∧ 12 ≤ dT D 1) ∨ (6 = 2 ∧ 6 ≤ dT D 2) ∨ (6 = 6 ∧ 24 ≤ dT D 6)) := fun q => hf (decide_eq_true q)
    have hfl9 : dT D 6 < 24 := by omega
    show fEv g (d + 3) mX5_readNumbers 0 [some (.ref 8), some (.int (nI 3))] [] σ Q
    refine e_iload_n dX5_readNumbers_0 rfl rfl ?_
    refine e_tswIn (off := 60) 61 dX5_readNumbers_1 (by decide) (by decide) (by decide) (by decide) ?_
    refine e_aload_n dX5_readNumbers_61 rfl rfl ?_
    refine e_callV (k := 8) [] dX5_readNumbers_62 cc_X5_readOdds lk_RX5_119 im_X5_readOdds se_X5_readOdds (by decide) (Ms.s 8 rfl) (Ms.n (by decide)) rfl (Nat.le_of_ble_eq_true rfl) (Nat.le_of_ble_eq_true rfl) ?_
    refine t_X5_readOdds Ms hB hn hn6 hc Gr hD hs hfl9 (fun σ1 Sm1 hs1 Gr1 hn1 hc1 => fK_v (?_))
    show fEv g _ mX5_readNumbers 65 [some (.ref 8), some (.int (nI 3))] [] σ1 Q
    refine e_goto 116 dX5_readNumbers_65 (by decide) ?_
    exact e_return dX5_readNumbers_116 rfl (h _ Sm1 hs1 Gr1 hn1 hc1)
  · rw [show mkc 4 = 3 from rfl] at h hf
    have hf : ¬ ((3 = 0 ∧ 6 ≤ dT D 0) ∨ (3 = 1 ∧ 12 ≤ dT D 1) ∨ (3 = 2 ∧ 6 ≤ dT D 2) ∨ (3 = 6 ∧ 24 ≤ dT D 6)) := fun q => hf (decide_eq_true q)
    show fEv g (d + 3) mX5_readNumbers 0 [some (.ref 8), some (.int (nI 4))] [] σ Q
    refine e_iload_n dX5_readNumbers_0 rfl rfl ?_
    refine e_tswIn (off := 67) 68 dX5_readNumbers_1 (by decide) (by decide) (by decide) (by decide) ?_
    refine e_aload_n dX5_readNumbers_68 rfl rfl ?_
    refine e_getR (q := 9) dX5_readNumbers_69 fl_RX5_12 (Ms.s 8 rfl) (Ms.n (by decide)) rfl (Ms.r 8 1 rfl) (by unfold fscr; omega) ?_
    refine e_aload_n dX5_readNumbers_72 rfl rfl ?_
    refine e_iconst (nI 0) dX5_readNumbers_73 (by decide) ?_
    refine e_bipush (nI 12) dX5_readNumbers_74 (by decide) ?_
    refine e_callV (k := 8) [.int (nI 0), .int (nI 12)] dX5_readNumbers_76 cc_X5_readNumber lk_RX5_122 im_X5_readNumber se_X5_readNumber (by decide) (Ms.s 8 rfl) (Ms.n (by decide)) rfl (Nat.le_of_ble_eq_true rfl) (Nat.le_of_ble_eq_true rfl) ?_
    refine t_X5_readNumber (B := B) (n := n) (s := s) (lo := 0) (hi1 := 13) Ms hB hn hn6 hs (by decide) (fun _ _ => by omega) (fun _ _ => hl_n (by decide)) (fun σ1 Smx1 hs1 hk1 => ?_)
    show fEv g _ mX5_readNumbers 79 [some (.ref 8), some (.int (nI 4))] [.int (nI (mnv B n 0 13 0 s)), .ref 9] σ1 Q
    have Sm1 : fSm fRdA σ σ1 := (Smx1.to (fun a (q : a = 8) => (by omega : 8 ≤ a ∧ a < 15)))
    have Ms1 := Ms.sm Sm1
    have hB1 : ∀ i, i < 600 → fI σ1 1 i = sb (B i) ∧ B i < 256 := fun i hi => ⟨(Sm1.i (by unfold fRdA; omega) i).trans (hB i hi).1, (hB i hi).2⟩
    have hn1 := (hk1 2 (by decide) (by decide) (by decide)).trans hn
    have hc1 := (hk1 4 (by decide) (by decide) (by decide)).trans hc
    have Gr1 := Gr.sm Smx1 (fun i hi (q : 9 + i = 8) => by omega)
    refine e_putI dX5_readNumbers_79 fl_RX5_125 (Ms1.s 9 rfl) (Ms1.n (by decide)) rfl rfl ?_
    refine e_goto 116 dX5_readNumbers_82 (by decide) ?_
    have Smz : fSm fRdA σ1 (fsI σ1 9 9 (nI (mnv B n 0 13 0 s))) := fSm_I (by unfold fRdA; omega)
    exact e_return dX5_readNumbers_116 rfl (h _ (Sm1.tr Smz) (hs1.sm (fun q => by rw [fI_I, if_neg (by omega)])) (fun _ _ => Gr1.S3) hn1 hc1)
  · rw [show mkc 5 = 4 from rfl] at h hf
    have hf : ¬ ((4 = 0 ∧ 6 ≤ dT D 0) ∨ (4 = 1 ∧ 12 ≤ dT D 1) ∨ (4 = 2 ∧ 6 ≤ dT D 2) ∨ (4 = 6 ∧ 24 ≤ dT D 6)) := fun q => hf (decide_eq_true q)
    show fEv g (d + 3) mX5_readNumbers 0 [some (.ref 8), some (.int (nI 5))] [] σ Q
    refine e_iload_n dX5_readNumbers_0 rfl rfl ?_
    refine e_tswIn (off := 84) 85 dX5_readNumbers_1 (by decide) (by decide) (by decide) (by decide) ?_
    refine e_aload_n dX5_readNumbers_85 rfl rfl ?_
    refine e_getR (q := 9) dX5_readNumbers_86 fl_RX5_12 (Ms.s 8 rfl) (Ms.n (by decide)) rfl (Ms.r 8 1 rfl) (by unfold fscr; omega) ?_
    refine e_aload_n dX5_readNumbers_89 rfl rfl ?_
    refine e_iconst (nI 0) dX5_readNumbers_90 (by decide) ?_
    refine e_bipush (nI 9) dX5_readNumbers_91 (by decide) ?_
    refine e_callV (k := 8) [.int (nI 0), .int (nI 9)] dX5_readNumbers_93 cc_X5_readNumber lk_RX5_122 im_X5_readNumber se_X5_readNumber (by decide) (Ms.s 8 rfl) (Ms.n (by decide)) rfl (Nat.le_of_ble_eq_true rfl) (Nat.le_of_ble_eq_true rfl) ?_
    refine t_X5_readNumber (B := B) (n := n) (s := s) (lo := 0) (hi1 := 10) Ms hB hn hn6 hs (by decide) (fun _ _ => by omega) (fun _ _ => hl_n (by decide)) (fun σ1 Smx1 hs1 hk1 => ?_)
    show fEv g _ mX5_readNumbers 96 [some (.ref 8), some (.int (nI 5))] [.int (nI (mnv B n 0 10 0 s)), .ref 9] σ1 Q
    have Sm1 : fSm fRdA σ σ1 := (Smx1.to (fun a (q : a = 8) => (by omega : 8 ≤ a ∧ a < 15)))
    have Ms1 := Ms.sm Sm1
    have hB1 : ∀ i, i < 600 → fI σ1 1 i = sb (B i) ∧ B i < 256 := fun i hi => ⟨(Sm1.i (by unfold fRdA; omega) i).trans (hB i hi).1, (hB i hi).2⟩
    have hn1 := (hk1 2 (by decide) (by decide) (by decide)).trans hn
    have hc1 := (hk1 4 (by decide) (by decide) (by decide)).trans hc
    have Gr1 := Gr.sm Smx1 (fun i hi (q : 9 + i = 8) => by omega)
    refine e_putI dX5_readNumbers_96 fl_RX5_127 (Ms1.s 9 rfl) (Ms1.n (by decide)) rfl rfl ?_
    refine e_goto 116 dX5_readNumbers_99 (by decide) ?_
    have Smz : fSm fRdA σ1 (fsI σ1 9 10 (nI (mnv B n 0 10 0 s))) := fSm_I (by unfold fRdA; omega)
    exact e_return dX5_readNumbers_116 rfl (h _ (Sm1.tr Smz) (hs1.sm (fun q => by rw [fI_I, if_neg (by omega)])) (fun _ _ => Gr1.S4) hn1 hc1)
  · rw [show mkc 6 = 5 from rfl] at h hf
    have hf : ¬ ((5 = 0 ∧ 6 ≤ dT D 0) ∨ (5 = 1 ∧ 12 ≤ dT D 1) ∨ (5 = 2 ∧ 6 ≤ dT D 2) ∨ (5 = 6 ∧ 24 ≤ dT D 6)) := fun q => hf (decide_eq_true q)
    show fEv g (d + 3) mX5_readNumbers 0 [some (.ref 8), some (.int (nI 6))] [] σ Q
    refine e_iload_n dX5_readNumbers_0 rfl rfl ?_
    refine e_tswOut 102 dX5_readNumbers_1 (by decide) (by decide) ?_
    refine e_aload_n dX5_readNumbers_102 rfl rfl ?_
    refine e_getR (q := 9) dX5_readNumbers_103 fl_RX5_12 (Ms.s 8 rfl) (Ms.n (by decide)) rfl (Ms.r 8 1 rfl) (by unfold fscr; omega) ?_
    refine e_aload_n dX5_readNumbers_106 rfl rfl ?_
    refine e_iconst (nI 0) dX5_readNumbers_107 (by decide) ?_
    refine e_bipush (nI 30) dX5_readNumbers_108 (by decide) ?_
    refine e_callV (k := 8) [.int (nI 0), .int (nI 30)] dX5_readNumbers_110 cc_X5_readNumber lk_RX5_122 im_X5_readNumber se_X5_readNumber (by decide) (Ms.s 8 rfl) (Ms.n (by decide)) rfl (Nat.le_of_ble_eq_true rfl) (Nat.le_of_ble_eq_true rfl) ?_
    refine t_X5_readNumber (B := B) (n := n) (s := s) (lo := 0) (hi1 := 31) Ms hB hn hn6 hs (by decide) (fun _ _ => by omega) (fun _ _ => hl_n (by decide)) (fun σ1 Smx1 hs1 hk1 => ?_)
    show fEv g _ mX5_readNumbers 113 [some (.ref 8), some (.int (nI 6))] [.int (nI (mnv B n 0 31 0 s)), .ref 9] σ1 Q
    have Sm1 : fSm fRdA σ σ1 := (Smx1.to (fun a (q : a = 8) => (by omega : 8 ≤ a ∧ a < 15)))
    have Ms1 := Ms.sm Sm1
    have hB1 : ∀ i, i < 600 → fI σ1 1 i = sb (B i) ∧ B i < 256 := fun i hi => ⟨(Sm1.i (by unfold fRdA; omega) i).trans (hB i hi).1, (hB i hi).2⟩
    have hn1 := (hk1 2 (by decide) (by decide) (by decide)).trans hn
    have hc1 := (hk1 4 (by decide) (by decide) (by decide)).trans hc
    have Gr1 := Gr.sm Smx1 (fun i hi (q : 9 + i = 8) => by omega)
    refine e_putI dX5_readNumbers_113 fl_RX5_129 (Ms1.s 9 rfl) (Ms1.n (by decide)) rfl rfl ?_
    have Smz : fSm fRdA σ1 (fsI σ1 9 11 (nI (mnv B n 0 31 0 s))) := fSm_I (by unfold fRdA; omega)
    exact e_return dX5_readNumbers_116 rfl (h _ (Sm1.tr Smz) (hs1.sm (fun q => by rw [fI_I, if_neg (by omega)])) (fun _ _ => Gr1.S5) hn1 hc1)
set_option maxRecDepth 20000 in
theorem t_X5_readClause {g : fGP} {d : Nat} {σ : fAH} {Q : fRes → fAH → Prop} {B : Nat → Nat} {n : Nat} {D : fSD} {a c9 : Nat} (Ms : fMs g σ) (hB : ∀ i, i < 600 → fI σ 1 i = sb (B i) ∧ B i < 256) (hn : fI σ 8 2 = nI n) (hn6 : n ≤ 600) (hc : fI σ 8 4 = nI c9) (hc6 : c9 < 1000) (Gr : fGr σ 9 D) (hD : fWD D) (hs : fPs σ 8 3 n (.inr a)) (h : ∀ σ', fSm fRdA σ σ' → fPs σ' 8 3 n (mcla B n a c9 D).1 → (∀ e, (mcla B n a c9 D).1 = .inr e → fGr σ' 9 (mcla B n a c9 D).2 ∧ fI σ' 8 4 = nI (c9 + 1)) → fI σ' 8 2 = nI n → Q (.inl none) σ') : fEv g (d + 6) mX5_readClause 0 (fent [.ref 8] 3) [] σ Q := by
  have hs : a ≤ n ∧ fI σ 8 3 = nI a ∧ fI σ 8 5 = nI 0 ∧ fI σ 8 6 = -1 := hs
  have hat := hs.2.1
  have ha := hs.1
  show fEv g (d + 6) mX5_readClause 0 [some (.ref 8), none, none] [] σ Q
  refine e_aload_n dX5_readClause_0 rfl rfl ?_
  refine e_getI dX5_readClause_1 fl_RX5_22 (Ms.s 8 rfl) (Ms.n (by decide)) rfl ?_
  refine e_int (nI a) hat ?_
  refine e_istore_n (L1 := [some (.ref 8), some (.int (nI a)), none]) dX5_readClause_4 rfl (by decide) rfl ?_
  refine e_aload_n dX5_readClause_5 rfl rfl ?_
  refine e_callV (k := 8) [] dX5_readClause_6 cc_X5_readWord lk_RX5_53 im_X5_readWord se_X5_readWord (by decide) (Ms.s 8 rfl) (Ms.n (by decide)) rfl (Nat.le_of_ble_eq_true rfl) (Nat.le_of_ble_eq_true rfl) ?_
  refine t_X5_readWord Ms hB hn hn6 hat ha (fK_i ?_)
  show fEv g _ mX5_readClause 9 [some (.ref 8), some (.int (nI a)), none] [.int (mo (mwc B a (mlt B n a)))] (fsI σ 8 3 (nI (mlt B n a))) Q
  refine e_istore_n (L1 := [some (.ref 8), some (.int (nI a)), some (.int (mo (mwc B a (mlt B n a))))]) dX5_readClause_9 rfl (by decide) rfl ?_
  have hr := mwc_r B a (mlt B n a)
  cases hw : mwc B a (mlt B n a) with
  | none =>
    rw [hw] at hr
    rw [mcla_n hr] at h
    show fEv g _ mX5_readClause 10 [some (.ref 8), some (.int (nI a)), some (.int (-1))] [] (fsI σ 8 3 (nI (mlt B n a))) Q
    refine e_iload_n dX5_readClause_10 rfl rfl ?_
    refine e_iconst (-1) dX5_readClause_11 (by decide) ?_
    refine e_icmp_ne 22 dX5_readClause_12 (by decide) (fun c => absurd rfl c) (fun _ => ?_)
    refine e_aload_n dX5_readClause_15 rfl rfl ?_
    refine e_iconst (nI 1) dX5_readClause_16 (by decide) ?_
    refine e_iload_n dX5_readClause_17 rfl rfl ?_
    refine e_callV (k := 8) [.int (nI 1), .int (nI a)] dX5_readClause_18 cc_X5_blame lk_RX5_57 im_X5_blame se_X5_blame (by decide) (Ms.s 8 rfl) (Ms.n (by decide)) rfl (Nat.le_of_ble_eq_true rfl) (Nat.le_of_ble_eq_true rfl) ?_
    refine t_X5_blame (Ms) (by rw [fI_I, if_neg (by omega)]; exact hs.2.2.1) (fK_v ?_)
    show fEv g _ mX5_readClause 21 [some (.ref 8), some (.int (nI a)), some (.int ((-1)))] [] (fsI (fsI (fsI σ 8 3 (nI (mlt B n a))) 8 5 (nI 1)) 8 6 (nI a)) Q
    exact e_return dX5_readClause_21 rfl (h _ (((fSm_I (A := fRdA) (by unfold fRdA; omega)).tr (fSm_I (by unfold fRdA; omega))).tr (fSm_I (by unfold fRdA; omega))) ⟨by rw [fI_I, if_neg (by omega), fI_I, if_pos ⟨rfl, rfl⟩], by rw [fI_I, if_pos ⟨rfl, rfl⟩], by show 1 ≤ 1; decide, by show 1 ≤ 3; decide, by show a ≤ n; omega, mlt B n a, (mlt_b (B := B) ha).2, by rw [fI_I, if_neg (by omega), fI_I, if_neg (by omega), fI_I, if_pos ⟨rfl, rfl⟩]⟩ (fun e q => by cases q) (by rw [fI_I, if_neg (by omega), fI_I, if_neg (by omega), fI_I, if_neg (by omega)]; exact hn))
  | some w =>
    rw [hw] at hr
    have hr : mwr B a (mlt B n a) = some (mkc w) := hr
    have hw7 := mwc_lt hw
    show fEv g _ mX5_readClause 10 [some (.ref 8), some (.int (nI a)), some (.int (nI w))] [] (fsI σ 8 3 (nI (mlt B n a))) Q
    refine e_iload_n dX5_readClause_10 rfl rfl ?_
    refine e_iconst (-1) dX5_readClause_11 (by decide) ?_
    refine e_icmp_ne 22 dX5_readClause_12 (by decide) (fun _ => ?_) (fun c => absurd c (nI_m1 (by omega)))
    refine e_aload_n dX5_readClause_22 rfl rfl ?_
    refine e_getI dX5_readClause_23 fl_RX5_25 (Ms.s 8 rfl) (Ms.n (by decide)) rfl ?_
    refine e_int (nI c9) (by rw [fI_I, if_neg (by omega)]; exact hc) ?_
    refine e_bipush (nI 60) dX5_readClause_26 (by decide) ?_
    refine e_icmp_ge 39 dX5_readClause_28 (by decide) (fun c28 => ?_) (fun c28 => ?_)
    · rw [nI_le' (by omega) (by omega)] at c28
      refine e_aload_n dX5_readClause_39 rfl rfl ?_
      refine e_iconst (nI 3) dX5_readClause_40 (by decide) ?_
      refine e_iload_n dX5_readClause_41 rfl rfl ?_
      refine e_callV (k := 8) [.int (nI 3), .int (nI a)] dX5_readClause_42 cc_X5_blame lk_RX5_57 im_X5_blame se_X5_blame (by decide) (Ms.s 8 rfl) (Ms.n (by decide)) rfl (Nat.le_of_ble_eq_true rfl) (Nat.le_of_ble_eq_true rfl) ?_
      refine t_X5_blame (Ms) (by rw [fI_I, if_neg (by omega)]; exact hs.2.2.1) (fK_v ?_)
      show fEv g _ mX5_readClause 45 [some (.ref 8), some (.int (nI a)), some (.int (nI w))] [] (fsI (fsI (fsI σ 8 3 (nI (mlt B n a))) 8 5 (nI 3)) 8 6 (nI a)) Q
      rw [mcla_f hr (by first | exact Or.inl c28 | exact Or.inr c36)] at h
      exact e_return dX5_readClause_45 rfl (h _ (((fSm_I (A := fRdA) (by unfold fRdA; omega)).tr (fSm_I (by unfold fRdA; omega))).tr (fSm_I (by unfold fRdA; omega))) ⟨by rw [fI_I, if_neg (by omega), fI_I, if_pos ⟨rfl, rfl⟩], by rw [fI_I, if_pos ⟨rfl, rfl⟩], by show 1 ≤ 3; decide, by show 3 ≤ 3; decide, by show a ≤ n; omega, mlt B n a, (mlt_b (B := B) ha).2, by rw [fI_I, if_neg (by omega), fI_I, if_neg (by omega), fI_I, if_pos ⟨rfl, rfl⟩]⟩ (fun e q => by cases q) (by rw [fI_I, if_neg (by omega), fI_I, if_neg (by omega), fI_I, if_neg (by omega)]; exact hn))
    · rw [nI_le' (by omega) (by omega)] at c28
      refine e_aload_n dX5_readClause_31 rfl rfl ?_
      refine e_iload_n dX5_readClause_32 rfl rfl ?_
      refine e_callV (k := 8) [.int (nI w)] dX5_readClause_33 cc_X5_isFull lk_RX5_61 im_X5_isFull se_X5_isFull (by decide) (Ms.s 8 rfl) (Ms.n (by decide)) rfl (Nat.le_of_ble_eq_true rfl) (Nat.le_of_ble_eq_true rfl) ?_
      refine t_X5_isFull Ms Gr hD hw7 (fK_i ?_)
      show fEv g _ mX5_readClause 36 [some (.ref 8), some (.int (nI a)), some (.int (nI w))] [.int (nI (bn (mfl D (mkc w))))] (fsI σ 8 3 (nI (mlt B n a))) Q
      refine e_if_eq 46 dX5_readClause_36 (by decide) (fun c36 => ?_) (fun c36 => ?_)
      · have c36 := bn0 c36
        refine e_aload_n dX5_readClause_46 rfl rfl ?_
        refine e_dup dX5_readClause_47 rfl ?_
        refine e_getI dX5_readClause_48 fl_RX5_25 (Ms.s 8 rfl) (Ms.n (by decide)) rfl ?_
        refine e_int (nI c9) (by rw [fI_I, if_neg (by omega)]; exact hc) ?_
        refine e_iconst (nI 1) dX5_readClause_51 (by decide) ?_
        refine e_iadd dX5_readClause_52 ?_
        refine e_int (nI (c9 + 1)) (nI_add c9 1) ?_
        refine e_putI dX5_readClause_53 fl_RX5_25 (Ms.s 8 rfl) (Ms.n (by decide)) rfl rfl ?_
        have SmA : fSm fRdA σ (fsI (fsI σ 8 3 (nI (mlt B n a))) 8 4 (nI (c9 + 1))) := (fSm_I (by unfold fRdA; omega)).tr (fSm_I (by unfold fRdA; omega))
        have MsA := Ms.sm SmA
        have hBA : ∀ i, i < 600 → fI (fsI (fsI σ 8 3 (nI (mlt B n a))) 8 4 (nI (c9 + 1))) 1 i = sb (B i) ∧ B i < 256 := fun i hi => by rw [fI_I, if_neg (by omega), fI_I, if_neg (by omega)]; exact hB i hi
        have hnA : fI (fsI (fsI σ 8 3 (nI (mlt B n a))) 8 4 (nI (c9 + 1))) 8 2 = nI n := by rw [fI_I, if_neg (by omega), fI_I, if_neg (by omega)]; exact hn
        have hcA : fI (fsI (fsI σ 8 3 (nI (mlt B n a))) 8 4 (nI (c9 + 1))) 8 4 = nI (c9 + 1) := by rw [fI_I, if_pos ⟨rfl, rfl⟩]
        have GrA : fGr (fsI (fsI σ 8 3 (nI (mlt B n a))) 8 4 (nI (c9 + 1))) 9 D := Gr
        have hsA : fPs (fsI (fsI σ 8 3 (nI (mlt B n a))) 8 4 (nI (c9 + 1))) 8 3 n (.inr (mlt B n a)) := ⟨(mlt_b (B := B) ha).2, by rw [fI_I, if_neg (by omega), fI_I, if_pos ⟨rfl, rfl⟩], by rw [fI_I, if_neg (by omega), fI_I, if_neg (by omega)]; exact hs.2.2.1, by rw [fI_I, if_neg (by omega), fI_I, if_neg (by omega)]; exact hs.2.2.2⟩
        generalize fsI (fsI σ 8 3 (nI (mlt B n a))) 8 4 (nI (c9 + 1)) = σA at SmA MsA hBA hnA hcA GrA hsA ⊢
        refine e_aload_n dX5_readClause_56 rfl rfl ?_
        refine e_iload_n dX5_readClause_57 rfl rfl ?_
        refine e_callV (k := 8) [.int (nI w)] dX5_readClause_58 cc_X5_readNumbers lk_RX5_65 im_X5_readNumbers se_X5_readNumbers (by decide) (MsA.s 8 rfl) (MsA.n (by decide)) rfl (Nat.le_of_ble_eq_true rfl) (Nat.le_of_ble_eq_true rfl) ?_
        refine t_X5_readNumbers (s := .inr (mlt B n a)) (c9 := c9 + 1) MsA hBA hnA hn6 hcA GrA hD hsA hw7 (by rw [c36]; exact Bool.false_ne_true) (fun σ1 Sm1 hs1 Gr1 hn1 hc1 => fK_v (?_))
        show fEv g _ mX5_readClause 61 [some (.ref 8), some (.int (nI a)), some (.int (nI w))] [] σ1 Q
        have MsB := MsA.sm Sm1
        have hBB : ∀ i, i < 600 → fI σ1 1 i = sb (B i) ∧ B i < 256 := fun i hi => ⟨(Sm1.i (by unfold fRdA; omega) i).trans (hBA i hi).1, (hBA i hi).2⟩
        refine e_aload_n dX5_readClause_61 rfl rfl ?_
        refine e_callV (k := 8) [] dX5_readClause_62 cc_X5_readEnd lk_RX5_69 im_X5_readEnd se_X5_readEnd (by decide) (MsB.s 8 rfl) (MsB.n (by decide)) rfl (Nat.le_of_ble_eq_true rfl) (Nat.le_of_ble_eq_true rfl) ?_
        refine t_X5_readEnd MsB hBB hn1 hn6 hs1 (fun σ2 Sm2 hs2 hk2 => fK_v (?_))
        show fEv g _ mX5_readClause 65 [some (.ref 8), some (.int (nI a)), some (.int (nI w))] [] σ2 Q
        have hcl := mcla_s (D := D) hr (c := c9) (fun q => q.elim (fun q => by omega) (fun q => absurd (c36.symm.trans q) Bool.false_ne_true))
        rw [hcl] at h
        refine e_return dX5_readClause_65 rfl (h _ ((SmA.tr Sm1).tr (Sm2.to (fun a (q : a = 8) => (by omega : 8 ≤ a ∧ a < 15)))) hs2 (fun e q => ?_) ((hk2 2 (by decide) (by decide) (by decide)).trans hn1))
        obtain ⟨a9, h9⟩ := mse_ok q
        exact ⟨(Gr1 a9 h9).sm Sm2 (fun i hi (q : 9 + i = 8) => by omega), (hk2 4 (by decide) (by decide) (by decide)).trans hc1⟩
      · have c36 := bn1 c36
        refine e_aload_n dX5_readClause_39 rfl rfl ?_
        refine e_iconst (nI 3) dX5_readClause_40 (by decide) ?_
        refine e_iload_n dX5_readClause_41 rfl rfl ?_
        refine e_callV (k := 8) [.int (nI 3), .int (nI a)] dX5_readClause_42 cc_X5_blame lk_RX5_57 im_X5_blame se_X5_blame (by decide) (Ms.s 8 rfl) (Ms.n (by decide)) rfl (Nat.le_of_ble_eq_true rfl) (Nat.le_of_ble_eq_true rfl) ?_
        refine t_X5_blame (Ms) (by rw [fI_I, if_neg (by omega)]; exact hs.2.2.1) (fK_v ?_)
        show fEv g _ mX5_readClause 45 [some (.ref 8), some (.int (nI a)), some (.int (nI w))] [] (fsI (fsI (fsI σ 8 3 (nI (mlt B n a))) 8 5 (nI 3)) 8 6 (nI a)) Q
        rw [mcla_f hr (by first | exact Or.inl c28 | exact Or.inr c36)] at h
        exact e_return dX5_readClause_45 rfl (h _ (((fSm_I (A := fRdA) (by unfold fRdA; omega)).tr (fSm_I (by unfold fRdA; omega))).tr (fSm_I (by unfold fRdA; omega))) ⟨by rw [fI_I, if_neg (by omega), fI_I, if_pos ⟨rfl, rfl⟩], by rw [fI_I, if_pos ⟨rfl, rfl⟩], by show 1 ≤ 3; decide, by show 3 ≤ 3; decide, by show a ≤ n; omega, mlt B n a, (mlt_b (B := B) ha).2, by rw [fI_I, if_neg (by omega), fI_I, if_neg (by omega), fI_I, if_pos ⟨rfl, rfl⟩]⟩ (fun e q => by cases q) (by rw [fI_I, if_neg (by omega), fI_I, if_neg (by omega), fI_I, if_neg (by omega)]; exact hn))
