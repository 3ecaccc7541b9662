
set_option maxRecDepth 20000 in
theorem t_X10_sideOf0 {g : fGP} {d : Nat} {σ : fAH} {Q : fRes → fAH → Prop} {D : fSD} {S : Nat → Nat} {sd : Int32} {k w pt : Nat} (Ms : fMs g σ) (Mr : fMr σ D S sd) (hD : fWD D) (hW : fWS D S) (hk : k < dT D 1) (hw : w ≤ 2) (hp : pt ≤ 1) (h : Q (.inl (some (.int (if mcs D S k (dS D k 2 + w - 1) then nI (msd D S k ((mpc D S k).getD 0) (dS D k 2 + w - 1) pt 0) else -1)))) σ) : fEv g (d + 3) mX10_sideOf 0 (fent [.ref 89, .int (nI k), .int (nI w), .int (nI pt), .int (nI 0)] 8) [] σ Q := by
  obtain ⟨t0, t1, t2, t3, t4, t5, t6⟩ := id hD.1
  have np := hW.n hD
  obtain ⟨q0, q1, q2, q3, q4, q5, q6⟩ := hD.2.2.1 k hk
  have q8 := (hD.2.1 _ q0)
  have q9 : dS D k 2 < 12 := by rcases (show dS D k 1 = 0 ∨ dS D k 1 = 1 by omega) with e | e <;> rw [e] at q3 <;> omega
  show fEv g (d + 3) mX10_sideOf 0 [some (.ref 89), some (.int (nI k)), some (.int (nI w)), some (.int (nI pt)), some (.int (nI 0)), none, none, none] [] σ Q
  refine e_aload_n dX10_sideOf_0 rfl rfl ?_
  refine e_iload_n dX10_sideOf_1 rfl rfl ?_
  refine e_callV (k := 89) [.int (nI k)] dX10_sideOf_2 cc_X10_isAlive lk_RX10_183 im_X10_isAlive se_X10_isAlive (by decide) (Ms.s 89 rfl) (Ms.n (by decide)) rfl (Nat.le_of_ble_eq_true rfl) (Nat.le_of_ble_eq_true rfl) ?_
  refine t_X10_isAlive Ms Mr hD hW (by omega) (fK_i ?_)
  show fEv g _ mX10_sideOf 5 [some (.ref 89), some (.int (nI k)), some (.int (nI w)), some (.int (nI pt)), some (.int (nI 0)), none, none, none] [.int (nI (bn (mal D S k)))] σ Q
  cases ha : mal D S k with
  | false =>
    refine e_if_eq 16 dX10_sideOf_5 (by decide) (fun _ => ?_) (fun c => absurd rfl c)
    rw [show mcs D S k (dS D k 2 + w - 1) = false by unfold mcs; rw [ha]; rfl] at h
    refine e_iconst (-1) dX10_sideOf_16 (by decide) ?_
    refine e_istore (L1 := [some (.ref 89), some (.int (nI k)), some (.int (nI w)), some (.int (nI pt)), some (.int (nI 0)), some (.int ((-1))), none, none]) dX10_sideOf_17 (by decide) rfl ?_
    refine e_aload_n dX10_sideOf_19 rfl rfl ?_
    refine e_getR (q := 120) dX10_sideOf_20 fl_RX10_34 (Ms.s 89 rfl) (Ms.n (by decide)) rfl (Ms.r 89 14 rfl) (by unfold fscr; omega) ?_
    refine e_iload_n dX10_sideOf_23 rfl rfl ?_
    refine e_aaload (q := 121 + k) k dX10_sideOf_24 (Ms.s 120 rfl) (by decide) (Ms.n (by decide)) rfl (by omega) (by decide) (Ms.r 120 _ (frf_slot _ (by omega))) (by unfold fscr; omega) ?_
    refine e_iconst (nI 2) dX10_sideOf_25 (by decide) ?_
    refine e_iaload 2 dX10_sideOf_26 (Ms.s _ (fsh_slot _ (by omega))) (Ms.n (by omega)) rfl (by omega) (by decide) ?_
    refine e_int (nI (dS D k 2)) (Mr.slot k (by omega) 2 (by omega)) ?_
    refine e_iload_n dX10_sideOf_27 rfl rfl ?_
    refine e_iadd dX10_sideOf_28 ?_
    refine e_int (nI (dS D k 2 + w)) (nI_add (dS D k 2) w) ?_
    refine e_iconst (nI 1) dX10_sideOf_29 (by decide) ?_
    refine e_isub dX10_sideOf_30 ?_
    refine e_int (nI ((dS D k 2 + w) - 1)) (pk_sub (by omega)) ?_
    refine e_istore (L1 := [some (.ref 89), some (.int (nI k)), some (.int (nI w)), some (.int (nI pt)), some (.int (nI 0)), some (.int ((-1))), some (.int (nI ((dS D k 2 + w) - 1))), none]) dX10_sideOf_31 (by decide) rfl ?_
    refine e_iload dX10_sideOf_33 rfl ?_
    refine e_iconst (-1) dX10_sideOf_35 (by decide) ?_
    refine e_icmp_eq 51 dX10_sideOf_36 (by decide) (fun _ => ?_) (fun c => absurd c (by decide))
    refine e_iconst (-1) dX10_sideOf_51 (by decide) ?_
    exact e_ireturn .int dX10_sideOf_52 rfl rfl h
  | true =>
    obtain ⟨p, pc1, pp, pc3, pc4⟩ := mal_pc ha
    have x0 : (mpc D S k).getD 0 = p := by rw [pc1]; rfl
    obtain ⟨p0, p1, p2, p3, p4, p5⟩ := hW.2.1 p pp
    rw [x0] at h
    refine e_if_eq 16 dX10_sideOf_5 (by decide) (fun c => absurd c (by decide)) (fun _ => ?_)
    refine e_aload_n dX10_sideOf_8 rfl rfl ?_
    refine e_iload_n dX10_sideOf_9 rfl rfl ?_
    refine e_callV (k := 89) [.int (nI k)] dX10_sideOf_10 cc_X10_pieceOf lk_RX10_168 im_X10_pieceOf se_X10_pieceOf (by decide) (Ms.s 89 rfl) (Ms.n (by decide)) rfl (Nat.le_of_ble_eq_true rfl) (Nat.le_of_ble_eq_true rfl) ?_
    refine t_X10_pieceOf Ms Mr hD hW (by omega) (fK_i ?_)
    show fEv g _ mX10_sideOf 13 [some (.ref 89), some (.int (nI k)), some (.int (nI w)), some (.int (nI pt)), some (.int (nI 0)), none, none, none] [.int (mo (mpc D S k))] σ Q
    refine e_int (nI p) (by rw [pc1]; rfl) ?_
    refine e_goto 17 dX10_sideOf_13 (by decide) ?_
    refine e_istore (L1 := [some (.ref 89), some (.int (nI k)), some (.int (nI w)), some (.int (nI pt)), some (.int (nI 0)), some (.int (nI p)), none, none]) dX10_sideOf_17 (by decide) rfl ?_
    refine e_aload_n dX10_sideOf_19 rfl rfl ?_
    refine e_getR (q := 120) dX10_sideOf_20 fl_RX10_34 (Ms.s 89 rfl) (Ms.n (by decide)) rfl (Ms.r 89 14 rfl) (by unfold fscr; omega) ?_
    refine e_iload_n dX10_sideOf_23 rfl rfl ?_
    refine e_aaload (q := 121 + k) k dX10_sideOf_24 (Ms.s 120 rfl) (by decide) (Ms.n (by decide)) rfl (by omega) (by decide) (Ms.r 120 _ (frf_slot _ (by omega))) (by unfold fscr; omega) ?_
    refine e_iconst (nI 2) dX10_sideOf_25 (by decide) ?_
    refine e_iaload 2 dX10_sideOf_26 (Ms.s _ (fsh_slot _ (by omega))) (Ms.n (by omega)) rfl (by omega) (by decide) ?_
    refine e_int (nI (dS D k 2)) (Mr.slot k (by omega) 2 (by omega)) ?_
    refine e_iload_n dX10_sideOf_27 rfl rfl ?_
    refine e_iadd dX10_sideOf_28 ?_
    refine e_int (nI (dS D k 2 + w)) (nI_add (dS D k 2) w) ?_
    refine e_iconst (nI 1) dX10_sideOf_29 (by decide) ?_
    refine e_isub dX10_sideOf_30 ?_
    refine e_int (nI ((dS D k 2 + w) - 1)) (pk_sub (by omega)) ?_
    refine e_istore (L1 := [some (.ref 89), some (.int (nI k)), some (.int (nI w)), some (.int (nI pt)), some (.int (nI 0)), some (.int (nI p)), some (.int (nI ((dS D k 2 + w) - 1))), none]) dX10_sideOf_31 (by decide) rfl ?_
    refine e_iload dX10_sideOf_33 rfl ?_
    refine e_iconst (-1) dX10_sideOf_35 (by decide) ?_
    refine e_icmp_eq 51 dX10_sideOf_36 (by decide) (fun c => absurd c (nI_m1 (by omega))) (fun _ => ?_)
    refine e_aload_n dX10_sideOf_39 rfl rfl ?_
    refine e_iload_n dX10_sideOf_40 rfl rfl ?_
    refine e_iload dX10_sideOf_41 rfl ?_
    refine e_iload dX10_sideOf_43 rfl ?_
    refine e_callV (k := 89) [.int (nI k), .int (nI p), .int (nI ((dS D k 2 + w) - 1))] dX10_sideOf_45 cc_X10_isInside lk_RX10_171 im_X10_isInside se_X10_isInside (by decide) (Ms.s 89 rfl) (Ms.n (by decide)) rfl (Nat.le_of_ble_eq_true rfl) (Nat.le_of_ble_eq_true rfl) ?_
    refine t_X10_isInside Ms Mr hD hW (by omega) (by omega) (by omega) (fK_i ?_)
    show fEv g _ mX10_sideOf 48 [some (.ref 89), some (.int (nI k)), some (.int (nI w)), some (.int (nI pt)), some (.int (nI 0)), some (.int (nI p)), some (.int (nI ((dS D k 2 + w) - 1))), none] [.int (nI (bn (mins D S k p ((dS D k 2 + w) - 1))))] σ Q
    refine e_if_ne 53 dX10_sideOf_48 (by decide) (fun c48 => ?_) (fun c48 => ?_)
    · have c48 := bn1 c48
      rw [show mcs D S k (dS D k 2 + w - 1) = true by unfold mcs; rw [ha, x0, c48]; rfl] at h
      have i9 := of_decide_eq_true c48
      have s19 : dS D k 1 = 0 ∨ dS D k 1 = 1 := by omega
      refine e_bipush (nI 6) dX10_sideOf_53 (by decide) ?_
      refine e_iload dX10_sideOf_55 rfl ?_
      refine e_imul dX10_sideOf_57 ?_
      refine e_int (nI (p * 6)) ((pk_mul 6 p).trans (by rw [Nat.mul_comm])) ?_
      refine e_iconst (nI 1) dX10_sideOf_58 (by decide) ?_
      refine e_iadd dX10_sideOf_59 ?_
      refine e_int (nI (p * 6 + 1)) (nI_add (p * 6) 1) ?_
      refine e_iconst (nI 2) dX10_sideOf_60 (by decide) ?_
      refine e_iload dX10_sideOf_61 rfl ?_
      refine e_imul dX10_sideOf_63 ?_
      refine e_int (nI 0) (pk_mul 2 0) ?_
      refine e_iadd dX10_sideOf_64 ?_
      refine e_int (nI (p * 6 + 1)) (nI_add (p * 6 + 1) 0) ?_
      refine e_istore (L1 := [some (.ref 89), some (.int (nI k)), some (.int (nI w)), some (.int (nI pt)), some (.int (nI 0)), some (.int (nI p)), some (.int (nI ((dS D k 2 + w) - 1))), some (.int (nI (p * 6 + 1)))]) dX10_sideOf_65 (by decide) rfl ?_
      refine e_iload dX10_sideOf_67 rfl ?_
      refine e_aload_n dX10_sideOf_69 rfl rfl ?_
      refine e_getR (q := 120) dX10_sideOf_70 fl_RX10_34 (Ms.s 89 rfl) (Ms.n (by decide)) rfl (Ms.r 89 14 rfl) (by unfold fscr; omega) ?_
      refine e_iload_n dX10_sideOf_73 rfl rfl ?_
      refine e_aaload (q := 121 + k) k dX10_sideOf_74 (Ms.s 120 rfl) (by decide) (Ms.n (by decide)) rfl (by omega) (by decide) (Ms.r 120 _ (frf_slot _ (by omega))) (by unfold fscr; omega) ?_
      refine e_iconst (nI 1) dX10_sideOf_75 (by decide) ?_
      refine e_iaload 1 dX10_sideOf_76 (Ms.s _ (fsh_slot _ (by omega))) (Ms.n (by omega)) rfl (by omega) (by decide) ?_
      refine e_int (nI (dS D k 1)) (Mr.slot k (by omega) 1 (by omega)) ?_
      refine e_icmp_eq 98 dX10_sideOf_77 (by decide) (fun c77 => ?_) (fun c77 => ?_)
      · rw [nI_inj (by omega) (by omega)] at c77
        rw [← c77] at i9
        have i9 : S (p * 6 + 1) < dS D k 2 + w - 1 ∧ dS D k 2 + w - 1 < S (p * 6 + 2) := i9
        refine e_iload_n dX10_sideOf_98 rfl rfl ?_
        refine e_if_ne 115 dX10_sideOf_99 (by decide) (fun c99 => ?_) (fun c99 => ?_)
        · rw [nI_z (by omega)] at c99
          refine e_aload_n dX10_sideOf_115 rfl rfl ?_
          refine e_getR (q := 197) dX10_sideOf_116 fl_RX10_49 (Ms.s 89 rfl) (Ms.n (by decide)) rfl (Ms.r 89 19 rfl) (by unfold fscr; omega) ?_
          refine e_iload dX10_sideOf_119 rfl ?_
          refine e_iconst (nI 1) dX10_sideOf_121 (by decide) ?_
          refine e_iadd dX10_sideOf_122 ?_
          refine e_int (nI (p * 6 + 2)) (nI_add (p * 6 + 1) 1) ?_
          refine e_iaload (p * 6 + 2) dX10_sideOf_123 (Ms.s 197 rfl) (Ms.n (by decide)) rfl (by omega) (by decide) ?_
          refine e_int (nI (S (p * 6 + 2))) (Mr.s (p * 6 + 2) (by omega)) ?_
          refine e_iload dX10_sideOf_124 rfl ?_
          refine e_isub dX10_sideOf_126 ?_
          refine e_int (nI ((S (p * 6 + 2)) - ((dS D k 2 + w) - 1))) (pk_sub (by omega)) ?_
          rw [if_pos rfl, show msd D S k p (dS D k 2 + w - 1) pt 0 = (S (p * 6 + 2)) - ((dS D k 2 + w) - 1) from (if_pos (by omega)).trans (if_neg (by omega))] at h
          exact e_ireturn .int dX10_sideOf_127 rfl rfl h
        · rw [nI_z (by omega)] at c99
          refine e_iload dX10_sideOf_102 rfl ?_
          refine e_aload_n dX10_sideOf_104 rfl rfl ?_
          refine e_getR (q := 197) dX10_sideOf_105 fl_RX10_49 (Ms.s 89 rfl) (Ms.n (by decide)) rfl (Ms.r 89 19 rfl) (by unfold fscr; omega) ?_
          refine e_iload dX10_sideOf_108 rfl ?_
          refine e_iaload (p * 6 + 1) dX10_sideOf_110 (Ms.s 197 rfl) (Ms.n (by decide)) rfl (by omega) (by decide) ?_
          refine e_int (nI (S (p * 6 + 1))) (Mr.s (p * 6 + 1) (by omega)) ?_
          refine e_isub dX10_sideOf_111 ?_
          refine e_int (nI (((dS D k 2 + w) - 1) - (S (p * 6 + 1)))) (pk_sub (by omega)) ?_
          refine e_goto 127 dX10_sideOf_112 (by decide) ?_
          rw [if_pos rfl, show msd D S k p (dS D k 2 + w - 1) pt 0 = ((dS D k 2 + w) - 1) - (S (p * 6 + 1)) from (if_pos (by omega)).trans (if_pos (by omega))] at h
          exact e_ireturn .int dX10_sideOf_127 rfl rfl h
      · rw [nI_inj (by omega) (by omega)] at c77
        refine e_aload_n dX10_sideOf_80 rfl rfl ?_
        refine e_getR (q := 197) dX10_sideOf_81 fl_RX10_49 (Ms.s 89 rfl) (Ms.n (by decide)) rfl (Ms.r 89 19 rfl) (by unfold fscr; omega) ?_
        refine e_iload dX10_sideOf_84 rfl ?_
        refine e_iconst (nI 1) dX10_sideOf_86 (by decide) ?_
        refine e_iadd dX10_sideOf_87 ?_
        refine e_int (nI (p * 6 + 2)) (nI_add (p * 6 + 1) 1) ?_
        refine e_iaload (p * 6 + 2) dX10_sideOf_88 (Ms.s 197 rfl) (Ms.n (by decide)) rfl (by omega) (by decide) ?_
        refine e_int (nI (S (p * 6 + 2))) (Mr.s (p * 6 + 2) (by omega)) ?_
        refine e_aload_n dX10_sideOf_89 rfl rfl ?_
        refine e_getR (q := 197) dX10_sideOf_90 fl_RX10_49 (Ms.s 89 rfl) (Ms.n (by decide)) rfl (Ms.r 89 19 rfl) (by unfold fscr; omega) ?_
        refine e_iload dX10_sideOf_93 rfl ?_
        refine e_iaload (p * 6 + 1) dX10_sideOf_95 (Ms.s 197 rfl) (Ms.n (by decide)) rfl (by omega) (by decide) ?_
        refine e_int (nI (S (p * 6 + 1))) (Mr.s (p * 6 + 1) (by omega)) ?_
        refine e_isub dX10_sideOf_96 ?_
        refine e_int (nI ((S (p * 6 + 2)) - (S (p * 6 + 1)))) (pk_sub (by omega)) ?_
        rw [if_pos rfl, show msd D S k p (dS D k 2 + w - 1) pt 0 = (S (p * 6 + 2)) - (S (p * 6 + 1)) from if_neg (by omega)] at h
        exact e_ireturn .int dX10_sideOf_97 rfl rfl h
    · have c48 := bn0 c48
      rw [show mcs D S k (dS D k 2 + w - 1) = false by unfold mcs; rw [ha, x0, c48]; rfl] at h
      refine e_iconst (-1) dX10_sideOf_51 (by decide) ?_
      exact e_ireturn .int dX10_sideOf_52 rfl rfl h
set_option maxRecDepth 20000 in
theorem t_X10_sideOf1 {g : fGP} {d : Nat} {σ : fAH} {Q : fRes → fAH → Prop} {D : fSD} {S : Nat → Nat} {sd : Int32} {k w pt : Nat} (Ms : fMs g σ) (Mr : fMr σ D S sd) (hD : fWD D) (hW : fWS D S) (hk : k < dT D 1) (hw : w ≤ 2) (hp : pt ≤ 1) (h : Q (.inl (some (.int (if mcs D S k (dS D k 2 + w - 1) then nI (msd D S k ((mpc D S k).getD 0) (dS D k 2 + w - 1) pt 1) else -1)))) σ) : fEv g (d + 3) mX10_sideOf 0 (fent [.ref 89, .int (nI k), .int (nI w), .int (nI pt), .int (nI 1)] 8) [] σ Q := by
  obtain ⟨t0, t1, t2, t3, t4, t5, t6⟩ := id hD.1
  have np := hW.n hD
  obtain ⟨q0, q1, q2, q3, q4, q5, q6⟩ := hD.2.2.1 k hk
  have q8 := (hD.2.1 _ q0)
  have q9 : dS D k 2 < 12 := by rcases (show dS D k 1 = 0 ∨ dS D k 1 = 1 by omega) with e | e <;> rw [e] at q3 <;> omega
  show fEv g (d + 3) mX10_sideOf 0 [some (.ref 89), some (.int (nI k)), some (.int (nI w)), some (.int (nI pt)), some (.int (nI 1)), none, none, none] [] σ Q
  refine e_aload_n dX10_sideOf_0 rfl rfl ?_
  refine e_iload_n dX10_sideOf_1 rfl rfl ?_
  refine e_callV (k := 89) [.int (nI k)] dX10_sideOf_2 cc_X10_isAlive lk_RX10_183 im_X10_isAlive se_X10_isAlive (by decide) (Ms.s 89 rfl) (Ms.n (by decide)) rfl (Nat.le_of_ble_eq_true rfl) (Nat.le_of_ble_eq_true rfl) ?_
  refine t_X10_isAlive Ms Mr hD hW (by omega) (fK_i ?_)
  show fEv g _ mX10_sideOf 5 [some (.ref 89), some (.int (nI k)), some (.int (nI w)), some (.int (nI pt)), some (.int (nI 1)), none, none, none] [.int (nI (bn (mal D S k)))] σ Q
  cases ha : mal D S k with
  | false =>
    refine e_if_eq 16 dX10_sideOf_5 (by decide) (fun _ => ?_) (fun c => absurd rfl c)
    rw [show mcs D S k (dS D k 2 + w - 1) = false by unfold mcs; rw [ha]; rfl] at h
    refine e_iconst (-1) dX10_sideOf_16 (by decide) ?_
    refine e_istore (L1 := [some (.ref 89), some (.int (nI k)), some (.int (nI w)), some (.int (nI pt)), some (.int (nI 1)), some (.int ((-1))), none, none]) dX10_sideOf_17 (by decide) rfl ?_
    refine e_aload_n dX10_sideOf_19 rfl rfl ?_
    refine e_getR (q := 120) dX10_sideOf_20 fl_RX10_34 (Ms.s 89 rfl) (Ms.n (by decide)) rfl (Ms.r 89 14 rfl) (by unfold fscr; omega) ?_
    refine e_iload_n dX10_sideOf_23 rfl rfl ?_
    refine e_aaload (q := 121 + k) k dX10_sideOf_24 (Ms.s 120 rfl) (by decide) (Ms.n (by decide)) rfl (by omega) (by decide) (Ms.r 120 _ (frf_slot _ (by omega))) (by unfold fscr; omega) ?_
    refine e_iconst (nI 2) dX10_sideOf_25 (by decide) ?_
    refine e_iaload 2 dX10_sideOf_26 (Ms.s _ (fsh_slot _ (by omega))) (Ms.n (by omega)) rfl (by omega) (by decide) ?_
    refine e_int (nI (dS D k 2)) (Mr.slot k (by omega) 2 (by omega)) ?_
    refine e_iload_n dX10_sideOf_27 rfl rfl ?_
    refine e_iadd dX10_sideOf_28 ?_
    refine e_int (nI (dS D k 2 + w)) (nI_add (dS D k 2) w) ?_
    refine e_iconst (nI 1) dX10_sideOf_29 (by decide) ?_
    refine e_isub dX10_sideOf_30 ?_
    refine e_int (nI ((dS D k 2 + w) - 1)) (pk_sub (by omega)) ?_
    refine e_istore (L1 := [some (.ref 89), some (.int (nI k)), some (.int (nI w)), some (.int (nI pt)), some (.int (nI 1)), some (.int ((-1))), some (.int (nI ((dS D k 2 + w) - 1))), none]) dX10_sideOf_31 (by decide) rfl ?_
    refine e_iload dX10_sideOf_33 rfl ?_
    refine e_iconst (-1) dX10_sideOf_35 (by decide) ?_
    refine e_icmp_eq 51 dX10_sideOf_36 (by decide) (fun _ => ?_) (fun c => absurd c (by decide))
    refine e_iconst (-1) dX10_sideOf_51 (by decide) ?_
    exact e_ireturn .int dX10_sideOf_52 rfl rfl h
  | true =>
    obtain ⟨p, pc1, pp, pc3, pc4⟩ := mal_pc ha
    have x0 : (mpc D S k).getD 0 = p := by rw [pc1]; rfl
    obtain ⟨p0, p1, p2, p3, p4, p5⟩ := hW.2.1 p pp
    rw [x0] at h
    refine e_if_eq 16 dX10_sideOf_5 (by decide) (fun c => absurd c (by decide)) (fun _ => ?_)
    refine e_aload_n dX10_sideOf_8 rfl rfl ?_
    refine e_iload_n dX10_sideOf_9 rfl rfl ?_
    refine e_callV (k := 89) [.int (nI k)] dX10_sideOf_10 cc_X10_pieceOf lk_RX10_168 im_X10_pieceOf se_X10_pieceOf (by decide) (Ms.s 89 rfl) (Ms.n (by decide)) rfl (Nat.le_of_ble_eq_true rfl) (Nat.le_of_ble_eq_true rfl) ?_
    refine t_X10_pieceOf Ms Mr hD hW (by omega) (fK_i ?_)
    show fEv g _ mX10_sideOf 13 [some (.ref 89), some (.int (nI k)), some (.int (nI w)), some (.int (nI pt)), some (.int (nI 1)), none, none, none] [.int (mo (mpc D S k))] σ Q
    refine e_int (nI p) (by rw [pc1]; rfl) ?_
    refine e_goto 17 dX10_sideOf_13 (by decide) ?_
    refine e_istore (L1 := [some (.ref 89), some (.int (nI k)), some (.int (nI w)), some (.int (nI pt)), some (.int (nI 1)), some (.int (nI p)), none, none]) dX10_sideOf_17 (by decide) rfl ?_
    refine e_aload_n dX10_sideOf_19 rfl rfl ?_
    refine e_getR (q := 120) dX10_sideOf_20 fl_RX10_34 (Ms.s 89 rfl) (Ms.n (by decide)) rfl (Ms.r 89 14 rfl) (by unfold fscr; omega) ?_
    refine e_iload_n dX10_sideOf_23 rfl rfl ?_
    refine e_aaload (q := 121 + k) k dX10_sideOf_24 (Ms.s 120 rfl) (by decide) (Ms.n (by decide)) rfl (by omega) (by decide) (Ms.r 120 _ (frf_slot _ (by omega))) (by unfold fscr; omega) ?_
    refine e_iconst (nI 2) dX10_sideOf_25 (by decide) ?_
    refine e_iaload 2 dX10_sideOf_26 (Ms.s _ (fsh_slot _ (by omega))) (Ms.n (by omega)) rfl (by omega) (by decide) ?_
    refine e_int (nI (dS D k 2)) (Mr.slot k (by omega) 2 (by omega)) ?_
    refine e_iload_n dX10_sideOf_27 rfl rfl ?_
    refine e_iadd dX10_sideOf_28 ?_
    refine e_int (nI (dS D k 2 + w)) (nI_add (dS D k 2) w) ?_
    refine e_iconst (nI 1) dX10_sideOf_29 (by decide) ?_
    refine e_isub dX10_sideOf_30 ?_
    refine e_int (nI ((dS D k 2 + w) - 1)) (pk_sub (by omega)) ?_
    refine e_istore (L1 := [some (.ref 89), some (.int (nI k)), some (.int (nI w)), some (.int (nI pt)), some (.int (nI 1)), some (.int (nI p)), some (.int (nI ((dS D k 2 + w) - 1))), none]) dX10_sideOf_31 (by decide) rfl ?_
    refine e_iload dX10_sideOf_33 rfl ?_
    refine e_iconst (-1) dX10_sideOf_35 (by decide) ?_
    refine e_icmp_eq 51 dX10_sideOf_36 (by decide) (fun c => absurd c (nI_m1 (by omega))) (fun _ => ?_)
    refine e_aload_n dX10_sideOf_39 rfl rfl ?_
    refine e_iload_n dX10_sideOf_40 rfl rfl ?_
    refine e_iload dX10_sideOf_41 rfl ?_
    refine e_iload dX10_sideOf_43 rfl ?_
    refine e_callV (k := 89) [.int (nI k), .int (nI p), .int (nI ((dS D k 2 + w) - 1))] dX10_sideOf_45 cc_X10_isInside lk_RX10_171 im_X10_isInside se_X10_isInside (by decide) (Ms.s 89 rfl) (Ms.n (by decide)) rfl (Nat.le_of_ble_eq_true rfl) (Nat.le_of_ble_eq_true rfl) ?_
    refine t_X10_isInside Ms Mr hD hW (by omega) (by omega) (by omega) (fK_i ?_)
    show fEv g _ mX10_sideOf 48 [some (.ref 89), some (.int (nI k)), some (.int (nI w)), some (.int (nI pt)), some (.int (nI 1)), some (.int (nI p)), some (.int (nI ((dS D k 2 + w) - 1))), none] [.int (nI (bn (mins D S k p ((dS D k 2 + w) - 1))))] σ Q
    refine e_if_ne 53 dX10_sideOf_48 (by decide) (fun c48 => ?_) (fun c48 => ?_)
    · have c48 := bn1 c48
      rw [show mcs D S k (dS D k 2 + w - 1) = true by unfold mcs; rw [ha, x0, c48]; rfl] at h
      have i9 := of_decide_eq_true c48
      have s19 : dS D k 1 = 0 ∨ dS D k 1 = 1 := by omega
      refine e_bipush (nI 6) dX10_sideOf_53 (by decide) ?_
      refine e_iload dX10_sideOf_55 rfl ?_
      refine e_imul dX10_sideOf_57 ?_
      refine e_int (nI (p * 6)) ((pk_mul 6 p).trans (by rw [Nat.mul_comm])) ?_
      refine e_iconst (nI 1) dX10_sideOf_58 (by decide) ?_
      refine e_iadd dX10_sideOf_59 ?_
      refine e_int (nI (p * 6 + 1)) (nI_add (p * 6) 1) ?_
      refine e_iconst (nI 2) dX10_sideOf_60 (by decide) ?_
      refine e_iload dX10_sideOf_61 rfl ?_
      refine e_imul dX10_sideOf_63 ?_
      refine e_int (nI 2) (pk_mul 2 1) ?_
      refine e_iadd dX10_sideOf_64 ?_
      refine e_int (nI (p * 6 + 3)) (nI_add (p * 6 + 1) 2) ?_
      refine e_istore (L1 := [some (.ref 89), some (.int (nI k)), some (.int (nI w)), some (.int (nI pt)), some (.int (nI 1)), some (.int (nI p)), some (.int (nI ((dS D k 2 + w) - 1))), some (.int (nI (p * 6 + 3)))]) dX10_sideOf_65 (by decide) rfl ?_
      refine e_iload dX10_sideOf_67 rfl ?_
      refine e_aload_n dX10_sideOf_69 rfl rfl ?_
      refine e_getR (q := 120) dX10_sideOf_70 fl_RX10_34 (Ms.s 89 rfl) (Ms.n (by decide)) rfl (Ms.r 89 14 rfl) (by unfold fscr; omega) ?_
      refine e_iload_n dX10_sideOf_73 rfl rfl ?_
      refine e_aaload (q := 121 + k) k dX10_sideOf_74 (Ms.s 120 rfl) (by decide) (Ms.n (by decide)) rfl (by omega) (by decide) (Ms.r 120 _ (frf_slot _ (by omega))) (by unfold fscr; omega) ?_
      refine e_iconst (nI 1) dX10_sideOf_75 (by decide) ?_
      refine e_iaload 1 dX10_sideOf_76 (Ms.s _ (fsh_slot _ (by omega))) (Ms.n (by omega)) rfl (by omega) (by decide) ?_
      refine e_int (nI (dS D k 1)) (Mr.slot k (by omega) 1 (by omega)) ?_
      refine e_icmp_eq 98 dX10_sideOf_77 (by decide) (fun c77 => ?_) (fun c77 => ?_)
      · rw [nI_inj (by omega) (by omega)] at c77
        rw [← c77] at i9
        have i9 : S (p * 6 + 3) < dS D k 2 + w - 1 ∧ dS D k 2 + w - 1 < S (p * 6 + 4) := i9
        refine e_iload_n dX10_sideOf_98 rfl rfl ?_
        refine e_if_ne 115 dX10_sideOf_99 (by decide) (fun c99 => ?_) (fun c99 => ?_)
        · rw [nI_z (by omega)] at c99
          refine e_aload_n dX10_sideOf_115 rfl rfl ?_
          refine e_getR (q := 197) dX10_sideOf_116 fl_RX10_49 (Ms.s 89 rfl) (Ms.n (by decide)) rfl (Ms.r 89 19 rfl) (by unfold fscr; omega) ?_
          refine e_iload dX10_sideOf_119 rfl ?_
          refine e_iconst (nI 1) dX10_sideOf_121 (by decide) ?_
          refine e_iadd dX10_sideOf_122 ?_
          refine e_int (nI (p * 6 + 4)) (nI_add (p * 6 + 3) 1) ?_
          refine e_iaload (p * 6 + 4) dX10_sideOf_123 (Ms.s 197 rfl) (Ms.n (by decide)) rfl (by omega) (by decide) ?_
          refine e_int (nI (S (p * 6 + 4))) (Mr.s (p * 6 + 4) (by omega)) ?_
          refine e_iload dX10_sideOf_124 rfl ?_
          refine e_isub dX10_sideOf_126 ?_
          refine e_int (nI ((S (p * 6 + 4)) - ((dS D k 2 + w) - 1))) (pk_sub (by omega)) ?_
          rw [if_pos rfl, show msd D S k p (dS D k 2 + w - 1) pt 1 = (S (p * 6 + 4)) - ((dS D k 2 + w) - 1) from (if_pos (by omega)).trans (if_neg (by omega))] at h
          exact e_ireturn .int dX10_sideOf_127 rfl rfl h
        · rw [nI_z (by omega)] at c99
          refine e_iload dX10_sideOf_102 rfl ?_
          refine e_aload_n dX10_sideOf_104 rfl rfl ?_
          refine e_getR (q := 197) dX10_sideOf_105 fl_RX10_49 (Ms.s 89 rfl) (Ms.n (by decide)) rfl (Ms.r 89 19 rfl) (by unfold fscr; omega) ?_
          refine e_iload dX10_sideOf_108 rfl ?_
          refine e_iaload (p * 6 + 3) dX10_sideOf_110 (Ms.s 197 rfl) (Ms.n (by decide)) rfl (by omega) (by decide) ?_
          refine e_int (nI (S (p * 6 + 3))) (Mr.s (p * 6 + 3) (by omega)) ?_
          refine e_isub dX10_sideOf_111 ?_
          refine e_int (nI (((dS D k 2 + w) - 1) - (S (p * 6 + 3)))) (pk_sub (by omega)) ?_
          refine e_goto 127 dX10_sideOf_112 (by decide) ?_
          rw [if_pos rfl, show msd D S k p (dS D k 2 + w - 1) pt 1 = ((dS D k 2 + w) - 1) - (S (p * 6 + 3)) from (if_pos (by omega)).trans (if_pos (by omega))] at h
          exact e_ireturn .int dX10_sideOf_127 rfl rfl h
      · rw [nI_inj (by omega) (by omega)] at c77
        refine e_aload_n dX10_sideOf_80 rfl rfl ?_
        refine e_getR (q := 197) dX10_sideOf_81 fl_RX10_49 (Ms.s 89 rfl) (Ms.n (by decide)) rfl (Ms.r 89 19 rfl) (by unfold fscr; omega) ?_
        refine e_iload dX10_sideOf_84 rfl ?_
        refine e_iconst (nI 1) dX10_sideOf_86 (by decide) ?_
        refine e_iadd dX10_sideOf_87 ?_
        refine e_int (nI (p * 6 + 4)) (nI_add (p * 6 + 3) 1) ?_
        refine e_iaload (p * 6 + 4) dX10_sideOf_88 (Ms.s 197 rfl) (Ms.n (by decide)) rfl (by omega) (by decide) ?_
        refine e_int (nI (S (p * 6 + 4))) (Mr.s (p * 6 + 4) (by omega)) ?_
        refine e_aload_n dX10_sideOf_89 rfl rfl ?_
        refine e_getR (q := 197) dX10_sideOf_90 fl_RX10_49 (Ms.s 89 rfl) (Ms.n (by decide)) rfl (Ms.r 89 19 rfl) (by unfold fscr; omega) ?_
        refine e_iload dX10_sideOf_93 rfl ?_
        refine e_iaload (p * 6 + 3) dX10_sideOf_95 (Ms.s 197 rfl) (Ms.n (by decide)) rfl (by omega) (by decide) ?_
        refine e_int (nI (S (p * 6 + 3))) (Mr.s (p * 6 + 3) (by omega)) ?_
        refine e_isub dX10_sideOf_96 ?_
        refine e_int (nI ((S (p * 6 + 4)) - (S (p * 6 + 3)))) (pk_sub (by omega)) ?_
        rw [if_pos rfl, show msd D S k p (dS D k 2 + w - 1) pt 1 = (S (p * 6 + 4)) - (S (p * 6 + 3)) from if_neg (by omega)] at h
        exact e_ireturn .int dX10_sideOf_97 rfl rfl h
    · have c48 := bn0 c48
      rw [show mcs D S k (dS D k 2 + w - 1) = false by unfold mcs; rw [ha, x0, c48]; rfl] at h
      refine e_iconst (-1) dX10_sideOf_51 (by decide) ?_
      exact e_ireturn .int dX10_sideOf_52 rfl rfl h
set_option maxRecDepth 20000 in
theorem lp_X10_left {g : fGP} {d : Nat} {σ : fAH} {Q : fRes → fAH → Prop} {x : fXS} {k w pt : Nat}  (Ms : fMs g σ) (ok : fOK x) (Ir : fIr σ x) (hz : fI σ 89 0 = nI 0) (hk : k < dT (xD x) 1) (hw : w ≤ 2) (hp : pt ≤ 1) (h : ∀ σ', fSm fRfA σ σ' → fIr σ' x → fI σ' 89 0 = nI 0 → Q (.inl (some (.int (vLeft (xD x) (iS (xI x)) k w pt)))) σ') : fEv g (d + 4) mX10_left 5 [some (.ref 89), some (.int (nI k)), some (.int (nI w)), some (.int (nI pt)), none] [] σ Q := by
  obtain ⟨D, ⟨S, T, sd, pn, P, rn, R⟩, B, tp, pl, im, Im⟩ := x
  have hD : fWD D := ok.1
  have hW : fWS D S := ok.2.1.1
  have hC : fWC D S := ok.2.1.2.1
  have hN : fWN S 0 0 := ok.2.1.2.2.1
  have Mr : fMr σ D S sd := Ir.1
  have Mt : fMt σ S T := Ir.2.1
  obtain ⟨t0, t1, t2, t3, t4, t5, t6⟩ := id hD.1
  have np := hW.n hD
  have n5 := hW.2.2.2.2
  have tp6 : tp ≤ 600 := ok.2.2.2.1
  have im3 : im ≤ 3 := ok.2.2.2.2.1
  have pn3 : pn ≤ 30 := ok.2.1.2.2.2.1
  have rn6 : rn ≤ 60 := ok.2.1.2.2.2.2.2.1
  have Rc : fRc σ (S, T, sd, pn, P, rn, R) := Ir.2.2.2.2.1
  have w52 := hW.1
  have hk : k < dT D 1 := hk
  show fEv g (d + 4) mX10_left 5 [some (.ref 89), some (.int (nI k)), some (.int (nI w)), some (.int (nI pt)), none] [] σ Q
  refine e_aload_n dX10_left_5 rfl rfl ?_
  refine e_aload_n dX10_left_6 rfl rfl ?_
  refine e_iload_n dX10_left_7 rfl rfl ?_
  refine e_callV (k := 89) [.int (nI k)] dX10_left_8 cc_X10_isSlot lk_RX10_177 im_X10_isSlot se_X10_isSlot (by decide) (Ms.s 89 rfl) (Ms.n (by decide)) rfl (Nat.le_of_ble_eq_true rfl) (Nat.le_of_ble_eq_true rfl) ?_
  refine t_X10_isSlotT Ms Mr hD hk (fK_i ?_)
  show fEv g _ mX10_left 11 [some (.ref 89), some (.int (nI k)), some (.int (nI w)), some (.int (nI pt)), none] [.int (nI 1), .ref 89] σ Q
  refine e_if_ne 18 dX10_left_11 (by decide) (fun _ => ?_) (fun c => absurd c (by decide))
  refine e_iconst (nI 0) dX10_left_18 (by decide) ?_
  refine e_iconst (nI 1) dX10_left_19 (by decide) ?_
  refine e_callV (k := 89) [.int (nI 0), .int (nI 1)] dX10_left_20 cc_X10_bad lk_RX10_148 im_X10_bad se_X10_bad (by decide) (Ms.s 89 rfl) (Ms.n (by decide)) rfl (Nat.le_of_ble_eq_true rfl) (Nat.le_of_ble_eq_true rfl) ?_
  refine t_X10_bad0 Ms hz (by decide) (fK_i ?_)
  show fEv g _ mX10_left 23 [some (.ref 89), some (.int (nI k)), some (.int (nI w)), some (.int (nI pt)), none] [.int (nI 0)] σ Q
  refine e_if_ne 57 dX10_left_23 (by decide) (fun c => absurd c (by decide)) (fun _ => ?_)
  refine e_aload_n dX10_left_26 rfl rfl ?_
  refine e_iload_n dX10_left_27 rfl rfl ?_
  refine e_iconst (nI 0) dX10_left_28 (by decide) ?_
  refine e_iconst (nI 2) dX10_left_29 (by decide) ?_
  refine e_callS [.int (nI w), .int (nI 0), .int (nI 2)] dX10_left_30 cc_X10_in lk_RX10_110 st_X10_in in_RX10 rfl (Nat.le_of_ble_eq_true rfl) (Nat.le_of_ble_eq_true rfl) ?_
  refine t_X10_inT ⟨(nI_le' (by omega) (by omega)).mpr (by omega), (nI_le' (by omega) (by omega)).mpr (by omega)⟩ (fK_i ?_)
  show fEv g _ mX10_left 33 [some (.ref 89), some (.int (nI k)), some (.int (nI w)), some (.int (nI pt)), none] [.int (nI 1), .ref 89] σ Q
  refine e_if_eq 45 dX10_left_33 (by decide) (fun c => absurd c (by decide)) (fun _ => ?_)
  refine e_iload_n dX10_left_36 rfl rfl ?_
  refine e_iconst (nI 0) dX10_left_37 (by decide) ?_
  refine e_iconst (nI 1) dX10_left_38 (by decide) ?_
  refine e_callS [.int (nI pt), .int (nI 0), .int (nI 1)] dX10_left_39 cc_X10_in lk_RX10_110 st_X10_in in_RX10 rfl (Nat.le_of_ble_eq_true rfl) (Nat.le_of_ble_eq_true rfl) ?_
  refine t_X10_inT ⟨(nI_le' (by omega) (by omega)).mpr (by omega), (nI_le' (by omega) (by omega)).mpr (by omega)⟩ (fK_i ?_)
  show fEv g _ mX10_left 42 [some (.ref 89), some (.int (nI k)), some (.int (nI w)), some (.int (nI pt)), none] [.int (nI 1), .ref 89] σ Q
  refine e_if_ne 49 dX10_left_42 (by decide) (fun _ => ?_) (fun c => absurd c (by decide))
  refine e_iconst (nI 0) dX10_left_49 (by decide) ?_
  refine e_iconst (nI 2) dX10_left_50 (by decide) ?_
  refine e_callV (k := 89) [.int (nI 0), .int (nI 2)] dX10_left_51 cc_X10_bad lk_RX10_148 im_X10_bad se_X10_bad (by decide) (Ms.s 89 rfl) (Ms.n (by decide)) rfl (Nat.le_of_ble_eq_true rfl) (Nat.le_of_ble_eq_true rfl) ?_
  refine t_X10_bad0 Ms hz (by decide) (fK_i ?_)
  show fEv g _ mX10_left 54 [some (.ref 89), some (.int (nI k)), some (.int (nI w)), some (.int (nI pt)), none] [.int (nI 0)] σ Q
  refine e_if_eq 59 dX10_left_54 (by decide) (fun _ => ?_) (fun c => absurd c (by decide))
  refine e_aload_n dX10_left_59 rfl rfl ?_
  refine e_iload_n dX10_left_60 rfl rfl ?_
  refine e_iload_n dX10_left_61 rfl rfl ?_
  refine e_iload_n dX10_left_62 rfl rfl ?_
  refine e_iconst (nI 0) dX10_left_63 (by decide) ?_
  refine e_callV (k := 89) [.int (nI k), .int (nI w), .int (nI pt), .int (nI 0)] dX10_left_64 cc_X10_sideOf lk_RX10_243 im_X10_sideOf se_X10_sideOf (by decide) (Ms.s 89 rfl) (Ms.n (by decide)) rfl (Nat.le_of_ble_eq_true rfl) (Nat.le_of_ble_eq_true rfl) ?_
  refine t_X10_sideOf0 Ms Mr hD hW hk hw hp (fK_i ?_)
  show fEv g _ mX10_left 67 [some (.ref 89), some (.int (nI k)), some (.int (nI w)), some (.int (nI pt)), none] [.int (if mcs D S k (dS D k 2 + w - 1) then nI (msd D S k ((mpc D S k).getD 0) (dS D k 2 + w - 1) pt 0) else -1)] σ Q
  unfold vLeft at h
  cases hc9 : mcs D S k (dS D k 2 + w - 1) with
  | false =>
    rw [hc9] at h
    refine e_int (-1) rfl ?_
    refine e_istore (L1 := [some (.ref 89), some (.int (nI k)), some (.int (nI w)), some (.int (nI pt)), some (.int ((-1)))]) dX10_left_67 (by decide) rfl ?_
    refine e_iload dX10_left_69 rfl ?_
    refine e_iconst (-1) dX10_left_71 (by decide) ?_
    refine e_icmp_ne 79 dX10_left_72 (by decide) (fun c => absurd c (by decide)) (fun _ => ?_)
    refine e_iconst (-1) dX10_left_75 (by decide) ?_
    refine e_goto 90 dX10_left_76 (by decide) ?_
    exact e_ireturn .int dX10_left_90 rfl rfl (h σ fSm.rfl' Ir hz)
  | true =>
    rw [hc9] at h
    obtain ⟨p, hc1, hc2, hc3, hc4⟩ := mcs_p hc9
    have mb := msd_b hD hW hk hc4 hc3 hp
    rw [hc2] at h ⊢
    refine e_int (nI (msd D S k p (dS D k 2 + w - 1) pt 0)) rfl ?_
    refine e_istore (L1 := [some (.ref 89), some (.int (nI k)), some (.int (nI w)), some (.int (nI pt)), some (.int (nI (msd D S k p (dS D k 2 + w - 1) pt 0)))]) dX10_left_67 (by decide) rfl ?_
    refine e_iload dX10_left_69 rfl ?_
    refine e_iconst (-1) dX10_left_71 (by decide) ?_
    refine e_icmp_ne 79 dX10_left_72 (by decide) (fun _ => ?_) (fun c => absurd c (nI_m1 (by omega)))
    refine e_iload dX10_left_79 rfl ?_
    refine e_aload_n dX10_left_81 rfl rfl ?_
    refine e_iload_n dX10_left_82 rfl rfl ?_
    refine e_iload_n dX10_left_83 rfl rfl ?_
    refine e_iload_n dX10_left_84 rfl rfl ?_
    refine e_iconst (nI 1) dX10_left_85 (by decide) ?_
    refine e_callV (k := 89) [.int (nI k), .int (nI w), .int (nI pt), .int (nI 1)] dX10_left_86 cc_X10_sideOf lk_RX10_243 im_X10_sideOf se_X10_sideOf (by decide) (Ms.s 89 rfl) (Ms.n (by decide)) rfl (Nat.le_of_ble_eq_true rfl) (Nat.le_of_ble_eq_true rfl) ?_
    refine t_X10_sideOf1 Ms Mr hD hW hk hw hp (fK_i ?_)
    show fEv g _ mX10_left 89 [some (.ref 89), some (.int (nI k)), some (.int (nI w)), some (.int (nI pt)), some (.int (nI (msd D S k p (dS D k 2 + w - 1) pt 0)))] [.int (if mcs D S k (dS D k 2 + w - 1) then nI (msd D S k ((mpc D S k).getD 0) (dS D k 2 + w - 1) pt 1) else -1), .int (nI (msd D S k p (dS D k 2 + w - 1) pt 0))] σ Q
    refine e_int (nI (msd D S k p (dS D k 2 + w - 1) pt 1)) (by rw [hc9, hc2]; rfl) ?_
    refine e_imul dX10_left_89 ?_
    refine e_int (nI ((msd D S k p (dS D k 2 + w - 1) pt 0) * (msd D S k p (dS D k 2 + w - 1) pt 1))) (pk_mul (msd D S k p (dS D k 2 + w - 1) pt 0) (msd D S k p (dS D k 2 + w - 1) pt 1)) ?_
    exact e_ireturn .int dX10_left_90 rfl rfl (h σ fSm.rfl' Ir hz)
set_option maxRecDepth 20000 in
theorem t_X10_left {g : fGP} {d : Nat} {σ : fAH} {Q : fRes → fAH → Prop} {x : fXS} {k w pt : Nat}  (Ms : fMs g σ) (ok : fOK x) (Ir : fIr σ x) (hk : k < dT (xD x) 1) (hw : w ≤ 2) (hp : pt ≤ 1) (h : ∀ σ', fSm fRfA σ σ' → fIr σ' x → fI σ' 89 0 = nI 0 → Q (.inl (some (.int (vLeft (xD x) (iS (xI x)) k w pt)))) σ') : fEv g (d + 4) mX10_left 0 (fent [.ref 89, .int (nI k), .int (nI w), .int (nI pt)] 5) [] σ Q := by
  have S9 : fSm (fun a => a = 89) σ (fsI σ 89 0 (nI 0)) := fSm_I rfl
  show fEv g (d + 4) mX10_left 0 [some (.ref 89), some (.int (nI k)), some (.int (nI w)), some (.int (nI pt)), none] [] σ Q
  refine e_aload_n dX10_left_0 rfl rfl ?_
  refine e_iconst (nI 0) dX10_left_1 (by decide) ?_
  refine e_putI dX10_left_2 fl_RX10_76 (Ms.s 89 rfl) (Ms.n (by decide)) rfl rfl ?_
  exact lp_X10_left (Ms.sm S9) ok (Ir.f0 ok S9 (fun a (q : a = 89) => Or.inl (by omega)) (fun j hj => by simp only [List.mem_cons, List.not_mem_nil, or_false] at hj; rw [fI_I, if_neg (by omega)])) (by rw [fI_I, if_pos ⟨rfl, rfl⟩]) hk hw hp (fun σ' Sm' => h σ' ((S9.to (fun a (q : a = 89) => by unfold fRfA; omega)).tr Sm'))
set_option maxRecDepth 20000 in
theorem lp_X10_leftE1 {g : fGP} {d : Nat} {σ : fAH} {Q : fRes → fAH → Prop} {x : fXS} {a b c : Int32}  (Ms : fMs g σ) (ok : fOK x) (Ir : fIr σ x) (hz : fI σ 89 0 = nI 0) (hv : ¬ (nI 0 ≤ a ∧ a < nI (dT (xD x) 1))) (h : ∀ σ', fSm fRfA σ σ' → fIr σ' x → fI σ' 89 0 = nI 1 → Q (.inl (some (.int (nI 0)))) σ') : fEv g (d + 2) mX10_left 5 [some (.ref 89), some (.int a), some (.int b), some (.int c), none] [] σ Q := by
  obtain ⟨D, ⟨S, T, sd, pn, P, rn, R⟩, B, tp, pl, im, Im⟩ := x
  have hD : fWD D := ok.1
  have hW : fWS D S := ok.2.1.1
  have hC : fWC D S := ok.2.1.2.1
  have hN : fWN S 0 0 := ok.2.1.2.2.1
  have Mr : fMr σ D S sd := Ir.1
  have Mt : fMt σ S T := Ir.2.1
  obtain ⟨t0, t1, t2, t3, t4, t5, t6⟩ := id hD.1
  have np := hW.n hD
  have n5 := hW.2.2.2.2
  have tp6 : tp ≤ 600 := ok.2.2.2.1
  have im3 : im ≤ 3 := ok.2.2.2.2.1
  have pn3 : pn ≤ 30 := ok.2.1.2.2.2.1
  have rn6 : rn ≤ 60 := ok.2.1.2.2.2.2.2.1
  have Rc : fRc σ (S, T, sd, pn, P, rn, R) := Ir.2.2.2.2.1
  have w52 := hW.1
  show fEv g (d + 2) mX10_left 5 [some (.ref 89), some (.int a), some (.int b), some (.int c), none] [] σ Q
  refine e_aload_n dX10_left_5 rfl rfl ?_
  refine e_aload_n dX10_left_6 rfl rfl ?_
  refine e_iload_n dX10_left_7 rfl rfl ?_
  refine e_callV (k := 89) [.int a] dX10_left_8 cc_X10_isSlot lk_RX10_177 im_X10_isSlot se_X10_isSlot (by decide) (Ms.s 89 rfl) (Ms.n (by decide)) rfl (Nat.le_of_ble_eq_true rfl) (Nat.le_of_ble_eq_true rfl) ?_
  refine t_X10_isSlotF Ms Mr hD hv (fK_i ?_)
  show fEv g _ mX10_left 11 [some (.ref 89), some (.int a), some (.int b), some (.int c), none] [.int (nI 0), .ref 89] σ Q
  refine e_if_ne 18 dX10_left_11 (by decide) (fun c => absurd c (by decide)) (fun _ => ?_)
  refine e_iconst (nI 1) dX10_left_14 (by decide) ?_
  refine e_goto 19 dX10_left_15 (by decide) ?_
  refine e_iconst (nI 1) dX10_left_19 (by decide) ?_
  refine e_callV (k := 89) [.int (nI 1), .int (nI 1)] dX10_left_20 cc_X10_bad lk_RX10_148 im_X10_bad se_X10_bad (by decide) (Ms.s 89 rfl) (Ms.n (by decide)) rfl (Nat.le_of_ble_eq_true rfl) (Nat.le_of_ble_eq_true rfl) ?_
  refine t_X10_bad1 Ms hz (by decide) (fK_i ?_)
  show fEv g _ mX10_left 23 [some (.ref 89), some (.int a), some (.int b), some (.int c), none] [.int (nI 1)] (fsI σ 89 0 (nI 1)) Q
  refine e_if_ne 57 dX10_left_23 (by decide) (fun _ => ?_) (fun c => absurd c (by decide))
  refine e_iconst (nI 0) dX10_left_57 (by decide) ?_
  exact e_ireturn .int dX10_left_58 rfl rfl (h _ (fSm_I (by unfold fRfA; omega)) (Ir.f0 ok (A := fun a => a = 89) (fSm_I rfl) (fun a (q : a = 89) => Or.inl (by omega)) (fun j hj => by simp only [List.mem_cons, List.not_mem_nil, or_false] at hj; rw [fI_I, if_neg (by omega)])) (by rw [fI_I, if_pos ⟨rfl, rfl⟩]))
set_option maxRecDepth 20000 in
theorem t_X10_leftE1 {g : fGP} {d : Nat} {σ : fAH} {Q : fRes → fAH → Prop} {x : fXS} {a b c : Int32}  (Ms : fMs g σ) (ok : fOK x) (Ir : fIr σ x) (hv : ¬ (nI 0 ≤ a ∧ a < nI (dT (xD x) 1))) (h : ∀ σ', fSm fRfA σ σ' → fIr σ' x → fI σ' 89 0 = nI 1 → Q (.inl (some (.int (nI 0)))) σ') : fEv g (d + 2) mX10_left 0 (fent [.ref 89, .int a, .int b, .int c] 5) [] σ Q := by
  have S9 : fSm (fun a => a = 89) σ (fsI σ 89 0 (nI 0)) := fSm_I rfl
  show fEv g (d + 2) mX10_left 0 [some (.ref 89), some (.int a), some (.int b), some (.int c), none] [] σ Q
  refine e_aload_n dX10_left_0 rfl rfl ?_
  refine e_iconst (nI 0) dX10_left_1 (by decide) ?_
  refine e_putI dX10_left_2 fl_RX10_76 (Ms.s 89 rfl) (Ms.n (by decide)) rfl rfl ?_
  exact lp_X10_leftE1 (Ms.sm S9) ok (Ir.f0 ok S9 (fun a (q : a = 89) => Or.inl (by omega)) (fun j hj => by simp only [List.mem_cons, List.not_mem_nil, or_false] at hj; rw [fI_I, if_neg (by omega)])) (by rw [fI_I, if_pos ⟨rfl, rfl⟩]) hv (fun σ' Sm' => h σ' ((S9.to (fun a (q : a = 89) => by unfold fRfA; omega)).tr Sm'))
set_option maxRecDepth 20000 in
theorem lp_X10_leftE2 {g : fGP} {d : Nat} {σ : fAH} {Q : fRes → fAH → Prop} {x : fXS} {k : Nat} {b c : Int32}  (Ms : fMs g σ) (ok : fOK x) (Ir : fIr σ x) (hz : fI σ 89 0 = nI 0) (hk : k < dT (xD x) 1) (hv : ¬ (nI 0 ≤ b ∧ b ≤ nI 2)) (h : ∀ σ', fSm fRfA σ σ' → fIr σ' x → fI σ' 89 0 = nI 2 → Q (.inl (some (.int (nI 0)))) σ') : fEv g (d + 2) mX10_left 5 [some (.ref 89), some (.int (nI k)), some (.int b), some (.int c), none] [] σ Q := by
  obtain ⟨D, ⟨S, T, sd, pn, P, rn, R⟩, B, tp, pl, im, Im⟩ := x
  have hD : fWD D := ok.1
  have hW : fWS D S := ok.2.1.1
  have hC : fWC D S := ok.2.1.2.1
  have hN : fWN S 0 0 := ok.2.1.2.2.1
  have Mr : fMr σ D S sd := Ir.1
  have Mt : fMt σ S T := Ir.2.1
  obtain ⟨t0, t1, t2, t3, t4, t5, t6⟩ := id hD.1
  have np := hW.n hD
  have n5 := hW.2.2.2.2
  have tp6 : tp ≤ 600 := ok.2.2.2.1
  have im3 : im ≤ 3 := ok.2.2.2.2.1
  have pn3 : pn ≤ 30 := ok.2.1.2.2.2.1
  have rn6 : rn ≤ 60 := ok.2.1.2.2.2.2.2.1
  have Rc : fRc σ (S, T, sd, pn, P, rn, R) := Ir.2.2.2.2.1
  have w52 := hW.1
  show fEv g (d + 2) mX10_left 5 [some (.ref 89), some (.int (nI k)), some (.int b), some (.int c), none] [] σ Q
  refine e_aload_n dX10_left_5 rfl rfl ?_
  refine e_aload_n dX10_left_6 rfl rfl ?_
  refine e_iload_n dX10_left_7 rfl rfl ?_
  refine e_callV (k := 89) [.int (nI k)] dX10_left_8 cc_X10_isSlot lk_RX10_177 im_X10_isSlot se_X10_isSlot (by decide) (Ms.s 89 rfl) (Ms.n (by decide)) rfl (Nat.le_of_ble_eq_true rfl) (Nat.le_of_ble_eq_true rfl) ?_
  refine t_X10_isSlotT Ms Mr hD hk (fK_i ?_)
  show fEv g _ mX10_left 11 [some (.ref 89), some (.int (nI k)), some (.int b), some (.int c), none] [.int (nI 1), .ref 89] σ Q
  refine e_if_ne 18 dX10_left_11 (by decide) (fun _ => ?_) (fun c => absurd c (by decide))
  refine e_iconst (nI 0) dX10_left_18 (by decide) ?_
  refine e_iconst (nI 1) dX10_left_19 (by decide) ?_
  refine e_callV (k := 89) [.int (nI 0), .int (nI 1)] dX10_left_20 cc_X10_bad lk_RX10_148 im_X10_bad se_X10_bad (by decide) (Ms.s 89 rfl) (Ms.n (by decide)) rfl (Nat.le_of_ble_eq_true rfl) (Nat.le_of_ble_eq_true rfl) ?_
  refine t_X10_bad0 Ms hz (by decide) (fK_i ?_)
  show fEv g _ mX10_left 23 [some (.ref 89), some (.int (nI k)), some (.int b), some (.int c), none] [.int (nI 0)] σ Q
  refine e_if_ne 57 dX10_left_23 (by decide) (fun c => absurd c (by decide)) (fun _ => ?_)
  refine e_aload_n dX10_left_26 rfl rfl ?_
  refine e_iload_n dX10_left_27 rfl rfl ?_
  refine e_iconst (nI 0) dX10_left_28 (by decide) ?_
  refine e_iconst (nI 2) dX10_left_29 (by decide) ?_
  refine e_callS [.int b, .int (nI 0), .int (nI 2)] dX10_left_30 cc_X10_in lk_RX10_110 st_X10_in in_RX10 rfl (Nat.le_of_ble_eq_true rfl) (Nat.le_of_ble_eq_true rfl) ?_
  refine t_X10_inF hv (fK_i ?_)
  show fEv g _ mX10_left 33 [some (.ref 89), some (.int (nI k)), some (.int b), some (.int c), none] [.int (nI 0), .ref 89] σ Q
  refine e_if_eq 45 dX10_left_33 (by decide) (fun _ => ?_) (fun c => absurd c (by decide))
  refine e_iconst (nI 1) dX10_left_45 (by decide) ?_
  refine e_goto 50 dX10_left_46 (by decide) ?_
  refine e_iconst (nI 2) dX10_left_50 (by decide) ?_
  refine e_callV (k := 89) [.int (nI 1), .int (nI 2)] dX10_left_51 cc_X10_bad lk_RX10_148 im_X10_bad se_X10_bad (by decide) (Ms.s 89 rfl) (Ms.n (by decide)) rfl (Nat.le_of_ble_eq_true rfl) (Nat.le_of_ble_eq_true rfl) ?_
  refine t_X10_bad1 Ms hz (by decide) (fK_i ?_)
  show fEv g _ mX10_left 54 [some (.ref 89), some (.int (nI k)), some (.int b), some (.int c), none] [.int (nI 1)] (fsI σ 89 0 (nI 2)) Q
  refine e_if_eq 59 dX10_left_54 (by decide) (fun c => absurd c (by decide)) (fun _ => ?_)
  refine e_iconst (nI 0) dX10_left_57 (by decide) ?_
  exact e_ireturn .int dX10_left_58 rfl rfl (h _ (fSm_I (by unfold fRfA; omega)) (Ir.f0 ok (A := fun a => a = 89) (fSm_I rfl) (fun a (q : a = 89) => Or.inl (by omega)) (fun j hj => by simp only [List.mem_cons, List.not_mem_nil, or_false] at hj; rw [fI_I, if_neg (by omega)])) (by rw [fI_I, if_pos ⟨rfl, rfl⟩]))
set_option maxRecDepth 20000 in
theorem t_X10_leftE2 {g : fGP} {d : Nat} {σ : fAH} {Q : fRes → fAH → Prop} {x : fXS} {k : Nat} {b c : Int32}  (Ms : fMs g σ) (ok : fOK x) (Ir : fIr σ x) (hk : k < dT (xD x) 1) (hv : ¬ (nI 0 ≤ b ∧ b ≤ nI 2)) (h : ∀ σ', fSm fRfA σ σ' → fIr σ' x → fI σ' 89 0 = nI 2 → Q (.inl (some (.int (nI 0)))) σ') : fEv g (d + 2) mX10_left 0 (fent [.ref 89, .int (nI k), .int b, .int c] 5) [] σ Q := by
  have S9 : fSm (fun a => a = 89) σ (fsI σ 89 0 (nI 0)) := fSm_I rfl
  show fEv g (d + 2) mX10_left 0 [some (.ref 89), some (.int (nI k)), some (.int b), some (.int c), none] [] σ Q
  refine e_aload_n dX10_left_0 rfl rfl ?_
  refine e_iconst (nI 0) dX10_left_1 (by decide) ?_
  refine e_putI dX10_left_2 fl_RX10_76 (Ms.s 89 rfl) (Ms.n (by decide)) rfl rfl ?_
  exact lp_X10_leftE2 (Ms.sm S9) ok (Ir.f0 ok S9 (fun a (q : a = 89) => Or.inl (by omega)) (fun j hj => by simp only [List.mem_cons, List.not_mem_nil, or_false] at hj; rw [fI_I, if_neg (by omega)])) (by rw [fI_I, if_pos ⟨rfl, rfl⟩]) hk hv (fun σ' Sm' => h σ' ((S9.to (fun a (q : a = 89) => by unfold fRfA; omega)).tr Sm'))
set_option maxRecDepth 20000 in
theorem lp_X10_leftE3 {g : fGP} {d : Nat} {σ : fAH} {Q : fRes → fAH → Prop} {x : fXS} {k w : Nat} {c : Int32}  (Ms : fMs g σ) (ok : fOK x) (Ir : fIr σ x) (hz : fI σ 89 0 = nI 0) (hk : k < dT (xD x) 1) (hw : w ≤ 2) (hv : ¬ (nI 0 ≤ c ∧ c ≤ nI 1)) (h : ∀ σ', fSm fRfA σ σ' → fIr σ' x → fI σ' 89 0 = nI 2 → Q (.inl (some (.int (nI 0)))) σ') : fEv g (d + 2) mX10_left 5 [some (.ref 89), some (.int (nI k)), some (.int (nI w)), some (.int c), none] [] σ Q := by
  obtain ⟨D, ⟨S, T, sd, pn, P, rn, R⟩, B, tp, pl, im, Im⟩ := x
  have hD : fWD D := ok.1
  have hW : fWS D S := ok.2.1.1
  have hC : fWC D S := ok.2.1.2.1
  have hN : fWN S 0 0 := ok.2.1.2.2.1
  have Mr : fMr σ D S sd := Ir.1
  have Mt : fMt σ S T := Ir.2.1
  obtain ⟨t0, t1, t2, t3, t4, t5, t6⟩ := id hD.1
  have np := hW.n hD
  have n5 := hW.2.2.2.2
  have tp6 : tp ≤ 600 := ok.2.2.2.1
  have im3 : im ≤ 3 := ok.2.2.2.2.1
  have pn3 : pn ≤ 30 := ok.2.1.2.2.2.1
  have rn6 : rn ≤ 60 := ok.2.1.2.2.2.2.2.1
  have Rc : fRc σ (S, T, sd, pn, P, rn, R) := Ir.2.2.2.2.1
  have w52 := hW.1
  show fEv g (d + 2) mX10_left 5 [some (.ref 89), some (.int (nI k)), some (.int (nI w)), some (.int c), none] [] σ Q
  refine e_aload_n dX10_left_5 rfl rfl ?_
  refine e_aload_n dX10_left_6 rfl rfl ?_
  refine e_iload_n dX10_left_7 rfl rfl ?_
  refine e_callV (k := 89) [.int (nI k)] dX10_left_8 cc_X10_isSlot lk_RX10_177 im_X10_isSlot se_X10_isSlot (by decide) (Ms.s 89 rfl) (Ms.n (by decide)) rfl (Nat.le_of_ble_eq_true rfl) (Nat.le_of_ble_eq_true rfl) ?_
  refine t_X10_isSlotT Ms Mr hD hk (fK_i ?_)
  show fEv g _ mX10_left 11 [some (.ref 89), some (.int (nI k)), some (.int (nI w)), some (.int c), none] [.int (nI 1), .ref 89] σ Q
  refine e_if_ne 18 dX10_left_11 (by decide) (fun _ => ?_) (fun c => absurd c (by decide))
  refine e_iconst (nI 0) dX10_left_18 (by decide) ?_
  refine e_iconst (nI 1) dX10_left_19 (by decide) ?_
  refine e_callV (k := 89) [.int (nI 0), .int (nI 1)] dX10_left_20 cc_X10_bad lk_RX10_148 im_X10_bad se_X10_bad (by decide) (Ms.s 89 rfl) (Ms.n (by decide)) rfl (Nat.le_of_ble_eq_true rfl) (Nat.le_of_ble_eq_true rfl) ?_
  refine t_X10_bad0 Ms hz (by decide) (fK_i ?_)
  show fEv g _ mX10_left 23 [some (.ref 89), some (.int (nI k)), some (.int (nI w)), some (.int c), none] [.int (nI 0)] σ Q
  refine e_if_ne 57 dX10_left_23 (by decide) (fun c => absurd c (by decide)) (fun _ => ?_)
  refine e_aload_n dX10_left_26 rfl rfl ?_
  refine e_iload_n dX10_left_27 rfl rfl ?_
  refine e_iconst (nI 0) dX10_left_28 (by decide) ?_
  refine e_iconst (nI 2) dX10_left_29 (by decide) ?_
  refine e_callS [.int (nI w), .int (nI 0), .int (nI 2)] dX10_left_30 cc_X10_in lk_RX10_110 st_X10_in in_RX10 rfl (Nat.le_of_ble_eq_true rfl) (Nat.le_of_ble_eq_true rfl) ?_
  refine t_X10_inT ⟨(nI_le' (by omega) (by omega)).mpr (by omega), (nI_le' (by omega) (by omega)).mpr (by omega)⟩ (fK_i ?_)
  show fEv g _ mX10_left 33 [some (.ref 89), some (.int (nI k)), some (.int (nI w)), some (.int c), none] [.int (nI 1), .ref 89] σ Q
  refine e_if_eq 45 dX10_left_33 (by decide) (fun c => absurd c (by decide)) (fun _ => ?_)
  refine e_iload_n dX10_left_36 rfl rfl ?_
  refine e_iconst (nI 0) dX10_left_37 (by decide) ?_
  refine e_iconst (nI 1) dX10_left_38 (by decide) ?_
  refine e_callS [.int c, .int (nI 0), .int (nI 1)] dX10_left_39 cc_X10_in lk_RX10_110 st_X10_in in_RX10 rfl (Nat.le_of_ble_eq_true rfl) (Nat.le_of_ble_eq_true rfl) ?_
  refine t_X10_inF hv (fK_i ?_)
  show fEv g _ mX10_left 42 [some (.ref 89), some (.int (nI k)), some (.int (nI w)), some (.int c), none] [.int (nI 0), .ref 89] σ Q
  refine e_if_ne 49 dX10_left_42 (by decide) (fun c => absurd c (by decide)) (fun _ => ?_)
  refine e_iconst (nI 1) dX10_left_45 (by decide) ?_
  refine e_goto 50 dX10_left_46 (by decide) ?_
  refine e_iconst (nI 2) dX10_left_50 (by decide) ?_
  refine e_callV (k := 89) [.int (nI 1), .int (nI 2)] dX10_left_51 cc_X10_bad lk_RX10_148 im_X10_bad se_X10_bad (by decide) (Ms.s 89 rfl) (Ms.n (by decide)) rfl (Nat.le_of_ble_eq_true rfl) (Nat.le_of_ble_eq_true rfl) ?_
  refine t_X10_bad1 Ms hz (by decide) (fK_i ?_)
  show fEv g _ mX10_left 54 [some (.ref 89), some (.int (nI k)), some (.int (nI w)), some (.int c), none] [.int (nI 1)] (fsI σ 89 0 (nI 2)) Q
  refine e_if_eq 59 dX10_left_54 (by decide) (fun c => absurd c (by decide)) (fun _ => ?_)
  refine e_iconst (nI 0) dX10_left_57 (by decide) ?_
  exact e_ireturn .int dX10_left_58 rfl rfl (h _ (fSm_I (by unfold fRfA; omega)) (Ir.f0 ok (A := fun a => a = 89) (fSm_I rfl) (fun a (q : a = 89) => Or.inl (by omega)) (fun j hj => by simp only [List.mem_cons, List.not_mem_nil, or_false] at hj; rw [fI_I, if_neg (by omega)])) (by rw [fI_I, if_pos ⟨rfl, rfl⟩]))
set_option maxRecDepth 20000 in
theorem t_X10_leftE3 {g : fGP} {d : Nat} {σ : fAH} {Q : fRes → fAH → Prop} {x : fXS} {k w : Nat} {c : Int32}  (Ms : fMs g σ) (ok : fOK x) (Ir : fIr σ x) (hk : k < dT (xD x) 1) (hw : w ≤ 2) (hv : ¬ (nI 0 ≤ c ∧ c ≤ nI 1)) (h : ∀ σ', fSm fRfA σ σ' → fIr σ' x → fI σ' 89 0 = nI 2 → Q (.inl (some (.int (nI 0)))) σ') : fEv g (d + 2) mX10_left 0 (fent [.ref 89, .int (nI k), .int (nI w), .int c] 5) [] σ Q := by
  have S9 : fSm (fun a => a = 89) σ (fsI σ 89 0 (nI 0)) := fSm_I rfl
  show fEv g (d + 2) mX10_left 0 [some (.ref 89), some (.int (nI k)), some (.int (nI w)), some (.int c), none] [] σ Q
  refine e_aload_n dX10_left_0 rfl rfl ?_
  refine e_iconst (nI 0) dX10_left_1 (by decide) ?_
  refine e_putI dX10_left_2 fl_RX10_76 (Ms.s 89 rfl) (Ms.n (by decide)) rfl rfl ?_
  exact lp_X10_leftE3 (Ms.sm S9) ok (Ir.f0 ok S9 (fun a (q : a = 89) => Or.inl (by omega)) (fun j hj => by simp only [List.mem_cons, List.not_mem_nil, or_false] at hj; rw [fI_I, if_neg (by omega)])) (by rw [fI_I, if_pos ⟨rfl, rfl⟩]) hk hw hv (fun σ' Sm' => h σ' ((S9.to (fun a (q : a = 89) => by unfold fRfA; omega)).tr Sm'))
set_option maxRecDepth 20000 in
theorem lp_X10_fits {g : fGP} {d : Nat} {σ : fAH} {Q : fRes → fAH → Prop} {x : fXS} {k w pt : Nat}  (Ms : fMs g σ) (ok : fOK x) (Ir : fIr σ x) (hz : fI σ 89 0 = nI 0) (hk : k < dT (xD x) 1) (hw : w ≤ 2) (hp : pt ≤ 1) (h : ∀ σ', fSm fRfA σ σ' → fIr σ' x → fI σ' 89 0 = nI 0 → Q (.inl (some (.int (vFit (xD x) (iS (xI x)) k w pt)))) σ') : fEv g (d + 4) mX10_fits 5 [some (.ref 89), some (.int (nI k)), some (.int (nI w)), some (.int (nI pt)), none] [] σ Q := by
  obtain ⟨D, ⟨S, T, sd, pn, P, rn, R⟩, B, tp, pl, im, Im⟩ := x
  have hD : fWD D := ok.1
  have hW : fWS D S := ok.2.1.1
  have hC : fWC D S := ok.2.1.2.1
  have hN : fWN S 0 0 := ok.2.1.2.2.1
  have Mr : fMr σ D S sd := Ir.1
  have Mt : fMt σ S T := Ir.2.1
  obtain ⟨t0, t1, t2, t3, t4, t5, t6⟩ := id hD.1
  have np := hW.n hD
  have n5 := hW.2.2.2.2
  have tp6 : tp ≤ 600 := ok.2.2.2.1
  have im3 : im ≤ 3 := ok.2.2.2.2.1
  have pn3 : pn ≤ 30 := ok.2.1.2.2.2.1
  have rn6 : rn ≤ 60 := ok.2.1.2.2.2.2.2.1
  have Rc : fRc σ (S, T, sd, pn, P, rn, R) := Ir.2.2.2.2.1
  have w52 := hW.1
  have hk : k < dT D 1 := hk
  show fEv g (d + 4) mX10_fits 5 [some (.ref 89), some (.int (nI k)), some (.int (nI w)), some (.int (nI pt)), none] [] σ Q
  refine e_aload_n dX10_fits_5 rfl rfl ?_
  refine e_aload_n dX10_fits_6 rfl rfl ?_
  refine e_iload_n dX10_fits_7 rfl rfl ?_
  refine e_callV (k := 89) [.int (nI k)] dX10_fits_8 cc_X10_isSlot lk_RX10_177 im_X10_isSlot se_X10_isSlot (by decide) (Ms.s 89 rfl) (Ms.n (by decide)) rfl (Nat.le_of_ble_eq_true rfl) (Nat.le_of_ble_eq_true rfl) ?_
  refine t_X10_isSlotT Ms Mr hD hk (fK_i ?_)
  show fEv g _ mX10_fits 11 [some (.ref 89), some (.int (nI k)), some (.int (nI w)), some (.int (nI pt)), none] [.int (nI 1), .ref 89] σ Q
  refine e_if_ne 18 dX10_fits_11 (by decide) (fun _ => ?_) (fun c => absurd c (by decide))
  refine e_iconst (nI 0) dX10_fits_18 (by decide) ?_
  refine e_iconst (nI 1) dX10_fits_19 (by decide) ?_
  refine e_callV (k := 89) [.int (nI 0), .int (nI 1)] dX10_fits_20 cc_X10_bad lk_RX10_148 im_X10_bad se_X10_bad (by decide) (Ms.s 89 rfl) (Ms.n (by decide)) rfl (Nat.le_of_ble_eq_true rfl) (Nat.le_of_ble_eq_true rfl) ?_
  refine t_X10_bad0 Ms hz (by decide) (fK_i ?_)
  show fEv g _ mX10_fits 23 [some (.ref 89), some (.int (nI k)), some (.int (nI w)), some (.int (nI pt)), none] [.int (nI 0)] σ Q
  refine e_if_ne 57 dX10_fits_23 (by decide) (fun c => absurd c (by decide)) (fun _ => ?_)
  refine e_aload_n dX10_fits_26 rfl rfl ?_
  refine e_iload_n dX10_fits_27 rfl rfl ?_
  refine e_iconst (nI 0) dX10_fits_28 (by decide) ?_
  refine e_iconst (nI 2) dX10_fits_29 (by decide) ?_
  refine e_callS [.int (nI w), .int (nI 0), .int (nI 2)] dX10_fits_30 cc_X10_in lk_RX10_110 st_X10_in in_RX10 rfl (Nat.le_of_ble_eq_true rfl) (Nat.le_of_ble_eq_true rfl) ?_
  refine t_X10_inT ⟨(nI_le' (by omega) (by omega)).mpr (by omega), (nI_le' (by omega) (by omega)).mpr (by omega)⟩ (fK_i ?_)
  show fEv g _ mX10_fits 33 [some (.ref 89), some (.int (nI k)), some (.int (nI w)), some (.int (nI pt)), none] [.int (nI 1), .ref 89] σ Q
  refine e_if_eq 45 dX10_fits_33 (by decide) (fun c => absurd c (by decide)) (fun _ => ?_)
  refine e_iload_n dX10_fits_36 rfl rfl ?_
  refine e_iconst (nI 0) dX10_fits_37 (by decide) ?_
  refine e_iconst (nI 1) dX10_fits_38 (by decide) ?_
  refine e_callS [.int (nI pt), .int (nI 0), .int (nI 1)] dX10_fits_39 cc_X10_in lk_RX10_110 st_X10_in in_RX10 rfl (Nat.le_of_ble_eq_true rfl) (Nat.le_of_ble_eq_true rfl) ?_
  refine t_X10_inT ⟨(nI_le' (by omega) (by omega)).mpr (by omega), (nI_le' (by omega) (by omega)).mpr (by omega)⟩ (fK_i ?_)
  show fEv g _ mX10_fits 42 [some (.ref 89), some (.int (nI k)), some (.int (nI w)), some (.int (nI pt)), none] [.int (nI 1), .ref 89] σ Q
  refine e_if_ne 49 dX10_fits_42 (by decide) (fun _ => ?_) (fun c => absurd c (by decide))
  refine e_iconst (nI 0) dX10_fits_49 (by decide) ?_
  refine e_iconst (nI 2) dX10_fits_50 (by decide) ?_
  refine e_callV (k := 89) [.int (nI 0), .int (nI 2)] dX10_fits_51 cc_X10_bad lk_RX10_148 im_X10_bad se_X10_bad (by decide) (Ms.s 89 rfl) (Ms.n (by decide)) rfl (Nat.le_of_ble_eq_true rfl) (Nat.le_of_ble_eq_true rfl) ?_
  refine t_X10_bad0 Ms hz (by decide) (fK_i ?_)
  show fEv g _ mX10_fits 54 [some (.ref 89), some (.int (nI k)), some (.int (nI w)), some (.int (nI pt)), none] [.int (nI 0)] σ Q
  refine e_if_eq 59 dX10_fits_54 (by decide) (fun _ => ?_) (fun c => absurd c (by decide))
  refine e_aload_n dX10_fits_59 rfl rfl ?_
  refine e_iload_n dX10_fits_60 rfl rfl ?_
  refine e_iload_n dX10_fits_61 rfl rfl ?_
  refine e_iload_n dX10_fits_62 rfl rfl ?_
  refine e_iconst (nI 0) dX10_fits_63 (by decide) ?_
  refine e_callV (k := 89) [.int (nI k), .int (nI w), .int (nI pt), .int (nI 0)] dX10_fits_64 cc_X10_sideOf lk_RX10_243 im_X10_sideOf se_X10_sideOf (by decide) (Ms.s 89 rfl) (Ms.n (by decide)) rfl (Nat.le_of_ble_eq_true rfl) (Nat.le_of_ble_eq_true rfl) ?_
  refine t_X10_sideOf0 Ms Mr hD hW hk hw hp (fK_i ?_)
  show fEv g _ mX10_fits 67 [some (.ref 89), some (.int (nI k)), some (.int (nI w)), some (.int (nI pt)), none] [.int (if mcs D S k (dS D k 2 + w - 1) then nI (msd D S k ((mpc D S k).getD 0) (dS D k 2 + w - 1) pt 0) else -1)] σ Q
  unfold vFit at h
  cases hc9 : mcs D S k (dS D k 2 + w - 1) with
  | false =>
    rw [hc9] at h
    refine e_int (-1) rfl ?_
    refine e_istore (L1 := [some (.ref 89), some (.int (nI k)), some (.int (nI w)), some (.int (nI pt)), some (.int ((-1)))]) dX10_fits_67 (by decide) rfl ?_
    refine e_iload dX10_fits_69 rfl ?_
    refine e_iconst (-1) dX10_fits_71 (by decide) ?_
    refine e_icmp_ne 79 dX10_fits_72 (by decide) (fun c => absurd c (by decide)) (fun _ => ?_)
    refine e_iconst (-1) dX10_fits_75 (by decide) ?_
    refine e_goto 93 dX10_fits_76 (by decide) ?_
    exact e_ireturn .int dX10_fits_93 rfl rfl (h σ fSm.rfl' Ir hz)
  | true =>
    rw [hc9] at h
    obtain ⟨p, hc1, hc2, hc3, hc4⟩ := mcs_p hc9
    have mb := msd_b hD hW hk hc4 hc3 hp
    rw [hc2] at h ⊢
    refine e_int (nI (msd D S k p (dS D k 2 + w - 1) pt 0)) rfl ?_
    refine e_istore (L1 := [some (.ref 89), some (.int (nI k)), some (.int (nI w)), some (.int (nI pt)), some (.int (nI (msd D S k p (dS D k 2 + w - 1) pt 0)))]) dX10_fits_67 (by decide) rfl ?_
    refine e_iload dX10_fits_69 rfl ?_
    refine e_iconst (-1) dX10_fits_71 (by decide) ?_
    refine e_icmp_ne 79 dX10_fits_72 (by decide) (fun _ => ?_) (fun c => absurd c (nI_m1 (by omega)))
    refine e_aload_n dX10_fits_79 rfl rfl ?_
    refine e_iload dX10_fits_80 rfl ?_
    refine e_aload_n dX10_fits_82 rfl rfl ?_
    refine e_iload_n dX10_fits_83 rfl rfl ?_
    refine e_iload_n dX10_fits_84 rfl rfl ?_
    refine e_iload_n dX10_fits_85 rfl rfl ?_
    refine e_iconst (nI 1) dX10_fits_86 (by decide) ?_
    refine e_callV (k := 89) [.int (nI k), .int (nI w), .int (nI pt), .int (nI 1)] dX10_fits_87 cc_X10_sideOf lk_RX10_243 im_X10_sideOf se_X10_sideOf (by decide) (Ms.s 89 rfl) (Ms.n (by decide)) rfl (Nat.le_of_ble_eq_true rfl) (Nat.le_of_ble_eq_true rfl) ?_
    refine t_X10_sideOf1 Ms Mr hD hW hk hw hp (fK_i ?_)
    show fEv g _ mX10_fits 90 [some (.ref 89), some (.int (nI k)), some (.int (nI w)), some (.int (nI pt)), some (.int (nI (msd D S k p (dS D k 2 + w - 1) pt 0)))] [.int (if mcs D S k (dS D k 2 + w - 1) then nI (msd D S k ((mpc D S k).getD 0) (dS D k 2 + w - 1) pt 1) else -1), .int (nI (msd D S k p (dS D k 2 + w - 1) pt 0)), .ref 89] σ Q
    refine e_int (nI (msd D S k p (dS D k 2 + w - 1) pt 1)) (by rw [hc9, hc2]; rfl) ?_
    refine e_callV (k := 89) [.int (nI (msd D S k p (dS D k 2 + w - 1) pt 0)), .int (nI (msd D S k p (dS D k 2 + w - 1) pt 1))] dX10_fits_90 cc_X10_orderOf lk_RX10_240 im_X10_orderOf se_X10_orderOf (by decide) (Ms.s 89 rfl) (Ms.n (by decide)) rfl (Nat.le_of_ble_eq_true rfl) (Nat.le_of_ble_eq_true rfl) ?_
    refine t_X10_orderOf Ms Mr hD hW (by omega) (by omega) (fK_i ?_)
    show fEv g _ mX10_fits 93 [some (.ref 89), some (.int (nI k)), some (.int (nI w)), some (.int (nI pt)), some (.int (nI (msd D S k p (dS D k 2 + w - 1) pt 0)))] [.int (mo (mof D (msd D S k p (dS D k 2 + w - 1) pt 0) (msd D S k p (dS D k 2 + w - 1) pt 1)))] σ Q
    exact e_ireturn .int dX10_fits_93 rfl rfl (h σ fSm.rfl' Ir hz)
set_option maxRecDepth 20000 in
theorem t_X10_fits {g : fGP} {d : Nat} {σ : fAH} {Q : fRes → fAH → Prop} {x : fXS} {k w pt : Nat}  (Ms : fMs g σ) (ok : fOK x) (Ir : fIr σ x) (hk : k < dT (xD x) 1) (hw : w ≤ 2) (hp : pt ≤ 1) (h : ∀ σ', fSm fRfA σ σ' → fIr σ' x → fI σ' 89 0 = nI 0 → Q (.inl (some (.int (vFit (xD x) (iS (xI x)) k w pt)))) σ') : fEv g (d + 4) mX10_fits 0 (fent [.ref 89, .int (nI k), .int (nI w), .int (nI pt)] 5) [] σ Q := by
  have S9 : fSm (fun a => a = 89) σ (fsI σ 89 0 (nI 0)) := fSm_I rfl
  show fEv g (d + 4) mX10_fits 0 [some (.ref 89), some (.int (nI k)), some (.int (nI w)), some (.int (nI pt)), none] [] σ Q
  refine e_aload_n dX10_fits_0 rfl rfl ?_
  refine e_iconst (nI 0) dX10_fits_1 (by decide) ?_
  refine e_putI dX10_fits_2 fl_RX10_76 (Ms.s 89 rfl) (Ms.n (by decide)) rfl rfl ?_
  exact lp_X10_fits (Ms.sm S9) ok (Ir.f0 ok S9 (fun a (q : a = 89) => Or.inl (by omega)) (fun j hj => by simp only [List.mem_cons, List.not_mem_nil, or_false] at hj; rw [fI_I, if_neg (by omega)])) (by rw [fI_I, if_pos ⟨rfl, rfl⟩]) hk hw hp (fun σ' Sm' => h σ' ((S9.to (fun a (q : a = 89) => by unfold fRfA; omega)).tr Sm'))
set_option maxRecDepth 20000 in
theorem lp_X10_fitsE1 {g : fGP} {d : Nat} {σ : fAH} {Q : fRes → fAH → Prop} {x : fXS} {a b c : Int32}  (Ms : fMs g σ) (ok : fOK x) (Ir : fIr σ x) (hz : fI σ 89 0 = nI 0) (hv : ¬ (nI 0 ≤ a ∧ a < nI (dT (xD x) 1))) (h : ∀ σ', fSm fRfA σ σ' → fIr σ' x → fI σ' 89 0 = nI 1 → Q (.inl (some (.int (nI 0)))) σ') : fEv g (d + 2) mX10_fits 5 [some (.ref 89), some (.int a), some (.int b), some (.int c), none] [] σ Q := by
  obtain ⟨D, ⟨S, T, sd, pn, P, rn, R⟩, B, tp, pl, im, Im⟩ := x
  have hD : fWD D := ok.1
  have hW : fWS D S := ok.2.1.1
  have hC : fWC D S := ok.2.1.2.1
  have hN : fWN S 0 0 := ok.2.1.2.2.1
  have Mr : fMr σ D S sd := Ir.1
  have Mt : fMt σ S T := Ir.2.1
  obtain ⟨t0, t1, t2, t3, t4, t5, t6⟩ := id hD.1
  have np := hW.n hD
  have n5 := hW.2.2.2.2
  have tp6 : tp ≤ 600 := ok.2.2.2.1
  have im3 : im ≤ 3 := ok.2.2.2.2.1
  have pn3 : pn ≤ 30 := ok.2.1.2.2.2.1
  have rn6 : rn ≤ 60 := ok.2.1.2.2.2.2.2.1
  have Rc : fRc σ (S, T, sd, pn, P, rn, R) := Ir.2.2.2.2.1
  have w52 := hW.1
  show fEv g (d + 2) mX10_fits 5 [some (.ref 89), some (.int a), some (.int b), some (.int c), none] [] σ Q
  refine e_aload_n dX10_fits_5 rfl rfl ?_
  refine e_aload_n dX10_fits_6 rfl rfl ?_
  refine e_iload_n dX10_fits_7 rfl rfl ?_
  refine e_callV (k := 89) [.int a] dX10_fits_8 cc_X10_isSlot lk_RX10_177 im_X10_isSlot se_X10_isSlot (by decide) (Ms.s 89 rfl) (Ms.n (by decide)) rfl (Nat.le_of_ble_eq_true rfl) (Nat.le_of_ble_eq_true rfl) ?_
  refine t_X10_isSlotF Ms Mr hD hv (fK_i ?_)
  show fEv g _ mX10_fits 11 [some (.ref 89), some (.int a), some (.int b), some (.int c), none] [.int (nI 0), .ref 89] σ Q
  refine e_if_ne 18 dX10_fits_11 (by decide) (fun c => absurd c (by decide)) (fun _ => ?_)
  refine e_iconst (nI 1) dX10_fits_14 (by decide) ?_
  refine e_goto 19 dX10_fits_15 (by decide) ?_
  refine e_iconst (nI 1) dX10_fits_19 (by decide) ?_
  refine e_callV (k := 89) [.int (nI 1), .int (nI 1)] dX10_fits_20 cc_X10_bad lk_RX10_148 im_X10_bad se_X10_bad (by decide) (Ms.s 89 rfl) (Ms.n (by decide)) rfl (Nat.le_of_ble_eq_true rfl) (Nat.le_of_ble_eq_true rfl) ?_
  refine t_X10_bad1 Ms hz (by decide) (fK_i ?_)
  show fEv g _ mX10_fits 23 [some (.ref 89), some (.int a), some (.int b), some (.int c), none] [.int (nI 1)] (fsI σ 89 0 (nI 1)) Q
  refine e_if_ne 57 dX10_fits_23 (by decide) (fun _ => ?_) (fun c => absurd c (by decide))
  refine e_iconst (nI 0) dX10_fits_57 (by decide) ?_
  exact e_ireturn .int dX10_fits_58 rfl rfl (h _ (fSm_I (by unfold fRfA; omega)) (Ir.f0 ok (A := fun a => a = 89) (fSm_I rfl) (fun a (q : a = 89) => Or.inl (by omega)) (fun j hj => by simp only [List.mem_cons, List.not_mem_nil, or_false] at hj; rw [fI_I, if_neg (by omega)])) (by rw [fI_I, if_pos ⟨rfl, rfl⟩]))
set_option maxRecDepth 20000 in
theorem t_X10_fitsE1 {g : fGP} {d : Nat} {σ : fAH} {Q : fRes → fAH → Prop} {x : fXS} {a b c : Int32}  (Ms : fMs g σ) (ok : fOK x) (Ir : fIr σ x) (hv : ¬ (nI 0 ≤ a ∧ a < nI (dT (xD x) 1))) (h : ∀ σ', fSm fRfA σ σ' → fIr σ' x → fI σ' 89 0 = nI 1 → Q (.inl (some (.int (nI 0)))) σ') : fEv g (d + 2) mX10_fits 0 (fent [.ref 89, .int a, .int b, .int c] 5) [] σ Q := by
  have S9 : fSm (fun a => a = 89) σ (fsI σ 89 0 (nI 0)) := fSm_I rfl
  show fEv g (d + 2) mX10_fits 0 [some (.ref 89), some (.int a), some (.int b), some (.int c), none] [] σ Q
  refine e_aload_n dX10_fits_0 rfl rfl ?_
  refine e_iconst (nI 0) dX10_fits_1 (by decide) ?_
  refine e_putI dX10_fits_2 fl_RX10_76 (Ms.s 89 rfl) (Ms.n (by decide)) rfl rfl ?_
  exact lp_X10_fitsE1 (Ms.sm S9) ok (Ir.f0 ok S9 (fun a (q : a = 89) => Or.inl (by omega)) (fun j hj => by simp only [List.mem_cons, List.not_mem_nil, or_false] at hj; rw [fI_I, if_neg (by omega)])) (by rw [fI_I, if_pos ⟨rfl, rfl⟩]) hv (fun σ' Sm' => h σ' ((S9.to (fun a (q : a = 89) => by unfold fRfA; omega)).tr Sm'))
set_option maxRecDepth 20000 in
theorem lp_X10_fitsE2 {g : fGP} {d : Nat} {σ : fAH} {Q : fRes → fAH → Prop} {x : fXS} {k : Nat} {b c : Int32}  (Ms : fMs g σ) (ok : fOK x) (Ir : fIr σ x) (hz : fI σ 89 0 = nI 0) (hk : k < dT (xD x) 1) (hv : ¬ (nI 0 ≤ b ∧ b ≤ nI 2)) (h : ∀ σ', fSm fRfA σ σ' → fIr σ' x → fI σ' 89 0 = nI 2 → Q (.inl (some (.int (nI 0)))) σ') : fEv g (d + 2) mX10_fits 5 [some (.ref 89), some (.int (nI k)), some (.int b), some (.int c), none] [] σ Q := by
  obtain ⟨D, ⟨S, T, sd, pn, P, rn, R⟩, B, tp, pl, im, Im⟩ := x
  have hD : fWD D := ok.1
  have hW : fWS D S := ok.2.1.1
  have hC : fWC D S := ok.2.1.2.1
  have hN : fWN S 0 0 := ok.2.1.2.2.1
  have Mr : fMr σ D S sd := Ir.1
  have Mt : fMt σ S T := Ir.2.1
  obtain ⟨t0, t1, t2, t3, t4, t5, t6⟩ := id hD.1
  have np := hW.n hD
  have n5 := hW.2.2.2.2
  have tp6 : tp ≤ 600 := ok.2.2.2.1
  have im3 : im ≤ 3 := ok.2.2.2.2.1
  have pn3 : pn ≤ 30 := ok.2.1.2.2.2.1
  have rn6 : rn ≤ 60 := ok.2.1.2.2.2.2.2.1
  have Rc : fRc σ (S, T, sd, pn, P, rn, R) := Ir.2.2.2.2.1
  have w52 := hW.1
  show fEv g (d + 2) mX10_fits 5 [some (.ref 89), some (.int (nI k)), some (.int b), some (.int c), none] [] σ Q
  refine e_aload_n dX10_fits_5 rfl rfl ?_
  refine e_aload_n dX10_fits_6 rfl rfl ?_
  refine e_iload_n dX10_fits_7 rfl rfl ?_
  refine e_callV (k := 89) [.int (nI k)] dX10_fits_8 cc_X10_isSlot lk_RX10_177 im_X10_isSlot se_X10_isSlot (by decide) (Ms.s 89 rfl) (Ms.n (by decide)) rfl (Nat.le_of_ble_eq_true rfl) (Nat.le_of_ble_eq_true rfl) ?_
  refine t_X10_isSlotT Ms Mr hD hk (fK_i ?_)
  show fEv g _ mX10_fits 11 [some (.ref 89), some (.int (nI k)), some (.int b), some (.int c), none] [.int (nI 1), .ref 89] σ Q
  refine e_if_ne 18 dX10_fits_11 (by decide) (fun _ => ?_) (fun c => absurd c (by decide))
  refine e_iconst (nI 0) dX10_fits_18 (by decide) ?_
  refine e_iconst (nI 1) dX10_fits_19 (by decide) ?_
  refine e_callV (k := 89) [.int (nI 0), .int (nI 1)] dX10_fits_20 cc_X10_bad lk_RX10_148 im_X10_bad se_X10_bad (by decide) (Ms.s 89 rfl) (Ms.n (by decide)) rfl (Nat.le_of_ble_eq_true rfl) (Nat.le_of_ble_eq_true rfl) ?_
  refine t_X10_bad0 Ms hz (by decide) (fK_i ?_)
  show fEv g _ mX10_fits 23 [some (.ref 89), some (.int (nI k)), some (.int b), some (.int c), none] [.int (nI 0)] σ Q
  refine e_if_ne 57 dX10_fits_23 (by decide) (fun c => absurd c (by decide)) (fun _ => ?_)
  refine e_aload_n dX10_fits_26 rfl rfl ?_
  refine e_iload_n dX10_fits_27 rfl rfl ?_
  refine e_iconst (nI 0) dX10_fits_28 (by decide) ?_
  refine e_iconst (nI 2) dX10_fits_29 (by decide) ?_
  refine e_callS [.int b, .int (nI 0), .int (nI 2)] dX10_fits_30 cc_X10_in lk_RX10_110 st_X10_in in_RX10 rfl (Nat.le_of_ble_eq_true rfl) (Nat.le_of_ble_eq_true rfl) ?_
  refine t_X10_inF hv (fK_i ?_)
  show fEv g _ mX10_fits 33 [some (.ref 89), some (.int (nI k)), some (.int b), some (.int c), none] [.int (nI 0), .ref 89] σ Q
  refine e_if_eq 45 dX10_fits_33 (by decide) (fun _ => ?_) (fun c => absurd c (by decide))
  refine e_iconst (nI 1) dX10_fits_45 (by decide) ?_
  refine e_goto 50 dX10_fits_46 (by decide) ?_
  refine e_iconst (nI 2) dX10_fits_50 (by decide) ?_
  refine e_callV (k := 89) [.int (nI 1), .int (nI 2)] dX10_fits_51 cc_X10_bad lk_RX10_148 im_X10_bad se_X10_bad (by decide) (Ms.s 89 rfl) (Ms.n (by decide)) rfl (Nat.le_of_ble_eq_true rfl) (Nat.le_of_ble_eq_true rfl) ?_
  refine t_X10_bad1 Ms hz (by decide) (fK_i ?_)
  show fEv g _ mX10_fits 54 [some (.ref 89), some (.int (nI k)), some (.int b), some (.int c), none] [.int (nI 1)] (fsI σ 89 0 (nI 2)) Q
  refine e_if_eq 59 dX10_fits_54 (by decide) (fun c => absurd c (by decide)) (fun _ => ?_)
  refine e_iconst (nI 0) dX10_fits_57 (by decide) ?_
  exact e_ireturn .int dX10_fits_58 rfl rfl (h _ (fSm_I (by unfold fRfA; omega)) (Ir.f0 ok (A := fun a => a = 89) (fSm_I rfl) (fun a (q : a = 89) => Or.inl (by omega)) (fun j hj => by simp only [List.mem_cons, List.not_mem_nil, or_false] at hj; rw [fI_I, if_neg (by omega)])) (by rw [fI_I, if_pos ⟨rfl, rfl⟩]))
set_option maxRecDepth 20000 in
theorem t_X10_fitsE2 {g : fGP} {d : Nat} {σ : fAH} {Q : fRes → fAH → Prop} {x : fXS} {k : Nat} {b c : Int32}  (Ms : fMs g σ) (ok : fOK x) (Ir : fIr σ x) (hk : k < dT (xD x) 1) (hv : ¬ (nI 0 ≤ b ∧ b ≤ nI 2)) (h : ∀ σ', fSm fRfA σ σ' → fIr σ' x → fI σ' 89 0 = nI 2 → Q (.inl (some (.int (nI 0)))) σ') : fEv g (d + 2) mX10_fits 0 (fent [.ref 89, .int (nI k), .int b, .int c] 5) [] σ Q := by
  have S9 : fSm (fun a => a = 89) σ (fsI σ 89 0 (nI 0)) := fSm_I rfl
  show fEv g (d + 2) mX10_fits 0 [some (.ref 89), some (.int (nI k)), some (.int b), some (.int c), none] [] σ Q
  refine e_aload_n dX10_fits_0 rfl rfl ?_
  refine e_iconst (nI 0) dX10_fits_1 (by decide) ?_
  refine e_putI dX10_fits_2 fl_RX10_76 (Ms.s 89 rfl) (Ms.n (by decide)) rfl rfl ?_
  exact lp_X10_fitsE2 (Ms.sm S9) ok (Ir.f0 ok S9 (fun a (q : a = 89) => Or.inl (by omega)) (fun j hj => by simp only [List.mem_cons, List.not_mem_nil, or_false] at hj; rw [fI_I, if_neg (by omega)])) (by rw [fI_I, if_pos ⟨rfl, rfl⟩]) hk hv (fun σ' Sm' => h σ' ((S9.to (fun a (q : a = 89) => by unfold fRfA; omega)).tr Sm'))
set_option maxRecDepth 20000 in
theorem lp_X10_fitsE3 {g : fGP} {d : Nat} {σ : fAH} {Q : fRes → fAH → Prop} {x : fXS} {k w : Nat} {c : Int32}  (Ms : fMs g σ) (ok : fOK x) (Ir : fIr σ x) (hz : fI σ 89 0 = nI 0) (hk : k < dT (xD x) 1) (hw : w ≤ 2) (hv : ¬ (nI 0 ≤ c ∧ c ≤ nI 1)) (h : ∀ σ', fSm fRfA σ σ' → fIr σ' x → fI σ' 89 0 = nI 2 → Q (.inl (some (.int (nI 0)))) σ') : fEv g (d + 2) mX10_fits 5 [some (.ref 89), some (.int (nI k)), some (.int (nI w)), some (.int c), none] [] σ Q := by
  obtain ⟨D, ⟨S, T, sd, pn, P, rn, R⟩, B, tp, pl, im, Im⟩ := x
  have hD : fWD D := ok.1
  have hW : fWS D S := ok.2.1.1
  have hC : fWC D S := ok.2.1.2.1
  have hN : fWN S 0 0 := ok.2.1.2.2.1
  have Mr : fMr σ D S sd := Ir.1
  have Mt : fMt σ S T := Ir.2.1
  obtain ⟨t0, t1, t2, t3, t4, t5, t6⟩ := id hD.1
  have np := hW.n hD
  have n5 := hW.2.2.2.2
  have tp6 : tp ≤ 600 := ok.2.2.2.1
  have im3 : im ≤ 3 := ok.2.2.2.2.1
  have pn3 : pn ≤ 30 := ok.2.1.2.2.2.1
  have rn6 : rn ≤ 60 := ok.2.1.2.2.2.2.2.1
  have Rc : fRc σ (S, T, sd, pn, P, rn, R) := Ir.2.2.2.2.1
  have w52 := hW.1
  show fEv g (d + 2) mX10_fits 5 [some (.ref 89), some (.int (nI k)), some (.int (nI w)), some (.int c), none] [] σ Q
  refine e_aload_n dX10_fits_5 rfl rfl ?_
  refine e_aload_n dX10_fits_6 rfl rfl ?_
  refine e_iload_n dX10_fits_7 rfl rfl ?_
  refine e_callV (k := 89) [.int (nI k)] dX10_fits_8 cc_X10_isSlot lk_RX10_177 im_X10_isSlot se_X10_isSlot (by decide) (Ms.s 89 rfl) (Ms.n (by decide)) rfl (Nat.le_of_ble_eq_true rfl) (Nat.le_of_ble_eq_true rfl) ?_
  refine t_X10_isSlotT Ms Mr hD hk (fK_i ?_)
  show fEv g _ mX10_fits 11 [some (.ref 89), some (.int (nI k)), some (.int (nI w)), some (.int c), none] [.int (nI 1), .ref 89] σ Q
  refine e_if_ne 18 dX10_fits_11 (by decide) (fun _ => ?_) (fun c => absurd c (by decide))
  refine e_iconst (nI 0) dX10_fits_18 (by decide) ?_
  refine e_iconst (nI 1) dX10_fits_19 (by decide) ?_
  refine e_callV (k := 89) [.int (nI 0), .int (nI 1)] dX10_fits_20 cc_X10_bad lk_RX10_148 im_X10_bad se_X10_bad (by decide) (Ms.s 89 rfl) (Ms.n (by decide)) rfl (Nat.le_of_ble_eq_true rfl) (Nat.le_of_ble_eq_true rfl) ?_
  refine t_X10_bad0 Ms hz (by decide) (fK_i ?_)
  show fEv g _ mX10_fits 23 [some (.ref 89), some (.int (nI k)), some (.int (nI w)), some (.int c), none] [.int (nI 0)] σ Q
  refine e_if_ne 57 dX10_fits_23 (by decide) (fun c => absurd c (by decide)) (fun _ => ?_)
  refine e_aload_n dX10_fits_26 rfl rfl ?_
  refine e_iload_n dX10_fits_27 rfl rfl ?_
  refine e_iconst (nI 0) dX10_fits_28 (by decide) ?_
  refine e_iconst (nI 2) dX10_fits_29 (by decide) ?_
  refine e_callS [.int (nI w), .int (nI 0), .int (nI 2)] dX10_fits_30 cc_X10_in lk_RX10_110 st_X10_in in_RX10 rfl (Nat.le_of_ble_eq_true rfl) (Nat.le_of_ble_eq_true rfl) ?_
  refine t_X10_inT ⟨(nI_le' (by omega) (by omega)).mpr (by omega), (nI_le' (by omega) (by omega)).mpr (by omega)⟩ (fK_i ?_)
  show fEv g _ mX10_fits 33 [some (.ref 89), some (.int (nI k)), some (.int (nI w)), some (.int c), none] [.int (nI 1), .ref 89] σ Q
  refine e_if_eq 45 dX10_fits_33 (by decide) (fun c => absurd c (by decide)) (fun _ => ?_)
  refine e_iload_n dX10_fits_36 rfl rfl ?_
  refine e_iconst (nI 0) dX10_fits_37 (by decide) ?_
  refine e_iconst (nI 1) dX10_fits_38 (by decide) ?_
  refine e_callS [.int c, .int (nI 0), .int (nI 1)] dX10_fits_39 cc_X10_in lk_RX10_110 st_X10_in in_RX10 rfl (Nat.le_of_ble_eq_true rfl) (Nat.le_of_ble_eq_true rfl) ?_
  refine t_X10_inF hv (fK_i ?_)
  show fEv g _ mX10_fits 42 [some (.ref 89), some (.int (nI k)), some (.int (nI w)), some (.int c), none] [.int (nI 0), .ref 89] σ Q
  refine e_if_ne 49 dX10_fits_42 (by decide) (fun c => absurd c (by decide)) (fun _ => ?_)
  refine e_iconst (nI 1) dX10_fits_45 (by decide) ?_
  refine e_goto 50 dX10_fits_46 (by decide) ?_
  refine e_iconst (nI 2) dX10_fits_50 (by decide) ?_
  refine e_callV (k := 89) [.int (nI 1), .int (nI 2)] dX10_fits_51 cc_X10_bad lk_RX10_148 im_X10_bad se_X10_bad (by decide) (Ms.s 89 rfl) (Ms.n (by decide)) rfl (Nat.le_of_ble_eq_true rfl) (Nat.le_of_ble_eq_true rfl) ?_
  refine t_X10_bad1 Ms hz (by decide) (fK_i ?_)
  show fEv g _ mX10_fits 54 [some (.ref 89), some (.int (nI k)), some (.int (nI w)), some (.int c), none] [.int (nI 1)] (fsI σ 89 0 (nI 2)) Q
  refine e_if_eq 59 dX10_fits_54 (by decide) (fun c => absurd c (by decide)) (fun _ => ?_)
  refine e_iconst (nI 0) dX10_fits_57 (by decide) ?_
  exact e_ireturn .int dX10_fits_58 rfl rfl (h _ (fSm_I (by unfold fRfA; omega)) (Ir.f0 ok (A := fun a => a = 89) (fSm_I rfl) (fun a (q : a = 89) => Or.inl (by omega)) (fun j hj => by simp only [List.mem_cons, List.not_mem_nil, or_false] at hj; rw [fI_I, if_neg (by omega)])) (by rw [fI_I, if_pos ⟨rfl, rfl⟩]))
set_option maxRecDepth 20000 in
theorem t_X10_fitsE3 {g : fGP} {d : Nat} {σ : fAH} {Q : fRes → fAH → Prop} {x : fXS} {k w : Nat} {c : Int32}  (Ms : fMs g σ) (ok : fOK x) (Ir : fIr σ x) (hk : k < dT (xD x) 1) (hw : w ≤ 2) (hv : ¬ (nI 0 ≤ c ∧ c ≤ nI 1)) (h : ∀ σ', fSm fRfA σ σ' → fIr σ' x → fI σ' 89 0 = nI 2 → Q (.inl (some (.int (nI 0)))) σ') : fEv g (d + 2) mX10_fits 0 (fent [.ref 89, .int (nI k), .int (nI w), .int c] 5) [] σ Q := by
  have S9 : fSm (fun a => a = 89) σ (fsI σ 89 0 (nI 0)) := fSm_I rfl
  show fEv g (d + 2) mX10_fits 0 [some (.ref 89), some (.int (nI k)), some (.int (nI w)), some (.int c), none] [] σ Q
  refine e_aload_n dX10_fits_0 rfl rfl ?_
  refine e_iconst (nI 0) dX10_fits_1 (by decide) ?_
  refine e_putI dX10_fits_2 fl_RX10_76 (Ms.s 89 rfl) (Ms.n (by decide)) rfl rfl ?_
  exact lp_X10_fitsE3 (Ms.sm S9) ok (Ir.f0 ok S9 (fun a (q : a = 89) => Or.inl (by omega)) (fun j hj => by simp only [List.mem_cons, List.not_mem_nil, or_false] at hj; rw [fI_I, if_neg (by omega)])) (by rw [fI_I, if_pos ⟨rfl, rfl⟩]) hk hw hv (fun σ' Sm' => h σ' ((S9.to (fun a (q : a = 89) => by unfold fRfA; omega)).tr Sm'))
