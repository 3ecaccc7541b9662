def fHA : Nat → Prop := fun a => a = 299
theorem mbs_le {S h : Nat → Nat} {p n q b B : Nat} (hb : b ≤ B) (hh : ∀ r, r < q + n → h r + 1 ≤ B) : mbs S h p n q b ≤ B := by
  rcases mbs_w (S := S) (h := h) (p := p) n q b with e | ⟨r, _, h2, _, e⟩
  · omega
  · have := hh r h2
    omega
theorem mI_b {S h : Nat → Nat} {t : Nat} (hI : mI S h t) {q : Nat} (hq : q < S 120) (h18 : S 120 ≤ 18) : h q ≤ 19 := by
  have := (hI.2.2 q hq).2
  have := mct_le (mon2 S q) (S 120) 0
  unfold mub at *
  omega
set_option maxRecDepth 20000 in
theorem t_X10_side1 {g : fGP} {d : Nat} {σ : fAH} {Q : fRes → fAH → Prop} {D : fSD} {S : Nat → Nat} {sd : Int32} {p : Nat} (Ms : fMs g σ) (Mr : fMr σ D S sd) (hD : fWD D) (hW : fWS D S) (hp : p < S 120) (h : Q (.inl (some (.int (nI (mlo S p))))) σ) : fEv g d mX10_side 0 (fent [.ref 89, .int (nI p), .int (nI 1)] 5) [] σ Q := by
  have np := hW.n hD
  obtain ⟨p0, p1, p2, p3, p4, p5⟩ := hW.2.1 p hp
  have x1 : mwd S p ≤ 12 ∧ mhg S p ≤ 12 := by unfold mwd mhg; omega
  show fEv g d mX10_side 0 [some (.ref 89), some (.int (nI p)), some (.int (nI 1)), none, none] [] σ Q
  refine e_aload_n dX10_side_0 rfl rfl ?_
  refine e_getR (q := 197) dX10_side_1 fl_RX10_49 (Ms.s 89 rfl) (Ms.n (by decide)) rfl (Ms.r 89 19 rfl) (by unfold fscr; omega) ?_
  refine e_bipush (nI 6) dX10_side_4 (by decide) ?_
  refine e_iload_n dX10_side_6 rfl rfl ?_
  refine e_imul dX10_side_7 ?_
  refine e_int (nI (p * 6)) ((pk_mul 6 p).trans (by rw [Nat.mul_comm])) ?_
  refine e_iconst (nI 2) dX10_side_8 (by decide) ?_
  refine e_iadd dX10_side_9 ?_
  refine e_int (nI (p * 6 + 2)) (nI_add (p * 6) 2) ?_
  refine e_iaload (p * 6 + 2) dX10_side_10 (Ms.s 197 rfl) (Ms.n (by decide)) rfl (by omega) (by decide) ?_
  refine e_int (nI (S (p * 6 + 2))) (Mr.s (p * 6 + 2) (by omega)) ?_
  refine e_aload_n dX10_side_11 rfl rfl ?_
  refine e_getR (q := 197) dX10_side_12 fl_RX10_49 (Ms.s 89 rfl) (Ms.n (by decide)) rfl (Ms.r 89 19 rfl) (by unfold fscr; omega) ?_
  refine e_bipush (nI 6) dX10_side_15 (by decide) ?_
  refine e_iload_n dX10_side_17 rfl rfl ?_
  refine e_imul dX10_side_18 ?_
  refine e_int (nI (p * 6)) ((pk_mul 6 p).trans (by rw [Nat.mul_comm])) ?_
  refine e_iconst (nI 1) dX10_side_19 (by decide) ?_
  refine e_iadd dX10_side_20 ?_
  refine e_int (nI (p * 6 + 1)) (nI_add (p * 6) 1) ?_
  refine e_iaload (p * 6 + 1) dX10_side_21 (Ms.s 197 rfl) (Ms.n (by decide)) rfl (by omega) (by decide) ?_
  refine e_int (nI (S (p * 6 + 1))) (Mr.s (p * 6 + 1) (by omega)) ?_
  refine e_isub dX10_side_22 ?_
  refine e_int (nI (mwd S p)) (pk_sub (by omega)) ?_
  refine e_istore_n (L1 := [some (.ref 89), some (.int (nI p)), some (.int (nI 1)), some (.int (nI (mwd S p))), none]) dX10_side_23 rfl (by decide) rfl ?_
  refine e_aload_n dX10_side_24 rfl rfl ?_
  refine e_getR (q := 197) dX10_side_25 fl_RX10_49 (Ms.s 89 rfl) (Ms.n (by decide)) rfl (Ms.r 89 19 rfl) (by unfold fscr; omega) ?_
  refine e_bipush (nI 6) dX10_side_28 (by decide) ?_
  refine e_iload_n dX10_side_30 rfl rfl ?_
  refine e_imul dX10_side_31 ?_
  refine e_int (nI (p * 6)) ((pk_mul 6 p).trans (by rw [Nat.mul_comm])) ?_
  refine e_iconst (nI 4) dX10_side_32 (by decide) ?_
  refine e_iadd dX10_side_33 ?_
  refine e_int (nI (p * 6 + 4)) (nI_add (p * 6) 4) ?_
  refine e_iaload (p * 6 + 4) dX10_side_34 (Ms.s 197 rfl) (Ms.n (by decide)) rfl (by omega) (by decide) ?_
  refine e_int (nI (S (p * 6 + 4))) (Mr.s (p * 6 + 4) (by omega)) ?_
  refine e_aload_n dX10_side_35 rfl rfl ?_
  refine e_getR (q := 197) dX10_side_36 fl_RX10_49 (Ms.s 89 rfl) (Ms.n (by decide)) rfl (Ms.r 89 19 rfl) (by unfold fscr; omega) ?_
  refine e_bipush (nI 6) dX10_side_39 (by decide) ?_
  refine e_iload_n dX10_side_41 rfl rfl ?_
  refine e_imul dX10_side_42 ?_
  refine e_int (nI (p * 6)) ((pk_mul 6 p).trans (by rw [Nat.mul_comm])) ?_
  refine e_iconst (nI 3) dX10_side_43 (by decide) ?_
  refine e_iadd dX10_side_44 ?_
  refine e_int (nI (p * 6 + 3)) (nI_add (p * 6) 3) ?_
  refine e_iaload (p * 6 + 3) dX10_side_45 (Ms.s 197 rfl) (Ms.n (by decide)) rfl (by omega) (by decide) ?_
  refine e_int (nI (S (p * 6 + 3))) (Mr.s (p * 6 + 3) (by omega)) ?_
  refine e_isub dX10_side_46 ?_
  refine e_int (nI (mhg S p)) (pk_sub (by omega)) ?_
  refine e_istore (L1 := [some (.ref 89), some (.int (nI p)), some (.int (nI 1)), some (.int (nI (mwd S p))), some (.int (nI (mhg S p)))]) dX10_side_47 (by decide) rfl ?_
  refine e_iload_n dX10_side_49 rfl rfl ?_
  refine e_iload dX10_side_50 rfl ?_
  refine e_icmp_le 59 dX10_side_52 (by decide) (fun c52 => ?_) (fun c52 => ?_)
  · rw [nI_le' (by omega) (by omega)] at c52
    refine e_iconst (nI 0) dX10_side_59 (by decide) ?_
    refine e_iload_n dX10_side_60 rfl rfl ?_
    refine e_icmp_ne 68 dX10_side_61 (by decide) (fun _ => ?_) (fun c => absurd c (by decide))
    refine e_iload dX10_side_68 rfl ?_
    have e9 : mlo S p = mhg S p := by unfold mlo; omega
    rw [e9] at h
    exact e_ireturn .int dX10_side_70 rfl rfl h
  · rw [nI_le' (by omega) (by omega)] at c52
    refine e_iconst (nI 1) dX10_side_55 (by decide) ?_
    refine e_goto 60 dX10_side_56 (by decide) ?_
    refine e_iload_n dX10_side_60 rfl rfl ?_
    refine e_icmp_ne 68 dX10_side_61 (by decide) (fun c => absurd c (by decide)) (fun _ => ?_)
    refine e_iload_n dX10_side_64 rfl rfl ?_
    refine e_goto 70 dX10_side_65 (by decide) ?_
    have e9 : mlo S p = mwd S p := by unfold mlo; omega
    rw [e9] at h
    exact e_ireturn .int dX10_side_70 rfl rfl h
set_option maxRecDepth 20000 in
theorem t_X10_side0 {g : fGP} {d : Nat} {σ : fAH} {Q : fRes → fAH → Prop} {D : fSD} {S : Nat → Nat} {sd : Int32} {p : Nat} (Ms : fMs g σ) (Mr : fMr σ D S sd) (hD : fWD D) (hW : fWS D S) (hp : p < S 120) (h : Q (.inl (some (.int (nI (msh S p))))) σ) : fEv g d mX10_side 0 (fent [.ref 89, .int (nI p), .int (nI 0)] 5) [] σ Q := by
  have np := hW.n hD
  obtain ⟨p0, p1, p2, p3, p4, p5⟩ := hW.2.1 p hp
  have x1 : mwd S p ≤ 12 ∧ mhg S p ≤ 12 := by unfold mwd mhg; omega
  show fEv g d mX10_side 0 [some (.ref 89), some (.int (nI p)), some (.int (nI 0)), none, none] [] σ Q
  refine e_aload_n dX10_side_0 rfl rfl ?_
  refine e_getR (q := 197) dX10_side_1 fl_RX10_49 (Ms.s 89 rfl) (Ms.n (by decide)) rfl (Ms.r 89 19 rfl) (by unfold fscr; omega) ?_
  refine e_bipush (nI 6) dX10_side_4 (by decide) ?_
  refine e_iload_n dX10_side_6 rfl rfl ?_
  refine e_imul dX10_side_7 ?_
  refine e_int (nI (p * 6)) ((pk_mul 6 p).trans (by rw [Nat.mul_comm])) ?_
  refine e_iconst (nI 2) dX10_side_8 (by decide) ?_
  refine e_iadd dX10_side_9 ?_
  refine e_int (nI (p * 6 + 2)) (nI_add (p * 6) 2) ?_
  refine e_iaload (p * 6 + 2) dX10_side_10 (Ms.s 197 rfl) (Ms.n (by decide)) rfl (by omega) (by decide) ?_
  refine e_int (nI (S (p * 6 + 2))) (Mr.s (p * 6 + 2) (by omega)) ?_
  refine e_aload_n dX10_side_11 rfl rfl ?_
  refine e_getR (q := 197) dX10_side_12 fl_RX10_49 (Ms.s 89 rfl) (Ms.n (by decide)) rfl (Ms.r 89 19 rfl) (by unfold fscr; omega) ?_
  refine e_bipush (nI 6) dX10_side_15 (by decide) ?_
  refine e_iload_n dX10_side_17 rfl rfl ?_
  refine e_imul dX10_side_18 ?_
  refine e_int (nI (p * 6)) ((pk_mul 6 p).trans (by rw [Nat.mul_comm])) ?_
  refine e_iconst (nI 1) dX10_side_19 (by decide) ?_
  refine e_iadd dX10_side_20 ?_
  refine e_int (nI (p * 6 + 1)) (nI_add (p * 6) 1) ?_
  refine e_iaload (p * 6 + 1) dX10_side_21 (Ms.s 197 rfl) (Ms.n (by decide)) rfl (by omega) (by decide) ?_
  refine e_int (nI (S (p * 6 + 1))) (Mr.s (p * 6 + 1) (by omega)) ?_
  refine e_isub dX10_side_22 ?_
  refine e_int (nI (mwd S p)) (pk_sub (by omega)) ?_
  refine e_istore_n (L1 := [some (.ref 89), some (.int (nI p)), some (.int (nI 0)), some (.int (nI (mwd S p))), none]) dX10_side_23 rfl (by decide) rfl ?_
  refine e_aload_n dX10_side_24 rfl rfl ?_
  refine e_getR (q := 197) dX10_side_25 fl_RX10_49 (Ms.s 89 rfl) (Ms.n (by decide)) rfl (Ms.r 89 19 rfl) (by unfold fscr; omega) ?_
  refine e_bipush (nI 6) dX10_side_28 (by decide) ?_
  refine e_iload_n dX10_side_30 rfl rfl ?_
  refine e_imul dX10_side_31 ?_
  refine e_int (nI (p * 6)) ((pk_mul 6 p).trans (by rw [Nat.mul_comm])) ?_
  refine e_iconst (nI 4) dX10_side_32 (by decide) ?_
  refine e_iadd dX10_side_33 ?_
  refine e_int (nI (p * 6 + 4)) (nI_add (p * 6) 4) ?_
  refine e_iaload (p * 6 + 4) dX10_side_34 (Ms.s 197 rfl) (Ms.n (by decide)) rfl (by omega) (by decide) ?_
  refine e_int (nI (S (p * 6 + 4))) (Mr.s (p * 6 + 4) (by omega)) ?_
  refine e_aload_n dX10_side_35 rfl rfl ?_
  refine e_getR (q := 197) dX10_side_36 fl_RX10_49 (Ms.s 89 rfl) (Ms.n (by decide)) rfl (Ms.r 89 19 rfl) (by unfold fscr; omega) ?_
  refine e_bipush (nI 6) dX10_side_39 (by decide) ?_
  refine e_iload_n dX10_side_41 rfl rfl ?_
  refine e_imul dX10_side_42 ?_
  refine e_int (nI (p * 6)) ((pk_mul 6 p).trans (by rw [Nat.mul_comm])) ?_
  refine e_iconst (nI 3) dX10_side_43 (by decide) ?_
  refine e_iadd dX10_side_44 ?_
  refine e_int (nI (p * 6 + 3)) (nI_add (p * 6) 3) ?_
  refine e_iaload (p * 6 + 3) dX10_side_45 (Ms.s 197 rfl) (Ms.n (by decide)) rfl (by omega) (by decide) ?_
  refine e_int (nI (S (p * 6 + 3))) (Mr.s (p * 6 + 3) (by omega)) ?_
  refine e_isub dX10_side_46 ?_
  refine e_int (nI (mhg S p)) (pk_sub (by omega)) ?_
  refine e_istore (L1 := [some (.ref 89), some (.int (nI p)), some (.int (nI 0)), some (.int (nI (mwd S p))), some (.int (nI (mhg S p)))]) dX10_side_47 (by decide) rfl ?_
  refine e_iload_n dX10_side_49 rfl rfl ?_
  refine e_iload dX10_side_50 rfl ?_
  refine e_icmp_le 59 dX10_side_52 (by decide) (fun c52 => ?_) (fun c52 => ?_)
  · rw [nI_le' (by omega) (by omega)] at c52
    refine e_iconst (nI 0) dX10_side_59 (by decide) ?_
    refine e_iload_n dX10_side_60 rfl rfl ?_
    refine e_icmp_ne 68 dX10_side_61 (by decide) (fun c => absurd c (by decide)) (fun _ => ?_)
    refine e_iload_n dX10_side_64 rfl rfl ?_
    refine e_goto 70 dX10_side_65 (by decide) ?_
    have e9 : msh S p = mwd S p := by unfold msh; omega
    rw [e9] at h
    exact e_ireturn .int dX10_side_70 rfl rfl h
  · rw [nI_le' (by omega) (by omega)] at c52
    refine e_iconst (nI 1) dX10_side_55 (by decide) ?_
    refine e_goto 60 dX10_side_56 (by decide) ?_
    refine e_iload_n dX10_side_60 rfl rfl ?_
    refine e_icmp_ne 68 dX10_side_61 (by decide) (fun _ => ?_) (fun c => absurd c (by decide))
    refine e_iload dX10_side_68 rfl ?_
    have e9 : msh S p = mhg S p := by unfold msh; omega
    rw [e9] at h
    exact e_ireturn .int dX10_side_70 rfl rfl h
set_option maxRecDepth 20000 in
theorem t_X10_isOn {g : fGP} {d : Nat} {σ : fAH} {Q : fRes → fAH → Prop} {D : fSD} {S : Nat → Nat} {sd : Int32} {p q : Nat} (Ms : fMs g σ) (Mr : fMr σ D S sd) (hD : fWD D) (hW : fWS D S) (hp : p < S 120) (hq : q < S 120) (h : Q (.inl (some (.int (nI (bn (mon2 S p q)))))) σ) : fEv g (d + 1) mX10_isOn 0 (fent [.ref 89, .int (nI p), .int (nI q)] 3) [] σ Q := by
  have np := hW.n hD
  have m1 := mlo_le hW hp
  have m2 := mlo_le hW hq
  obtain ⟨p0, p1, p2, p3, p4, p5⟩ := hW.2.1 q hq
  show fEv g (d + 1) mX10_isOn 0 [some (.ref 89), some (.int (nI p)), some (.int (nI q))] [] σ Q
  refine e_iload_n dX10_isOn_0 rfl rfl ?_
  refine e_iload_n dX10_isOn_1 rfl rfl ?_
  refine e_icmp_eq 49 dX10_isOn_2 (by decide) (fun c2 => ?_) (fun c2 => ?_)
  · rw [nI_inj (by omega) (by omega)] at c2
    refine e_iconst (nI 0) dX10_isOn_49 (by decide) ?_
    have hm : mon2 S p q = false := decide_eq_false (by omega)
    rw [hm] at h
    exact e_ireturn .boolean dX10_isOn_50 rfl (by decide) h
  · rw [nI_inj (by omega) (by omega)] at c2
    refine e_aload_n dX10_isOn_5 rfl rfl ?_
    refine e_getR (q := 197) dX10_isOn_6 fl_RX10_49 (Ms.s 89 rfl) (Ms.n (by decide)) rfl (Ms.r 89 19 rfl) (by unfold fscr; omega) ?_
    refine e_bipush (nI 6) dX10_isOn_9 (by decide) ?_
    refine e_iload_n dX10_isOn_11 rfl rfl ?_
    refine e_imul dX10_isOn_12 ?_
    refine e_int (nI (q * 6)) ((pk_mul 6 q).trans (by rw [Nat.mul_comm])) ?_
    refine e_iconst (nI 5) dX10_isOn_13 (by decide) ?_
    refine e_iadd dX10_isOn_14 ?_
    refine e_int (nI (q * 6 + 5)) (nI_add (q * 6) 5) ?_
    refine e_iaload (q * 6 + 5) dX10_isOn_15 (Ms.s 197 rfl) (Ms.n (by decide)) rfl (by omega) (by decide) ?_
    refine e_int (nI (S (q * 6 + 5))) (Mr.s (q * 6 + 5) (by omega)) ?_
    refine e_if_eq 49 dX10_isOn_16 (by decide) (fun c16 => ?_) (fun c16 => ?_)
    · rw [nI_z (by omega)] at c16
      refine e_iconst (nI 0) dX10_isOn_49 (by decide) ?_
      have hm : mon2 S p q = false := decide_eq_false (by omega)
      rw [hm] at h
      exact e_ireturn .boolean dX10_isOn_50 rfl (by decide) h
    · rw [nI_z (by omega)] at c16
      refine e_aload_n dX10_isOn_19 rfl rfl ?_
      refine e_iload_n dX10_isOn_20 rfl rfl ?_
      refine e_iconst (nI 1) dX10_isOn_21 (by decide) ?_
      refine e_callV (k := 89) [.int (nI p), .int (nI 1)] dX10_isOn_22 cc_X10_side lk_RX10_312 im_X10_side se_X10_side (by decide) (Ms.s 89 rfl) (Ms.n (by decide)) rfl (Nat.le_of_ble_eq_true rfl) (Nat.le_of_ble_eq_true rfl) ?_
      refine t_X10_side1 Ms Mr hD hW (by omega) (fK_i ?_)
      show fEv g _ mX10_isOn 25 [some (.ref 89), some (.int (nI p)), some (.int (nI q))] [.int (nI (mlo S p))] σ Q
      refine e_aload_n dX10_isOn_25 rfl rfl ?_
      refine e_iload_n dX10_isOn_26 rfl rfl ?_
      refine e_iconst (nI 1) dX10_isOn_27 (by decide) ?_
      refine e_callV (k := 89) [.int (nI q), .int (nI 1)] dX10_isOn_28 cc_X10_side lk_RX10_312 im_X10_side se_X10_side (by decide) (Ms.s 89 rfl) (Ms.n (by decide)) rfl (Nat.le_of_ble_eq_true rfl) (Nat.le_of_ble_eq_true rfl) ?_
      refine t_X10_side1 Ms Mr hD hW (by omega) (fK_i ?_)
      show fEv g _ mX10_isOn 31 [some (.ref 89), some (.int (nI p)), some (.int (nI q))] [.int (nI (mlo S q)), .int (nI (mlo S p))] σ Q
      refine e_icmp_gt 49 dX10_isOn_31 (by decide) (fun c31 => ?_) (fun c31 => ?_)
      · rw [nI_lt' (by omega) (by omega)] at c31
        refine e_iconst (nI 0) dX10_isOn_49 (by decide) ?_
        have hm : mon2 S p q = false := decide_eq_false (by omega)
        rw [hm] at h
        exact e_ireturn .boolean dX10_isOn_50 rfl (by decide) h
      · rw [nI_lt' (by omega) (by omega)] at c31
        refine e_aload_n dX10_isOn_34 rfl rfl ?_
        refine e_iload_n dX10_isOn_35 rfl rfl ?_
        refine e_iconst (nI 0) dX10_isOn_36 (by decide) ?_
        refine e_callV (k := 89) [.int (nI p), .int (nI 0)] dX10_isOn_37 cc_X10_side lk_RX10_312 im_X10_side se_X10_side (by decide) (Ms.s 89 rfl) (Ms.n (by decide)) rfl (Nat.le_of_ble_eq_true rfl) (Nat.le_of_ble_eq_true rfl) ?_
        refine t_X10_side0 Ms Mr hD hW (by omega) (fK_i ?_)
        show fEv g _ mX10_isOn 40 [some (.ref 89), some (.int (nI p)), some (.int (nI q))] [.int (nI (msh S p))] σ Q
        refine e_aload_n dX10_isOn_40 rfl rfl ?_
        refine e_iload_n dX10_isOn_41 rfl rfl ?_
        refine e_iconst (nI 0) dX10_isOn_42 (by decide) ?_
        refine e_callV (k := 89) [.int (nI q), .int (nI 0)] dX10_isOn_43 cc_X10_side lk_RX10_312 im_X10_side se_X10_side (by decide) (Ms.s 89 rfl) (Ms.n (by decide)) rfl (Nat.le_of_ble_eq_true rfl) (Nat.le_of_ble_eq_true rfl) ?_
        refine t_X10_side0 Ms Mr hD hW (by omega) (fK_i ?_)
        show fEv g _ mX10_isOn 46 [some (.ref 89), some (.int (nI p)), some (.int (nI q))] [.int (nI (msh S q)), .int (nI (msh S p))] σ Q
        refine e_icmp_le 51 dX10_isOn_46 (by decide) (fun c46 => ?_) (fun c46 => ?_)
        · rw [nI_le' (by omega) (by omega)] at c46
          refine e_aload_n dX10_isOn_51 rfl rfl ?_
          refine e_iload_n dX10_isOn_52 rfl rfl ?_
          refine e_iconst (nI 1) dX10_isOn_53 (by decide) ?_
          refine e_callV (k := 89) [.int (nI p), .int (nI 1)] dX10_isOn_54 cc_X10_side lk_RX10_312 im_X10_side se_X10_side (by decide) (Ms.s 89 rfl) (Ms.n (by decide)) rfl (Nat.le_of_ble_eq_true rfl) (Nat.le_of_ble_eq_true rfl) ?_
          refine t_X10_side1 Ms Mr hD hW (by omega) (fK_i ?_)
          show fEv g _ mX10_isOn 57 [some (.ref 89), some (.int (nI p)), some (.int (nI q))] [.int (nI (mlo S p))] σ Q
          refine e_aload_n dX10_isOn_57 rfl rfl ?_
          refine e_iload_n dX10_isOn_58 rfl rfl ?_
          refine e_iconst (nI 1) dX10_isOn_59 (by decide) ?_
          refine e_callV (k := 89) [.int (nI q), .int (nI 1)] dX10_isOn_60 cc_X10_side lk_RX10_312 im_X10_side se_X10_side (by decide) (Ms.s 89 rfl) (Ms.n (by decide)) rfl (Nat.le_of_ble_eq_true rfl) (Nat.le_of_ble_eq_true rfl) ?_
          refine t_X10_side1 Ms Mr hD hW (by omega) (fK_i ?_)
          show fEv g _ mX10_isOn 63 [some (.ref 89), some (.int (nI p)), some (.int (nI q))] [.int (nI (mlo S q)), .int (nI (mlo S p))] σ Q
          refine e_icmp_lt 86 dX10_isOn_63 (by decide) (fun c63 => ?_) (fun c63 => ?_)
          · rw [nI_lt' (by omega) (by omega)] at c63
            refine e_iconst (nI 1) dX10_isOn_86 (by decide) ?_
            refine e_goto 91 dX10_isOn_87 (by decide) ?_
            have hm : mon2 S p q = true := decide_eq_true (by omega)
            rw [hm] at h
            exact e_ireturn .boolean dX10_isOn_91 rfl (by decide) h
          · rw [nI_lt' (by omega) (by omega)] at c63
            refine e_aload_n dX10_isOn_66 rfl rfl ?_
            refine e_iload_n dX10_isOn_67 rfl rfl ?_
            refine e_iconst (nI 0) dX10_isOn_68 (by decide) ?_
            refine e_callV (k := 89) [.int (nI p), .int (nI 0)] dX10_isOn_69 cc_X10_side lk_RX10_312 im_X10_side se_X10_side (by decide) (Ms.s 89 rfl) (Ms.n (by decide)) rfl (Nat.le_of_ble_eq_true rfl) (Nat.le_of_ble_eq_true rfl) ?_
            refine t_X10_side0 Ms Mr hD hW (by omega) (fK_i ?_)
            show fEv g _ mX10_isOn 72 [some (.ref 89), some (.int (nI p)), some (.int (nI q))] [.int (nI (msh S p))] σ Q
            refine e_aload_n dX10_isOn_72 rfl rfl ?_
            refine e_iload_n dX10_isOn_73 rfl rfl ?_
            refine e_iconst (nI 0) dX10_isOn_74 (by decide) ?_
            refine e_callV (k := 89) [.int (nI q), .int (nI 0)] dX10_isOn_75 cc_X10_side lk_RX10_312 im_X10_side se_X10_side (by decide) (Ms.s 89 rfl) (Ms.n (by decide)) rfl (Nat.le_of_ble_eq_true rfl) (Nat.le_of_ble_eq_true rfl) ?_
            refine t_X10_side0 Ms Mr hD hW (by omega) (fK_i ?_)
            show fEv g _ mX10_isOn 78 [some (.ref 89), some (.int (nI p)), some (.int (nI q))] [.int (nI (msh S q)), .int (nI (msh S p))] σ Q
            refine e_icmp_lt 86 dX10_isOn_78 (by decide) (fun c78 => ?_) (fun c78 => ?_)
            · rw [nI_lt' (by omega) (by omega)] at c78
              refine e_iconst (nI 1) dX10_isOn_86 (by decide) ?_
              refine e_goto 91 dX10_isOn_87 (by decide) ?_
              have hm : mon2 S p q = true := decide_eq_true (by omega)
              rw [hm] at h
              exact e_ireturn .boolean dX10_isOn_91 rfl (by decide) h
            · rw [nI_lt' (by omega) (by omega)] at c78
              refine e_iload_n dX10_isOn_81 rfl rfl ?_
              refine e_iload_n dX10_isOn_82 rfl rfl ?_
              refine e_icmp_ge 90 dX10_isOn_83 (by decide) (fun c83 => ?_) (fun c83 => ?_)
              · rw [nI_le' (by omega) (by omega)] at c83
                refine e_iconst (nI 0) dX10_isOn_90 (by decide) ?_
                have hm : mon2 S p q = false := decide_eq_false (by omega)
                rw [hm] at h
                exact e_ireturn .boolean dX10_isOn_91 rfl (by decide) h
              · rw [nI_le' (by omega) (by omega)] at c83
                refine e_iconst (nI 1) dX10_isOn_86 (by decide) ?_
                refine e_goto 91 dX10_isOn_87 (by decide) ?_
                have hm : mon2 S p q = true := decide_eq_true (by omega)
                rw [hm] at h
                exact e_ireturn .boolean dX10_isOn_91 rfl (by decide) h
        · rw [nI_le' (by omega) (by omega)] at c46
          refine e_iconst (nI 0) dX10_isOn_49 (by decide) ?_
          have hm : mon2 S p q = false := decide_eq_false (by omega)
          rw [hm] at h
          exact e_ireturn .boolean dX10_isOn_50 rfl (by decide) h
set_option maxRecDepth 20000 in
theorem l_X10_tw77 {g : fGP} {d : Nat} {Q : fRes → fAH → Prop} {D : fSD} {S : Nat → Nat} {sd : Int32} {σ : fAH} {h9 : Nat → Nat} {p t : Nat} {m : Bool} (hD : fWD D) (hW : fWS D S) (Ms : fMs g σ) (Mr : fMr σ D S sd) (hp : p < S 120) (hh : ∀ q, q < S 120 → fI σ 299 q = nI (h9 q)) (hb9 : ∀ q, q < S 120 → h9 q ≤ 1000) : ∀ (n q b : Nat), q + n = S 120 → b ≤ 1001 → fEv g (d + 2) mX10_tower 130 [some (.ref 89), some (.int (nI t)), some (.int (nI (bn m))), some (.int (nI p)), some (.int (nI (mbs S h9 p n q b))), some (.int (nI (S 120)))] [] σ Q → fEv g (d + 2) mX10_tower 77 [some (.ref 89), some (.int (nI t)), some (.int (nI (bn m))), some (.int (nI p)), some (.int (nI b)), some (.int (nI q))] [] σ Q := by
  intro n
  induction n with
  | zero =>
    intro q b hq hb h
    have np := hW.n hD
    refine e_iload dX10_tower_77 rfl ?_
    refine e_aload_n dX10_tower_79 rfl rfl ?_
    refine e_getR (q := 197) dX10_tower_80 fl_RX10_49 (Ms.s 89 rfl) (Ms.n (by decide)) rfl (Ms.r 89 19 rfl) (by unfold fscr; omega) ?_
    refine e_bipush (nI 120) dX10_tower_83 (by decide) ?_
    refine e_iaload 120 dX10_tower_85 (Ms.s 197 rfl) (Ms.n (by decide)) rfl (by omega) (by decide) ?_
    refine e_int (nI (S 120)) (Mr.s 120 (by omega)) ?_
    refine e_icmp_ge 130 dX10_tower_86 (by decide) (fun cz => ?_) (fun cz => absurd ((nI_le' (by omega) (by omega)).mpr (by omega)) cz)
    rw [show q = S 120 by omega]
    exact h
  | succ n ih =>
    intro q b hq hb h
    have np := hW.n hD
    have hq9 := hb9 q (by omega)
    refine e_iload dX10_tower_77 rfl ?_
    refine e_aload_n dX10_tower_79 rfl rfl ?_
    refine e_getR (q := 197) dX10_tower_80 fl_RX10_49 (Ms.s 89 rfl) (Ms.n (by decide)) rfl (Ms.r 89 19 rfl) (by unfold fscr; omega) ?_
    refine e_bipush (nI 120) dX10_tower_83 (by decide) ?_
    refine e_iaload 120 dX10_tower_85 (Ms.s 197 rfl) (Ms.n (by decide)) rfl (by omega) (by decide) ?_
    refine e_int (nI (S 120)) (Mr.s 120 (by omega)) ?_
    refine e_icmp_ge 130 dX10_tower_86 (by decide) (fun cz => absurd ((nI_le' (by omega) (by omega)).mp cz) (by omega)) (fun cz => ?_)
    refine e_aload_n dX10_tower_89 rfl rfl ?_
    refine e_iload_n dX10_tower_90 rfl rfl ?_
    refine e_iload dX10_tower_91 rfl ?_
    refine e_callV (k := 89) [.int (nI p), .int (nI q)] dX10_tower_93 cc_X10_isOn lk_RX10_309 im_X10_isOn se_X10_isOn (by decide) (Ms.s 89 rfl) (Ms.n (by decide)) rfl (Nat.le_of_ble_eq_true rfl) (Nat.le_of_ble_eq_true rfl) ?_
    refine t_X10_isOn Ms Mr hD hW (by omega) (by omega) (fK_i ?_)
    show fEv g _ mX10_tower 96 [some (.ref 89), some (.int (nI t)), some (.int (nI (bn m))), some (.int (nI p)), some (.int (nI b)), some (.int (nI q))] [.int (nI (bn (mon2 S p q)))] σ Q
    refine e_if_eq 124 dX10_tower_96 (by decide) (fun c96 => ?_) (fun c96 => ?_)
    · have c96 := bn0 c96
      refine e_iinc (v := nI (q + 1)) (L1 := [some (.ref 89), some (.int (nI t)), some (.int (nI (bn m))), some (.int (nI p)), some (.int (nI b)), some (.int (nI (q + 1)))]) dX10_tower_124 rfl (show nI q + Int32.ofInt 1 = nI (q + 1) from nI_add q 1) (by decide) rfl ?_
      refine e_goto 77 dX10_tower_127 (by decide) ?_
      rw [show mbs S h9 p (n + 1) q b = mbs S h9 p n (q + 1) (if mon2 S p q = true ∧ b < h9 q + 1 then h9 q + 1 else b) from rfl, if_neg (fun q9 => by first | omega | (rw [c96] at q9; exact absurd q9.1 Bool.false_ne_true))] at h
      exact ih (q + 1) _ (by omega) (by omega) h
    · have c96 := bn1 c96
      refine e_aload_n dX10_tower_99 rfl rfl ?_
      refine e_getR (q := 299) dX10_tower_100 fl_RX10_70 (Ms.s 89 rfl) (Ms.n (by decide)) rfl (Ms.r 89 35 rfl) (by unfold fscr; omega) ?_
      refine e_iload dX10_tower_103 rfl ?_
      refine e_iaload q dX10_tower_105 (Ms.s 299 rfl) (Ms.n (by decide)) rfl (by omega) (by decide) ?_
      refine e_int (nI (h9 q)) (hh q (by omega)) ?_
      refine e_iconst (nI 1) dX10_tower_106 (by decide) ?_
      refine e_iadd dX10_tower_107 ?_
      refine e_int (nI (h9 q + 1)) (nI_add (h9 q) 1) ?_
      refine e_iload dX10_tower_108 rfl ?_
      refine e_icmp_le 124 dX10_tower_110 (by decide) (fun c110 => ?_) (fun c110 => ?_)
      · rw [nI_le' (by omega) (by omega)] at c110
        refine e_iinc (v := nI (q + 1)) (L1 := [some (.ref 89), some (.int (nI t)), some (.int (nI (bn m))), some (.int (nI p)), some (.int (nI b)), some (.int (nI (q + 1)))]) dX10_tower_124 rfl (show nI q + Int32.ofInt 1 = nI (q + 1) from nI_add q 1) (by decide) rfl ?_
        refine e_goto 77 dX10_tower_127 (by decide) ?_
        rw [show mbs S h9 p (n + 1) q b = mbs S h9 p n (q + 1) (if mon2 S p q = true ∧ b < h9 q + 1 then h9 q + 1 else b) from rfl, if_neg (fun q9 => by first | omega | (rw [c96] at q9; exact absurd q9.1 Bool.false_ne_true))] at h
        exact ih (q + 1) _ (by omega) (by omega) h
      · rw [nI_le' (by omega) (by omega)] at c110
        refine e_aload_n dX10_tower_113 rfl rfl ?_
        refine e_getR (q := 299) dX10_tower_114 fl_RX10_70 (Ms.s 89 rfl) (Ms.n (by decide)) rfl (Ms.r 89 35 rfl) (by unfold fscr; omega) ?_
        refine e_iload dX10_tower_117 rfl ?_
        refine e_iaload q dX10_tower_119 (Ms.s 299 rfl) (Ms.n (by decide)) rfl (by omega) (by decide) ?_
        refine e_int (nI (h9 q)) (hh q (by omega)) ?_
        refine e_iconst (nI 1) dX10_tower_120 (by decide) ?_
        refine e_iadd dX10_tower_121 ?_
        refine e_int (nI (h9 q + 1)) (nI_add (h9 q) 1) ?_
        refine e_istore (L1 := [some (.ref 89), some (.int (nI t)), some (.int (nI (bn m))), some (.int (nI p)), some (.int (nI (h9 q + 1))), some (.int (nI q))]) dX10_tower_122 (by decide) rfl ?_
        refine e_iinc (v := nI (q + 1)) (L1 := [some (.ref 89), some (.int (nI t)), some (.int (nI (bn m))), some (.int (nI p)), some (.int (nI (h9 q + 1))), some (.int (nI (q + 1)))]) dX10_tower_124 rfl (show nI q + Int32.ofInt 1 = nI (q + 1) from nI_add q 1) (by decide) rfl ?_
        refine e_goto 77 dX10_tower_127 (by decide) ?_
        rw [show mbs S h9 p (n + 1) q b = mbs S h9 p n (q + 1) (if mon2 S p q = true ∧ b < h9 q + 1 then h9 q + 1 else b) from rfl, if_pos (⟨c96, by omega⟩)] at h
        exact ih (q + 1) _ (by omega) (by omega) h
set_option maxRecDepth 20000 in
theorem l_X10_tw43 {g : fGP} {d : Nat} {Q : fRes → fAH → Prop} {D : fSD} {S : Nat → Nat} {sd : Int32} (hD : fWD D) (hW : fWS D S) : ∀ (n p : Nat) (h9 : Nat → Nat) (m : Bool) (t : Nat) (σ : fAH) (o4 : Option Value) (o5 : Option Value), p + n = S 120 → fMs g σ → fMr σ D S sd → (∀ q, q < S 120 → fI σ 299 q = nI (h9 q)) → (∀ q, q < S 120 → h9 q ≤ 100 + p) → t ≤ 100 + p → (∀ σ' o4 o5, fSm fHA σ σ' → (∀ q, q < S 120 → fI σ' 299 q = nI ((mps S n p h9 m t).1 q)) → fEv g (d + 2) mX10_tower 35 [some (.ref 89), some (.int (nI (mps S n p h9 m t).2.2)), some (.int (nI (bn (mps S n p h9 m t).2.1))), some (.int (nI (S 120))), o4, o5] [] σ' Q) → fEv g (d + 2) mX10_tower 43 [some (.ref 89), some (.int (nI t)), some (.int (nI (bn m))), some (.int (nI p)), o4, o5] [] σ Q := by
  intro n
  induction n with
  | zero =>
    intro p h9 m t σ o4 o5 hin Ms Mr hh hb9 ht9 h
    have np := hW.n hD
    refine e_iload_n dX10_tower_43 rfl rfl ?_
    refine e_aload_n dX10_tower_44 rfl rfl ?_
    refine e_getR (q := 197) dX10_tower_45 fl_RX10_49 (Ms.s 89 rfl) (Ms.n (by decide)) rfl (Ms.r 89 19 rfl) (by unfold fscr; omega) ?_
    refine e_bipush (nI 120) dX10_tower_48 (by decide) ?_
    refine e_iaload 120 dX10_tower_50 (Ms.s 197 rfl) (Ms.n (by decide)) rfl (by omega) (by decide) ?_
    refine e_int (nI (S 120)) (Mr.s 120 (by omega)) ?_
    refine e_icmp_ge 206 dX10_tower_51 (by decide) (fun cz => ?_) (fun cz => absurd ((nI_le' (by omega) (by omega)).mpr (by omega)) cz)
    refine e_goto 35 dX10_tower_206 (by decide) ?_
    rw [show p = S 120 by omega]
    exact h σ _ _ fSm.rfl' hh
  | succ n ih =>
    intro p h9 m t σ o4 o5 hin Ms Mr hh hb9 ht9 h
    have np := hW.n hD
    have hi : p < S 120 := by omega
    have hp : p < S 120 := hi
    obtain ⟨p0, p1, p2, p3, p4, p5⟩ := hW.2.1 p hp
    refine e_iload_n dX10_tower_43 rfl rfl ?_
    refine e_aload_n dX10_tower_44 rfl rfl ?_
    refine e_getR (q := 197) dX10_tower_45 fl_RX10_49 (Ms.s 89 rfl) (Ms.n (by decide)) rfl (Ms.r 89 19 rfl) (by unfold fscr; omega) ?_
    refine e_bipush (nI 120) dX10_tower_48 (by decide) ?_
    refine e_iaload 120 dX10_tower_50 (Ms.s 197 rfl) (Ms.n (by decide)) rfl (by omega) (by decide) ?_
    refine e_int (nI (S 120)) (Mr.s 120 (by omega)) ?_
    refine e_icmp_ge 206 dX10_tower_51 (by decide) (fun cz => absurd ((nI_le' (by omega) (by omega)).mp cz) (by omega)) (fun cz => ?_)
    refine e_aload_n dX10_tower_54 rfl rfl ?_
    refine e_getR (q := 197) dX10_tower_55 fl_RX10_49 (Ms.s 89 rfl) (Ms.n (by decide)) rfl (Ms.r 89 19 rfl) (by unfold fscr; omega) ?_
    refine e_bipush (nI 6) dX10_tower_58 (by decide) ?_
    refine e_iload_n dX10_tower_60 rfl rfl ?_
    refine e_imul dX10_tower_61 ?_
    refine e_int (nI (p * 6)) ((pk_mul 6 p).trans (by rw [Nat.mul_comm])) ?_
    refine e_iconst (nI 5) dX10_tower_62 (by decide) ?_
    refine e_iadd dX10_tower_63 ?_
    refine e_int (nI (p * 6 + 5)) (nI_add (p * 6) 5) ?_
    refine e_iaload (p * 6 + 5) dX10_tower_64 (Ms.s 197 rfl) (Ms.n (by decide)) rfl (by omega) (by decide) ?_
    refine e_int (nI (S (p * 6 + 5))) (Mr.s (p * 6 + 5) (by omega)) ?_
    refine e_if_ne 71 dX10_tower_65 (by decide) (fun c65 => ?_) (fun c65 => ?_)
    · rw [nI_z (by omega)] at c65
      refine e_iconst (nI 1) dX10_tower_71 (by decide) ?_
      refine e_istore (L1 := [some (.ref 89), some (.int (nI t)), some (.int (nI (bn m))), some (.int (nI p)), some (.int (nI 1)), o5]) dX10_tower_72 (by decide) rfl ?_
      refine e_iconst (nI 0) dX10_tower_74 (by decide) ?_
      refine e_istore (L1 := [some (.ref 89), some (.int (nI t)), some (.int (nI (bn m))), some (.int (nI p)), some (.int (nI 1)), some (.int (nI 0))]) dX10_tower_75 (by decide) rfl ?_
      refine l_X10_tw77 hD hW Ms Mr hp hh (fun q hq => by have := hb9 q hq; omega) (S 120) 0 1 (by omega) (by omega) ?_
      have hbb : mbb S h9 p ≤ 101 + p := mbs_le (by omega) (fun r hr => by have := hb9 r (by omega); omega)
      have hp9 := hb9 p hp
      rw [show mbs S h9 p (S 120) 0 1 = mbb S h9 p from rfl]
      refine e_iload_n dX10_tower_130 rfl rfl ?_
      refine e_if_ne 145 dX10_tower_131 (by decide) (fun c131 => ?_) (fun c131 => ?_)
      · have c131 := bn1 c131
        refine e_iconst (nI 1) dX10_tower_145 (by decide) ?_
        refine e_goto 150 dX10_tower_146 (by decide) ?_
        refine e_istore_n (L1 := [some (.ref 89), some (.int (nI t)), some (.int (nI 1)), some (.int (nI p)), some (.int (nI (mbb S h9 p))), some (.int (nI (S 120)))]) dX10_tower_150 rfl (by decide) rfl ?_
        refine e_aload_n dX10_tower_151 rfl rfl ?_
        refine e_getR (q := 299) dX10_tower_152 fl_RX10_70 (Ms.s 89 rfl) (Ms.n (by decide)) rfl (Ms.r 89 35 rfl) (by unfold fscr; omega) ?_
        refine e_iload_n dX10_tower_155 rfl rfl ?_
        refine e_iload dX10_tower_156 rfl ?_
        refine e_aload_n dX10_tower_158 rfl rfl ?_
        refine e_getR (q := 299) dX10_tower_159 fl_RX10_70 (Ms.s 89 rfl) (Ms.n (by decide)) rfl (Ms.r 89 35 rfl) (by unfold fscr; omega) ?_
        refine e_iload_n dX10_tower_162 rfl rfl ?_
        refine e_iaload p dX10_tower_163 (Ms.s 299 rfl) (Ms.n (by decide)) rfl (by omega) (by decide) ?_
        refine e_int (nI (h9 p)) (hh p (by omega)) ?_
        refine e_icmp_le 172 dX10_tower_164 (by decide) (fun c164 => ?_) (fun c164 => ?_)
        · rw [nI_le' (by omega) (by omega)] at c164
          refine e_aload_n dX10_tower_172 rfl rfl ?_
          refine e_getR (q := 299) dX10_tower_173 fl_RX10_70 (Ms.s 89 rfl) (Ms.n (by decide)) rfl (Ms.r 89 35 rfl) (by unfold fscr; omega) ?_
          refine e_iload_n dX10_tower_176 rfl rfl ?_
          refine e_iaload p dX10_tower_177 (Ms.s 299 rfl) (Ms.n (by decide)) rfl (by omega) (by decide) ?_
          refine e_int (nI (h9 p)) (hh p (by omega)) ?_
          refine e_iastore p dX10_tower_178 (Ms.s 299 rfl) (Ms.n (by decide)) rfl (by omega) (by decide) ?_
          refine e_aload_n dX10_tower_179 rfl rfl ?_
          refine e_getR (q := 299) dX10_tower_180 fl_RX10_70 (Ms.s 89 rfl) (Ms.n (by decide)) rfl (Ms.r 89 35 rfl) (by unfold fscr; omega) ?_
          refine e_iload_n dX10_tower_183 rfl rfl ?_
          refine e_iaload p dX10_tower_184 (Ms.s 299 rfl) (Ms.n (by decide)) rfl (by omega) (by decide) ?_
          refine e_int (nI (h9 p)) (by rw [fI_I, if_pos ⟨rfl, rfl⟩]) ?_
          refine e_iload_n dX10_tower_185 rfl rfl ?_
          refine e_icmp_le 198 dX10_tower_186 (by decide) (fun c186 => ?_) (fun c186 => ?_)
          · rw [nI_le' (by omega) (by omega)] at c186
            refine e_iload_n dX10_tower_198 rfl rfl ?_
            refine e_istore_n (L1 := [some (.ref 89), some (.int (nI t)), some (.int (nI 1)), some (.int (nI p)), some (.int (nI (mbb S h9 p))), some (.int (nI (S 120)))]) dX10_tower_199 rfl (by decide) rfl ?_
            refine e_iinc (v := nI (p + 1)) (L1 := [some (.ref 89), some (.int (nI t)), some (.int (nI 1)), some (.int (nI (p + 1))), some (.int (nI (mbb S h9 p))), some (.int (nI (S 120)))]) dX10_tower_200 rfl (show nI p + Int32.ofInt 1 = nI (p + 1) from nI_add p 1) (by decide) rfl ?_
            refine e_goto 43 dX10_tower_203 (by decide) ?_
            have e1 : (if h9 p < mbb S h9 p then mbb S h9 p else h9 p) = h9 p := if_neg (by omega)
            have e2 : (if t < (h9 p) then (h9 p) else t) = t := if_neg (by omega)
            have e3 : (m || decide (h9 p < mbb S h9 p)) = true := by first | (rw [c131]; rfl) | (rw [decide_eq_true (show h9 p < mbb S h9 p by omega), Bool.or_true])
            rw [show mps S (n + 1) p h9 m t = mps S n (p + 1) (mup h9 p (if h9 p < mbb S h9 p then mbb S h9 p else h9 p)) (m || decide (h9 p < mbb S h9 p)) (if t < (if h9 p < mbb S h9 p then mbb S h9 p else h9 p) then (if h9 p < mbb S h9 p then mbb S h9 p else h9 p) else t) from if_neg c65, e1, e2, e3] at h
            refine ih (p + 1) (mup h9 p (h9 p)) true (t) (fsI σ 299 p (nI (h9 p))) _ _ (by omega) (Ms.sm (A := fHA) (fSm_I rfl)) (Mr.smm (A := fHA) (fSm_I rfl) hD (fun i h1 h2 => by unfold fHA; omega)) (fun q hq => ?_) (fun q hq => ?_) (by omega) (fun σ' o4 o5 Sm' => h σ' o4 o5 ((fSm_I (A := fHA) rfl).tr Sm'))
            · unfold mup; by_cases e : q = p
              · rw [fI_I, if_pos ⟨rfl, e⟩, if_pos e]
              · rw [fI_I, if_neg (by omega), if_neg e]; exact hh q hq
            · unfold mup; have := hb9 q hq; split <;> omega
          · rw [nI_le' (by omega) (by omega)] at c186
            refine e_aload_n dX10_tower_189 rfl rfl ?_
            refine e_getR (q := 299) dX10_tower_190 fl_RX10_70 (Ms.s 89 rfl) (Ms.n (by decide)) rfl (Ms.r 89 35 rfl) (by unfold fscr; omega) ?_
            refine e_iload_n dX10_tower_193 rfl rfl ?_
            refine e_iaload p dX10_tower_194 (Ms.s 299 rfl) (Ms.n (by decide)) rfl (by omega) (by decide) ?_
            refine e_int (nI (h9 p)) (by rw [fI_I, if_pos ⟨rfl, rfl⟩]) ?_
            refine e_goto 199 dX10_tower_195 (by decide) ?_
            refine e_istore_n (L1 := [some (.ref 89), some (.int (nI (h9 p))), some (.int (nI 1)), some (.int (nI p)), some (.int (nI (mbb S h9 p))), some (.int (nI (S 120)))]) dX10_tower_199 rfl (by decide) rfl ?_
            refine e_iinc (v := nI (p + 1)) (L1 := [some (.ref 89), some (.int (nI (h9 p))), some (.int (nI 1)), some (.int (nI (p + 1))), some (.int (nI (mbb S h9 p))), some (.int (nI (S 120)))]) dX10_tower_200 rfl (show nI p + Int32.ofInt 1 = nI (p + 1) from nI_add p 1) (by decide) rfl ?_
            refine e_goto 43 dX10_tower_203 (by decide) ?_
            have e1 : (if h9 p < mbb S h9 p then mbb S h9 p else h9 p) = h9 p := if_neg (by omega)
            have e2 : (if t < (h9 p) then (h9 p) else t) = h9 p := if_pos (by omega)
            have e3 : (m || decide (h9 p < mbb S h9 p)) = true := by first | (rw [c131]; rfl) | (rw [decide_eq_true (show h9 p < mbb S h9 p by omega), Bool.or_true])
            rw [show mps S (n + 1) p h9 m t = mps S n (p + 1) (mup h9 p (if h9 p < mbb S h9 p then mbb S h9 p else h9 p)) (m || decide (h9 p < mbb S h9 p)) (if t < (if h9 p < mbb S h9 p then mbb S h9 p else h9 p) then (if h9 p < mbb S h9 p then mbb S h9 p else h9 p) else t) from if_neg c65, e1, e2, e3] at h
            refine ih (p + 1) (mup h9 p (h9 p)) true (h9 p) (fsI σ 299 p (nI (h9 p))) _ _ (by omega) (Ms.sm (A := fHA) (fSm_I rfl)) (Mr.smm (A := fHA) (fSm_I rfl) hD (fun i h1 h2 => by unfold fHA; omega)) (fun q hq => ?_) (fun q hq => ?_) (by omega) (fun σ' o4 o5 Sm' => h σ' o4 o5 ((fSm_I (A := fHA) rfl).tr Sm'))
            · unfold mup; by_cases e : q = p
              · rw [fI_I, if_pos ⟨rfl, e⟩, if_pos e]
              · rw [fI_I, if_neg (by omega), if_neg e]; exact hh q hq
            · unfold mup; have := hb9 q hq; split <;> omega
        · rw [nI_le' (by omega) (by omega)] at c164
          refine e_iload dX10_tower_167 rfl ?_
          refine e_goto 178 dX10_tower_169 (by decide) ?_
          refine e_iastore p dX10_tower_178 (Ms.s 299 rfl) (Ms.n (by decide)) rfl (by omega) (by decide) ?_
          refine e_aload_n dX10_tower_179 rfl rfl ?_
          refine e_getR (q := 299) dX10_tower_180 fl_RX10_70 (Ms.s 89 rfl) (Ms.n (by decide)) rfl (Ms.r 89 35 rfl) (by unfold fscr; omega) ?_
          refine e_iload_n dX10_tower_183 rfl rfl ?_
          refine e_iaload p dX10_tower_184 (Ms.s 299 rfl) (Ms.n (by decide)) rfl (by omega) (by decide) ?_
          refine e_int (nI (mbb S h9 p)) (by rw [fI_I, if_pos ⟨rfl, rfl⟩]) ?_
          refine e_iload_n dX10_tower_185 rfl rfl ?_
          refine e_icmp_le 198 dX10_tower_186 (by decide) (fun c186 => ?_) (fun c186 => ?_)
          · rw [nI_le' (by omega) (by omega)] at c186
            refine e_iload_n dX10_tower_198 rfl rfl ?_
            refine e_istore_n (L1 := [some (.ref 89), some (.int (nI t)), some (.int (nI 1)), some (.int (nI p)), some (.int (nI (mbb S h9 p))), some (.int (nI (S 120)))]) dX10_tower_199 rfl (by decide) rfl ?_
            refine e_iinc (v := nI (p + 1)) (L1 := [some (.ref 89), some (.int (nI t)), some (.int (nI 1)), some (.int (nI (p + 1))), some (.int (nI (mbb S h9 p))), some (.int (nI (S 120)))]) dX10_tower_200 rfl (show nI p + Int32.ofInt 1 = nI (p + 1) from nI_add p 1) (by decide) rfl ?_
            refine e_goto 43 dX10_tower_203 (by decide) ?_
            have e1 : (if h9 p < mbb S h9 p then mbb S h9 p else h9 p) = mbb S h9 p := if_pos (by omega)
            have e2 : (if t < (mbb S h9 p) then (mbb S h9 p) else t) = t := if_neg (by omega)
            have e3 : (m || decide (h9 p < mbb S h9 p)) = true := by first | (rw [c131]; rfl) | (rw [decide_eq_true (show h9 p < mbb S h9 p by omega), Bool.or_true])
            rw [show mps S (n + 1) p h9 m t = mps S n (p + 1) (mup h9 p (if h9 p < mbb S h9 p then mbb S h9 p else h9 p)) (m || decide (h9 p < mbb S h9 p)) (if t < (if h9 p < mbb S h9 p then mbb S h9 p else h9 p) then (if h9 p < mbb S h9 p then mbb S h9 p else h9 p) else t) from if_neg c65, e1, e2, e3] at h
            refine ih (p + 1) (mup h9 p (mbb S h9 p)) true (t) (fsI σ 299 p (nI (mbb S h9 p))) _ _ (by omega) (Ms.sm (A := fHA) (fSm_I rfl)) (Mr.smm (A := fHA) (fSm_I rfl) hD (fun i h1 h2 => by unfold fHA; omega)) (fun q hq => ?_) (fun q hq => ?_) (by omega) (fun σ' o4 o5 Sm' => h σ' o4 o5 ((fSm_I (A := fHA) rfl).tr Sm'))
            · unfold mup; by_cases e : q = p
              · rw [fI_I, if_pos ⟨rfl, e⟩, if_pos e]
              · rw [fI_I, if_neg (by omega), if_neg e]; exact hh q hq
            · unfold mup; have := hb9 q hq; split <;> omega
          · rw [nI_le' (by omega) (by omega)] at c186
            refine e_aload_n dX10_tower_189 rfl rfl ?_
            refine e_getR (q := 299) dX10_tower_190 fl_RX10_70 (Ms.s 89 rfl) (Ms.n (by decide)) rfl (Ms.r 89 35 rfl) (by unfold fscr; omega) ?_
            refine e_iload_n dX10_tower_193 rfl rfl ?_
            refine e_iaload p dX10_tower_194 (Ms.s 299 rfl) (Ms.n (by decide)) rfl (by omega) (by decide) ?_
            refine e_int (nI (mbb S h9 p)) (by rw [fI_I, if_pos ⟨rfl, rfl⟩]) ?_
            refine e_goto 199 dX10_tower_195 (by decide) ?_
            refine e_istore_n (L1 := [some (.ref 89), some (.int (nI (mbb S h9 p))), some (.int (nI 1)), some (.int (nI p)), some (.int (nI (mbb S h9 p))), some (.int (nI (S 120)))]) dX10_tower_199 rfl (by decide) rfl ?_
            refine e_iinc (v := nI (p + 1)) (L1 := [some (.ref 89), some (.int (nI (mbb S h9 p))), some (.int (nI 1)), some (.int (nI (p + 1))), some (.int (nI (mbb S h9 p))), some (.int (nI (S 120)))]) dX10_tower_200 rfl (show nI p + Int32.ofInt 1 = nI (p + 1) from nI_add p 1) (by decide) rfl ?_
            refine e_goto 43 dX10_tower_203 (by decide) ?_
            have e1 : (if h9 p < mbb S h9 p then mbb S h9 p else h9 p) = mbb S h9 p := if_pos (by omega)
            have e2 : (if t < (mbb S h9 p) then (mbb S h9 p) else t) = mbb S h9 p := if_pos (by omega)
            have e3 : (m || decide (h9 p < mbb S h9 p)) = true := by first | (rw [c131]; rfl) | (rw [decide_eq_true (show h9 p < mbb S h9 p by omega), Bool.or_true])
            rw [show mps S (n + 1) p h9 m t = mps S n (p + 1) (mup h9 p (if h9 p < mbb S h9 p then mbb S h9 p else h9 p)) (m || decide (h9 p < mbb S h9 p)) (if t < (if h9 p < mbb S h9 p then mbb S h9 p else h9 p) then (if h9 p < mbb S h9 p then mbb S h9 p else h9 p) else t) from if_neg c65, e1, e2, e3] at h
            refine ih (p + 1) (mup h9 p (mbb S h9 p)) true (mbb S h9 p) (fsI σ 299 p (nI (mbb S h9 p))) _ _ (by omega) (Ms.sm (A := fHA) (fSm_I rfl)) (Mr.smm (A := fHA) (fSm_I rfl) hD (fun i h1 h2 => by unfold fHA; omega)) (fun q hq => ?_) (fun q hq => ?_) (by omega) (fun σ' o4 o5 Sm' => h σ' o4 o5 ((fSm_I (A := fHA) rfl).tr Sm'))
            · unfold mup; by_cases e : q = p
              · rw [fI_I, if_pos ⟨rfl, e⟩, if_pos e]
              · rw [fI_I, if_neg (by omega), if_neg e]; exact hh q hq
            · unfold mup; have := hb9 q hq; split <;> omega
      · have c131 := bn0 c131
        refine e_iload dX10_tower_134 rfl ?_
        refine e_aload_n dX10_tower_136 rfl rfl ?_
        refine e_getR (q := 299) dX10_tower_137 fl_RX10_70 (Ms.s 89 rfl) (Ms.n (by decide)) rfl (Ms.r 89 35 rfl) (by unfold fscr; omega) ?_
        refine e_iload_n dX10_tower_140 rfl rfl ?_
        refine e_iaload p dX10_tower_141 (Ms.s 299 rfl) (Ms.n (by decide)) rfl (by omega) (by decide) ?_
        refine e_int (nI (h9 p)) (hh p (by omega)) ?_
        refine e_icmp_le 149 dX10_tower_142 (by decide) (fun c142 => ?_) (fun c142 => ?_)
        · rw [nI_le' (by omega) (by omega)] at c142
          refine e_iconst (nI 0) dX10_tower_149 (by decide) ?_
          refine e_istore_n (L1 := [some (.ref 89), some (.int (nI t)), some (.int (nI 0)), some (.int (nI p)), some (.int (nI (mbb S h9 p))), some (.int (nI (S 120)))]) dX10_tower_150 rfl (by decide) rfl ?_
          refine e_aload_n dX10_tower_151 rfl rfl ?_
          refine e_getR (q := 299) dX10_tower_152 fl_RX10_70 (Ms.s 89 rfl) (Ms.n (by decide)) rfl (Ms.r 89 35 rfl) (by unfold fscr; omega) ?_
          refine e_iload_n dX10_tower_155 rfl rfl ?_
          refine e_iload dX10_tower_156 rfl ?_
          refine e_aload_n dX10_tower_158 rfl rfl ?_
          refine e_getR (q := 299) dX10_tower_159 fl_RX10_70 (Ms.s 89 rfl) (Ms.n (by decide)) rfl (Ms.r 89 35 rfl) (by unfold fscr; omega) ?_
          refine e_iload_n dX10_tower_162 rfl rfl ?_
          refine e_iaload p dX10_tower_163 (Ms.s 299 rfl) (Ms.n (by decide)) rfl (by omega) (by decide) ?_
          refine e_int (nI (h9 p)) (hh p (by omega)) ?_
          refine e_icmp_le 172 dX10_tower_164 (by decide) (fun c164 => ?_) (fun c164 => ?_)
          · rw [nI_le' (by omega) (by omega)] at c164
            refine e_aload_n dX10_tower_172 rfl rfl ?_
            refine e_getR (q := 299) dX10_tower_173 fl_RX10_70 (Ms.s 89 rfl) (Ms.n (by decide)) rfl (Ms.r 89 35 rfl) (by unfold fscr; omega) ?_
            refine e_iload_n dX10_tower_176 rfl rfl ?_
            refine e_iaload p dX10_tower_177 (Ms.s 299 rfl) (Ms.n (by decide)) rfl (by omega) (by decide) ?_
            refine e_int (nI (h9 p)) (hh p (by omega)) ?_
            refine e_iastore p dX10_tower_178 (Ms.s 299 rfl) (Ms.n (by decide)) rfl (by omega) (by decide) ?_
            refine e_aload_n dX10_tower_179 rfl rfl ?_
            refine e_getR (q := 299) dX10_tower_180 fl_RX10_70 (Ms.s 89 rfl) (Ms.n (by decide)) rfl (Ms.r 89 35 rfl) (by unfold fscr; omega) ?_
            refine e_iload_n dX10_tower_183 rfl rfl ?_
            refine e_iaload p dX10_tower_184 (Ms.s 299 rfl) (Ms.n (by decide)) rfl (by omega) (by decide) ?_
            refine e_int (nI (h9 p)) (by rw [fI_I, if_pos ⟨rfl, rfl⟩]) ?_
            refine e_iload_n dX10_tower_185 rfl rfl ?_
            refine e_icmp_le 198 dX10_tower_186 (by decide) (fun c186 => ?_) (fun c186 => ?_)
            · rw [nI_le' (by omega) (by omega)] at c186
              refine e_iload_n dX10_tower_198 rfl rfl ?_
              refine e_istore_n (L1 := [some (.ref 89), some (.int (nI t)), some (.int (nI 0)), some (.int (nI p)), some (.int (nI (mbb S h9 p))), some (.int (nI (S 120)))]) dX10_tower_199 rfl (by decide) rfl ?_
              refine e_iinc (v := nI (p + 1)) (L1 := [some (.ref 89), some (.int (nI t)), some (.int (nI 0)), some (.int (nI (p + 1))), some (.int (nI (mbb S h9 p))), some (.int (nI (S 120)))]) dX10_tower_200 rfl (show nI p + Int32.ofInt 1 = nI (p + 1) from nI_add p 1) (by decide) rfl ?_
              refine e_goto 43 dX10_tower_203 (by decide) ?_
              have e1 : (if h9 p < mbb S h9 p then mbb S h9 p else h9 p) = h9 p := if_neg (by omega)
              have e2 : (if t < (h9 p) then (h9 p) else t) = t := if_neg (by omega)
              have e3 : (m || decide (h9 p < mbb S h9 p)) = false := by rw [c131, decide_eq_false (by omega)]; rfl
              rw [show mps S (n + 1) p h9 m t = mps S n (p + 1) (mup h9 p (if h9 p < mbb S h9 p then mbb S h9 p else h9 p)) (m || decide (h9 p < mbb S h9 p)) (if t < (if h9 p < mbb S h9 p then mbb S h9 p else h9 p) then (if h9 p < mbb S h9 p then mbb S h9 p else h9 p) else t) from if_neg c65, e1, e2, e3] at h
              refine ih (p + 1) (mup h9 p (h9 p)) false (t) (fsI σ 299 p (nI (h9 p))) _ _ (by omega) (Ms.sm (A := fHA) (fSm_I rfl)) (Mr.smm (A := fHA) (fSm_I rfl) hD (fun i h1 h2 => by unfold fHA; omega)) (fun q hq => ?_) (fun q hq => ?_) (by omega) (fun σ' o4 o5 Sm' => h σ' o4 o5 ((fSm_I (A := fHA) rfl).tr Sm'))
              · unfold mup; by_cases e : q = p
                · rw [fI_I, if_pos ⟨rfl, e⟩, if_pos e]
                · rw [fI_I, if_neg (by omega), if_neg e]; exact hh q hq
              · unfold mup; have := hb9 q hq; split <;> omega
            · rw [nI_le' (by omega) (by omega)] at c186
              refine e_aload_n dX10_tower_189 rfl rfl ?_
              refine e_getR (q := 299) dX10_tower_190 fl_RX10_70 (Ms.s 89 rfl) (Ms.n (by decide)) rfl (Ms.r 89 35 rfl) (by unfold fscr; omega) ?_
              refine e_iload_n dX10_tower_193 rfl rfl ?_
              refine e_iaload p dX10_tower_194 (Ms.s 299 rfl) (Ms.n (by decide)) rfl (by omega) (by decide) ?_
              refine e_int (nI (h9 p)) (by rw [fI_I, if_pos ⟨rfl, rfl⟩]) ?_
              refine e_goto 199 dX10_tower_195 (by decide) ?_
              refine e_istore_n (L1 := [some (.ref 89), some (.int (nI (h9 p))), some (.int (nI 0)), some (.int (nI p)), some (.int (nI (mbb S h9 p))), some (.int (nI (S 120)))]) dX10_tower_199 rfl (by decide) rfl ?_
              refine e_iinc (v := nI (p + 1)) (L1 := [some (.ref 89), some (.int (nI (h9 p))), some (.int (nI 0)), some (.int (nI (p + 1))), some (.int (nI (mbb S h9 p))), some (.int (nI (S 120)))]) dX10_tower_200 rfl (show nI p + Int32.ofInt 1 = nI (p + 1) from nI_add p 1) (by decide) rfl ?_
              refine e_goto 43 dX10_tower_203 (by decide) ?_
              have e1 : (if h9 p < mbb S h9 p then mbb S h9 p else h9 p) = h9 p := if_neg (by omega)
              have e2 : (if t < (h9 p) then (h9 p) else t) = h9 p := if_pos (by omega)
              have e3 : (m || decide (h9 p < mbb S h9 p)) = false := by rw [c131, decide_eq_false (by omega)]; rfl
              rw [show mps S (n + 1) p h9 m t = mps S n (p + 1) (mup h9 p (if h9 p < mbb S h9 p then mbb S h9 p else h9 p)) (m || decide (h9 p < mbb S h9 p)) (if t < (if h9 p < mbb S h9 p then mbb S h9 p else h9 p) then (if h9 p < mbb S h9 p then mbb S h9 p else h9 p) else t) from if_neg c65, e1, e2, e3] at h
              refine ih (p + 1) (mup h9 p (h9 p)) false (h9 p) (fsI σ 299 p (nI (h9 p))) _ _ (by omega) (Ms.sm (A := fHA) (fSm_I rfl)) (Mr.smm (A := fHA) (fSm_I rfl) hD (fun i h1 h2 => by unfold fHA; omega)) (fun q hq => ?_) (fun q hq => ?_) (by omega) (fun σ' o4 o5 Sm' => h σ' o4 o5 ((fSm_I (A := fHA) rfl).tr Sm'))
              · unfold mup; by_cases e : q = p
                · rw [fI_I, if_pos ⟨rfl, e⟩, if_pos e]
                · rw [fI_I, if_neg (by omega), if_neg e]; exact hh q hq
              · unfold mup; have := hb9 q hq; split <;> omega
          · rw [nI_le' (by omega) (by omega)] at c164
            refine e_iload dX10_tower_167 rfl ?_
            refine e_goto 178 dX10_tower_169 (by decide) ?_
            refine e_iastore p dX10_tower_178 (Ms.s 299 rfl) (Ms.n (by decide)) rfl (by omega) (by decide) ?_
            refine e_aload_n dX10_tower_179 rfl rfl ?_
            refine e_getR (q := 299) dX10_tower_180 fl_RX10_70 (Ms.s 89 rfl) (Ms.n (by decide)) rfl (Ms.r 89 35 rfl) (by unfold fscr; omega) ?_
            refine e_iload_n dX10_tower_183 rfl rfl ?_
            refine e_iaload p dX10_tower_184 (Ms.s 299 rfl) (Ms.n (by decide)) rfl (by omega) (by decide) ?_
            refine e_int (nI (mbb S h9 p)) (by rw [fI_I, if_pos ⟨rfl, rfl⟩]) ?_
            refine e_iload_n dX10_tower_185 rfl rfl ?_
            refine e_icmp_le 198 dX10_tower_186 (by decide) (fun c186 => ?_) (fun c186 => ?_)
            · rw [nI_le' (by omega) (by omega)] at c186
              refine e_iload_n dX10_tower_198 rfl rfl ?_
              refine e_istore_n (L1 := [some (.ref 89), some (.int (nI t)), some (.int (nI 0)), some (.int (nI p)), some (.int (nI (mbb S h9 p))), some (.int (nI (S 120)))]) dX10_tower_199 rfl (by decide) rfl ?_
              refine e_iinc (v := nI (p + 1)) (L1 := [some (.ref 89), some (.int (nI t)), some (.int (nI 0)), some (.int (nI (p + 1))), some (.int (nI (mbb S h9 p))), some (.int (nI (S 120)))]) dX10_tower_200 rfl (show nI p + Int32.ofInt 1 = nI (p + 1) from nI_add p 1) (by decide) rfl ?_
              refine e_goto 43 dX10_tower_203 (by decide) ?_
              have e1 : (if h9 p < mbb S h9 p then mbb S h9 p else h9 p) = mbb S h9 p := if_pos (by omega)
              have e2 : (if t < (mbb S h9 p) then (mbb S h9 p) else t) = t := if_neg (by omega)
              have e3 : (m || decide (h9 p < mbb S h9 p)) = false := by rw [c131, decide_eq_false (by omega)]; rfl
              rw [show mps S (n + 1) p h9 m t = mps S n (p + 1) (mup h9 p (if h9 p < mbb S h9 p then mbb S h9 p else h9 p)) (m || decide (h9 p < mbb S h9 p)) (if t < (if h9 p < mbb S h9 p then mbb S h9 p else h9 p) then (if h9 p < mbb S h9 p then mbb S h9 p else h9 p) else t) from if_neg c65, e1, e2, e3] at h
              refine ih (p + 1) (mup h9 p (mbb S h9 p)) false (t) (fsI σ 299 p (nI (mbb S h9 p))) _ _ (by omega) (Ms.sm (A := fHA) (fSm_I rfl)) (Mr.smm (A := fHA) (fSm_I rfl) hD (fun i h1 h2 => by unfold fHA; omega)) (fun q hq => ?_) (fun q hq => ?_) (by omega) (fun σ' o4 o5 Sm' => h σ' o4 o5 ((fSm_I (A := fHA) rfl).tr Sm'))
              · unfold mup; by_cases e : q = p
                · rw [fI_I, if_pos ⟨rfl, e⟩, if_pos e]
                · rw [fI_I, if_neg (by omega), if_neg e]; exact hh q hq
              · unfold mup; have := hb9 q hq; split <;> omega
            · rw [nI_le' (by omega) (by omega)] at c186
              refine e_aload_n dX10_tower_189 rfl rfl ?_
              refine e_getR (q := 299) dX10_tower_190 fl_RX10_70 (Ms.s 89 rfl) (Ms.n (by decide)) rfl (Ms.r 89 35 rfl) (by unfold fscr; omega) ?_
              refine e_iload_n dX10_tower_193 rfl rfl ?_
              refine e_iaload p dX10_tower_194 (Ms.s 299 rfl) (Ms.n (by decide)) rfl (by omega) (by decide) ?_
              refine e_int (nI (mbb S h9 p)) (by rw [fI_I, if_pos ⟨rfl, rfl⟩]) ?_
              refine e_goto 199 dX10_tower_195 (by decide) ?_
              refine e_istore_n (L1 := [some (.ref 89), some (.int (nI (mbb S h9 p))), some (.int (nI 0)), some (.int (nI p)), some (.int (nI (mbb S h9 p))), some (.int (nI (S 120)))]) dX10_tower_199 rfl (by decide) rfl ?_
              refine e_iinc (v := nI (p + 1)) (L1 := [some (.ref 89), some (.int (nI (mbb S h9 p))), some (.int (nI 0)), some (.int (nI (p + 1))), some (.int (nI (mbb S h9 p))), some (.int (nI (S 120)))]) dX10_tower_200 rfl (show nI p + Int32.ofInt 1 = nI (p + 1) from nI_add p 1) (by decide) rfl ?_
              refine e_goto 43 dX10_tower_203 (by decide) ?_
              have e1 : (if h9 p < mbb S h9 p then mbb S h9 p else h9 p) = mbb S h9 p := if_pos (by omega)
              have e2 : (if t < (mbb S h9 p) then (mbb S h9 p) else t) = mbb S h9 p := if_pos (by omega)
              have e3 : (m || decide (h9 p < mbb S h9 p)) = false := by rw [c131, decide_eq_false (by omega)]; rfl
              rw [show mps S (n + 1) p h9 m t = mps S n (p + 1) (mup h9 p (if h9 p < mbb S h9 p then mbb S h9 p else h9 p)) (m || decide (h9 p < mbb S h9 p)) (if t < (if h9 p < mbb S h9 p then mbb S h9 p else h9 p) then (if h9 p < mbb S h9 p then mbb S h9 p else h9 p) else t) from if_neg c65, e1, e2, e3] at h
              refine ih (p + 1) (mup h9 p (mbb S h9 p)) false (mbb S h9 p) (fsI σ 299 p (nI (mbb S h9 p))) _ _ (by omega) (Ms.sm (A := fHA) (fSm_I rfl)) (Mr.smm (A := fHA) (fSm_I rfl) hD (fun i h1 h2 => by unfold fHA; omega)) (fun q hq => ?_) (fun q hq => ?_) (by omega) (fun σ' o4 o5 Sm' => h σ' o4 o5 ((fSm_I (A := fHA) rfl).tr Sm'))
              · unfold mup; by_cases e : q = p
                · rw [fI_I, if_pos ⟨rfl, e⟩, if_pos e]
                · rw [fI_I, if_neg (by omega), if_neg e]; exact hh q hq
              · unfold mup; have := hb9 q hq; split <;> omega
        · rw [nI_le' (by omega) (by omega)] at c142
          refine e_iconst (nI 1) dX10_tower_145 (by decide) ?_
          refine e_goto 150 dX10_tower_146 (by decide) ?_
          refine e_istore_n (L1 := [some (.ref 89), some (.int (nI t)), some (.int (nI 1)), some (.int (nI p)), some (.int (nI (mbb S h9 p))), some (.int (nI (S 120)))]) dX10_tower_150 rfl (by decide) rfl ?_
          refine e_aload_n dX10_tower_151 rfl rfl ?_
          refine e_getR (q := 299) dX10_tower_152 fl_RX10_70 (Ms.s 89 rfl) (Ms.n (by decide)) rfl (Ms.r 89 35 rfl) (by unfold fscr; omega) ?_
          refine e_iload_n dX10_tower_155 rfl rfl ?_
          refine e_iload dX10_tower_156 rfl ?_
          refine e_aload_n dX10_tower_158 rfl rfl ?_
          refine e_getR (q := 299) dX10_tower_159 fl_RX10_70 (Ms.s 89 rfl) (Ms.n (by decide)) rfl (Ms.r 89 35 rfl) (by unfold fscr; omega) ?_
          refine e_iload_n dX10_tower_162 rfl rfl ?_
          refine e_iaload p dX10_tower_163 (Ms.s 299 rfl) (Ms.n (by decide)) rfl (by omega) (by decide) ?_
          refine e_int (nI (h9 p)) (hh p (by omega)) ?_
          refine e_icmp_le 172 dX10_tower_164 (by decide) (fun c164 => ?_) (fun c164 => ?_)
          · rw [nI_le' (by omega) (by omega)] at c164
            refine e_aload_n dX10_tower_172 rfl rfl ?_
            refine e_getR (q := 299) dX10_tower_173 fl_RX10_70 (Ms.s 89 rfl) (Ms.n (by decide)) rfl (Ms.r 89 35 rfl) (by unfold fscr; omega) ?_
            refine e_iload_n dX10_tower_176 rfl rfl ?_
            refine e_iaload p dX10_tower_177 (Ms.s 299 rfl) (Ms.n (by decide)) rfl (by omega) (by decide) ?_
            refine e_int (nI (h9 p)) (hh p (by omega)) ?_
            refine e_iastore p dX10_tower_178 (Ms.s 299 rfl) (Ms.n (by decide)) rfl (by omega) (by decide) ?_
            refine e_aload_n dX10_tower_179 rfl rfl ?_
            refine e_getR (q := 299) dX10_tower_180 fl_RX10_70 (Ms.s 89 rfl) (Ms.n (by decide)) rfl (Ms.r 89 35 rfl) (by unfold fscr; omega) ?_
            refine e_iload_n dX10_tower_183 rfl rfl ?_
            refine e_iaload p dX10_tower_184 (Ms.s 299 rfl) (Ms.n (by decide)) rfl (by omega) (by decide) ?_
            refine e_int (nI (h9 p)) (by rw [fI_I, if_pos ⟨rfl, rfl⟩]) ?_
            refine e_iload_n dX10_tower_185 rfl rfl ?_
            refine e_icmp_le 198 dX10_tower_186 (by decide) (fun c186 => ?_) (fun c186 => ?_)
            · rw [nI_le' (by omega) (by omega)] at c186
              refine e_iload_n dX10_tower_198 rfl rfl ?_
              refine e_istore_n (L1 := [some (.ref 89), some (.int (nI t)), some (.int (nI 1)), some (.int (nI p)), some (.int (nI (mbb S h9 p))), some (.int (nI (S 120)))]) dX10_tower_199 rfl (by decide) rfl ?_
              refine e_iinc (v := nI (p + 1)) (L1 := [some (.ref 89), some (.int (nI t)), some (.int (nI 1)), some (.int (nI (p + 1))), some (.int (nI (mbb S h9 p))), some (.int (nI (S 120)))]) dX10_tower_200 rfl (show nI p + Int32.ofInt 1 = nI (p + 1) from nI_add p 1) (by decide) rfl ?_
              refine e_goto 43 dX10_tower_203 (by decide) ?_
              have e1 : (if h9 p < mbb S h9 p then mbb S h9 p else h9 p) = h9 p := if_neg (by omega)
              have e2 : (if t < (h9 p) then (h9 p) else t) = t := if_neg (by omega)
              have e3 : (m || decide (h9 p < mbb S h9 p)) = true := by first | (rw [c131]; rfl) | (rw [decide_eq_true (show h9 p < mbb S h9 p by omega), Bool.or_true])
              rw [show mps S (n + 1) p h9 m t = mps S n (p + 1) (mup h9 p (if h9 p < mbb S h9 p then mbb S h9 p else h9 p)) (m || decide (h9 p < mbb S h9 p)) (if t < (if h9 p < mbb S h9 p then mbb S h9 p else h9 p) then (if h9 p < mbb S h9 p then mbb S h9 p else h9 p) else t) from if_neg c65, e1, e2, e3] at h
              refine ih (p + 1) (mup h9 p (h9 p)) true (t) (fsI σ 299 p (nI (h9 p))) _ _ (by omega) (Ms.sm (A := fHA) (fSm_I rfl)) (Mr.smm (A := fHA) (fSm_I rfl) hD (fun i h1 h2 => by unfold fHA; omega)) (fun q hq => ?_) (fun q hq => ?_) (by omega) (fun σ' o4 o5 Sm' => h σ' o4 o5 ((fSm_I (A := fHA) rfl).tr Sm'))
              · unfold mup; by_cases e : q = p
                · rw [fI_I, if_pos ⟨rfl, e⟩, if_pos e]
                · rw [fI_I, if_neg (by omega), if_neg e]; exact hh q hq
              · unfold mup; have := hb9 q hq; split <;> omega
            · rw [nI_le' (by omega) (by omega)] at c186
              refine e_aload_n dX10_tower_189 rfl rfl ?_
              refine e_getR (q := 299) dX10_tower_190 fl_RX10_70 (Ms.s 89 rfl) (Ms.n (by decide)) rfl (Ms.r 89 35 rfl) (by unfold fscr; omega) ?_
              refine e_iload_n dX10_tower_193 rfl rfl ?_
              refine e_iaload p dX10_tower_194 (Ms.s 299 rfl) (Ms.n (by decide)) rfl (by omega) (by decide) ?_
              refine e_int (nI (h9 p)) (by rw [fI_I, if_pos ⟨rfl, rfl⟩]) ?_
              refine e_goto 199 dX10_tower_195 (by decide) ?_
              refine e_istore_n (L1 := [some (.ref 89), some (.int (nI (h9 p))), some (.int (nI 1)), some (.int (nI p)), some (.int (nI (mbb S h9 p))), some (.int (nI (S 120)))]) dX10_tower_199 rfl (by decide) rfl ?_
              refine e_iinc (v := nI (p + 1)) (L1 := [some (.ref 89), some (.int (nI (h9 p))), some (.int (nI 1)), some (.int (nI (p + 1))), some (.int (nI (mbb S h9 p))), some (.int (nI (S 120)))]) dX10_tower_200 rfl (show nI p + Int32.ofInt 1 = nI (p + 1) from nI_add p 1) (by decide) rfl ?_
              refine e_goto 43 dX10_tower_203 (by decide) ?_
              have e1 : (if h9 p < mbb S h9 p then mbb S h9 p else h9 p) = h9 p := if_neg (by omega)
              have e2 : (if t < (h9 p) then (h9 p) else t) = h9 p := if_pos (by omega)
              have e3 : (m || decide (h9 p < mbb S h9 p)) = true := by first | (rw [c131]; rfl) | (rw [decide_eq_true (show h9 p < mbb S h9 p by omega), Bool.or_true])
              rw [show mps S (n + 1) p h9 m t = mps S n (p + 1) (mup h9 p (if h9 p < mbb S h9 p then mbb S h9 p else h9 p)) (m || decide (h9 p < mbb S h9 p)) (if t < (if h9 p < mbb S h9 p then mbb S h9 p else h9 p) then (if h9 p < mbb S h9 p then mbb S h9 p else h9 p) else t) from if_neg c65, e1, e2, e3] at h
              refine ih (p + 1) (mup h9 p (h9 p)) true (h9 p) (fsI σ 299 p (nI (h9 p))) _ _ (by omega) (Ms.sm (A := fHA) (fSm_I rfl)) (Mr.smm (A := fHA) (fSm_I rfl) hD (fun i h1 h2 => by unfold fHA; omega)) (fun q hq => ?_) (fun q hq => ?_) (by omega) (fun σ' o4 o5 Sm' => h σ' o4 o5 ((fSm_I (A := fHA) rfl).tr Sm'))
              · unfold mup; by_cases e : q = p
                · rw [fI_I, if_pos ⟨rfl, e⟩, if_pos e]
                · rw [fI_I, if_neg (by omega), if_neg e]; exact hh q hq
              · unfold mup; have := hb9 q hq; split <;> omega
          · rw [nI_le' (by omega) (by omega)] at c164
            refine e_iload dX10_tower_167 rfl ?_
            refine e_goto 178 dX10_tower_169 (by decide) ?_
            refine e_iastore p dX10_tower_178 (Ms.s 299 rfl) (Ms.n (by decide)) rfl (by omega) (by decide) ?_
            refine e_aload_n dX10_tower_179 rfl rfl ?_
            refine e_getR (q := 299) dX10_tower_180 fl_RX10_70 (Ms.s 89 rfl) (Ms.n (by decide)) rfl (Ms.r 89 35 rfl) (by unfold fscr; omega) ?_
            refine e_iload_n dX10_tower_183 rfl rfl ?_
            refine e_iaload p dX10_tower_184 (Ms.s 299 rfl) (Ms.n (by decide)) rfl (by omega) (by decide) ?_
            refine e_int (nI (mbb S h9 p)) (by rw [fI_I, if_pos ⟨rfl, rfl⟩]) ?_
            refine e_iload_n dX10_tower_185 rfl rfl ?_
            refine e_icmp_le 198 dX10_tower_186 (by decide) (fun c186 => ?_) (fun c186 => ?_)
            · rw [nI_le' (by omega) (by omega)] at c186
              refine e_iload_n dX10_tower_198 rfl rfl ?_
              refine e_istore_n (L1 := [some (.ref 89), some (.int (nI t)), some (.int (nI 1)), some (.int (nI p)), some (.int (nI (mbb S h9 p))), some (.int (nI (S 120)))]) dX10_tower_199 rfl (by decide) rfl ?_
              refine e_iinc (v := nI (p + 1)) (L1 := [some (.ref 89), some (.int (nI t)), some (.int (nI 1)), some (.int (nI (p + 1))), some (.int (nI (mbb S h9 p))), some (.int (nI (S 120)))]) dX10_tower_200 rfl (show nI p + Int32.ofInt 1 = nI (p + 1) from nI_add p 1) (by decide) rfl ?_
              refine e_goto 43 dX10_tower_203 (by decide) ?_
              have e1 : (if h9 p < mbb S h9 p then mbb S h9 p else h9 p) = mbb S h9 p := if_pos (by omega)
              have e2 : (if t < (mbb S h9 p) then (mbb S h9 p) else t) = t := if_neg (by omega)
              have e3 : (m || decide (h9 p < mbb S h9 p)) = true := by first | (rw [c131]; rfl) | (rw [decide_eq_true (show h9 p < mbb S h9 p by omega), Bool.or_true])
              rw [show mps S (n + 1) p h9 m t = mps S n (p + 1) (mup h9 p (if h9 p < mbb S h9 p then mbb S h9 p else h9 p)) (m || decide (h9 p < mbb S h9 p)) (if t < (if h9 p < mbb S h9 p then mbb S h9 p else h9 p) then (if h9 p < mbb S h9 p then mbb S h9 p else h9 p) else t) from if_neg c65, e1, e2, e3] at h
              refine ih (p + 1) (mup h9 p (mbb S h9 p)) true (t) (fsI σ 299 p (nI (mbb S h9 p))) _ _ (by omega) (Ms.sm (A := fHA) (fSm_I rfl)) (Mr.smm (A := fHA) (fSm_I rfl) hD (fun i h1 h2 => by unfold fHA; omega)) (fun q hq => ?_) (fun q hq => ?_) (by omega) (fun σ' o4 o5 Sm' => h σ' o4 o5 ((fSm_I (A := fHA) rfl).tr Sm'))
              · unfold mup; by_cases e : q = p
                · rw [fI_I, if_pos ⟨rfl, e⟩, if_pos e]
                · rw [fI_I, if_neg (by omega), if_neg e]; exact hh q hq
              · unfold mup; have := hb9 q hq; split <;> omega
            · rw [nI_le' (by omega) (by omega)] at c186
              refine e_aload_n dX10_tower_189 rfl rfl ?_
              refine e_getR (q := 299) dX10_tower_190 fl_RX10_70 (Ms.s 89 rfl) (Ms.n (by decide)) rfl (Ms.r 89 35 rfl) (by unfold fscr; omega) ?_
              refine e_iload_n dX10_tower_193 rfl rfl ?_
              refine e_iaload p dX10_tower_194 (Ms.s 299 rfl) (Ms.n (by decide)) rfl (by omega) (by decide) ?_
              refine e_int (nI (mbb S h9 p)) (by rw [fI_I, if_pos ⟨rfl, rfl⟩]) ?_
              refine e_goto 199 dX10_tower_195 (by decide) ?_
              refine e_istore_n (L1 := [some (.ref 89), some (.int (nI (mbb S h9 p))), some (.int (nI 1)), some (.int (nI p)), some (.int (nI (mbb S h9 p))), some (.int (nI (S 120)))]) dX10_tower_199 rfl (by decide) rfl ?_
              refine e_iinc (v := nI (p + 1)) (L1 := [some (.ref 89), some (.int (nI (mbb S h9 p))), some (.int (nI 1)), some (.int (nI (p + 1))), some (.int (nI (mbb S h9 p))), some (.int (nI (S 120)))]) dX10_tower_200 rfl (show nI p + Int32.ofInt 1 = nI (p + 1) from nI_add p 1) (by decide) rfl ?_
              refine e_goto 43 dX10_tower_203 (by decide) ?_
              have e1 : (if h9 p < mbb S h9 p then mbb S h9 p else h9 p) = mbb S h9 p := if_pos (by omega)
              have e2 : (if t < (mbb S h9 p) then (mbb S h9 p) else t) = mbb S h9 p := if_pos (by omega)
              have e3 : (m || decide (h9 p < mbb S h9 p)) = true := by first | (rw [c131]; rfl) | (rw [decide_eq_true (show h9 p < mbb S h9 p by omega), Bool.or_true])
              rw [show mps S (n + 1) p h9 m t = mps S n (p + 1) (mup h9 p (if h9 p < mbb S h9 p then mbb S h9 p else h9 p)) (m || decide (h9 p < mbb S h9 p)) (if t < (if h9 p < mbb S h9 p then mbb S h9 p else h9 p) then (if h9 p < mbb S h9 p then mbb S h9 p else h9 p) else t) from if_neg c65, e1, e2, e3] at h
              refine ih (p + 1) (mup h9 p (mbb S h9 p)) true (mbb S h9 p) (fsI σ 299 p (nI (mbb S h9 p))) _ _ (by omega) (Ms.sm (A := fHA) (fSm_I rfl)) (Mr.smm (A := fHA) (fSm_I rfl) hD (fun i h1 h2 => by unfold fHA; omega)) (fun q hq => ?_) (fun q hq => ?_) (by omega) (fun σ' o4 o5 Sm' => h σ' o4 o5 ((fSm_I (A := fHA) rfl).tr Sm'))
              · unfold mup; by_cases e : q = p
                · rw [fI_I, if_pos ⟨rfl, e⟩, if_pos e]
                · rw [fI_I, if_neg (by omega), if_neg e]; exact hh q hq
              · unfold mup; have := hb9 q hq; split <;> omega
    · rw [nI_z (by omega)] at c65
      refine e_goto 200 dX10_tower_68 (by decide) ?_
      refine e_iinc (v := nI (p + 1)) (L1 := [some (.ref 89), some (.int (nI t)), some (.int (nI (bn m))), some (.int (nI (p + 1))), o4, o5]) dX10_tower_200 rfl (show nI p + Int32.ofInt 1 = nI (p + 1) from nI_add p 1) (by decide) rfl ?_
      refine e_goto 43 dX10_tower_203 (by decide) ?_
      rw [show mps S (n + 1) p h9 m t = mps S n (p + 1) h9 m t from if_pos c65] at h
      exact ih (p + 1) h9 m t σ _ _ (by omega) Ms Mr hh (fun q hq => by have := hb9 q hq; omega) (by omega) h
set_option maxRecDepth 20000 in
theorem l_X10_tw35 {g : fGP} {d : Nat} {Q : fRes → fAH → Prop} {D : fSD} {S : Nat → Nat} {sd : Int32} (hD : fWD D) (hW : fWS D S) : ∀ (k : Nat) (h9 : Nat → Nat) (t : Nat) (σ : fAH) (o3 o4 o5 : Option Value), mI S h9 t → t ≤ 19 → 400 ≤ msum h9 (S 120) + k → fMs g σ → fMr σ D S sd → (∀ q, q < S 120 → fI σ 299 q = nI (h9 q)) → (∀ σ' R, fSm fHA σ σ' → mTop S R → R ≤ 19 → Q (.inl (some (.int (nI R)))) σ') → fEv g (d + 2) mX10_tower 35 [some (.ref 89), some (.int (nI t)), some (.int (nI 1)), o3, o4, o5] [] σ Q := by
  intro k
  induction k with
  | zero =>
    intro h9 t σ o3 o4 o5 hI ht hk Ms Mr hh h
    have np := hW.n hD
    have a := msum_b (f := h9) (B := 19) (S 120) (fun q hq => mI_b hI hq np)
    have b : S 120 * 19 ≤ 18 * 19 := Nat.mul_le_mul np (Nat.le_refl _)
    exact absurd hk (by omega)
  | succ k ih =>
    intro h9 t σ o3 o4 o5 hI ht hk Ms Mr hh h
    have np := hW.n hD
    refine e_iload_n dX10_tower_35 rfl rfl ?_
    refine e_if_eq 209 dX10_tower_36 (by decide) (fun c => absurd c (by decide)) (fun _ => ?_)
    refine e_iconst (nI 0) dX10_tower_39 (by decide) ?_
    refine e_istore_n (L1 := [some (.ref 89), some (.int (nI t)), some (.int (nI 0)), o3, o4, o5]) dX10_tower_40 rfl (by decide) rfl ?_
    refine e_iconst (nI 0) dX10_tower_41 (by decide) ?_
    refine e_istore_n (L1 := [some (.ref 89), some (.int (nI t)), some (.int (nI 0)), some (.int (nI 0)), o4, o5]) dX10_tower_42 rfl (by decide) rfl ?_
    refine l_X10_tw43 hD hW (S 120) 0 h9 false t σ _ _ (by omega) Ms Mr hh (fun q hq => by have := mI_b hI hq np; omega) (by omega) (fun σ' o4 o5 Sm' hh' => ?_)
    obtain ⟨a, b, c, d9⟩ := mps_I (fun p hp => (hW.2.1 p hp).2.2.2.2.2) (S 120) 0 h9 false t (by omega) hI
    have Ms' := Ms.sm Sm'
    have Mr' := Mr.smm Sm' hD (fun i h1 h2 => by unfold fHA; omega)
    have ht2 : (mps S (S 120) 0 h9 false t).2.2 ≤ 19 := by
      rcases mps_t (S := S) (S 120) 0 h9 false t (by omega) with e | ⟨q, h1, h2⟩
      · omega
      · have := mI_b a h1 np
        omega
    cases hm : (mps S (S 120) 0 h9 false t).2.1
    · refine e_iload_n dX10_tower_35 rfl rfl ?_
      refine e_if_eq 209 dX10_tower_36 (by decide) (fun _ => ?_) (fun c => absurd c (by decide))
      refine e_iload_n dX10_tower_209 rfl rfl ?_
      obtain ⟨c1, c2, c3⟩ := c hm
      rw [c2] at a
      refine e_ireturn .int dX10_tower_210 rfl rfl (h σ' _ Sm' ⟨fun l hl => ?_, a.2.1⟩ ht2)
      cases l with
      | nil => exact hl.elim
      | cons p l =>
        have f := mfix (fun q hq => c3 q (by omega) hq) l p hl
        have := (a.2.2 p hl.1.1).1
        omega
    · rcases d9 hm with d9 | ⟨q, h1, h2⟩
      · cases d9
      · have := msum_up1 h2 (S 120) b h1
        exact ih _ _ σ' _ _ _ a ht2 (by omega) Ms' Mr' hh' (fun σ2 R Sm2 => h σ2 R (Sm'.tr Sm2))
set_option maxRecDepth 20000 in
theorem l_X10_tw9 {g : fGP} {d : Nat} {Q : fRes → fAH → Prop} {D : fSD} {S : Nat → Nat} {sd : Int32} (hD : fWD D) (hW : fWS D S) : ∀ (n i : Nat) (σ : fAH), i + n = S 120 → fMs g σ → fMr σ D S sd → (∀ q, q < i → fI σ 299 q = nI 0) → (∀ σ' R, fSm fHA σ σ' → mTop S R → R ≤ 19 → Q (.inl (some (.int (nI R)))) σ') → fEv g (d + 2) mX10_tower 9 [some (.ref 89), some (.int (nI 0)), some (.int (nI i)), none, none, none] [] σ Q := by
  intro n
  induction n with
  | zero =>
    intro i σ hin Ms Mr hh h
    have np := hW.n hD
    refine e_iload_n dX10_tower_9 rfl rfl ?_
    refine e_aload_n dX10_tower_10 rfl rfl ?_
    refine e_getR (q := 197) dX10_tower_11 fl_RX10_49 (Ms.s 89 rfl) (Ms.n (by decide)) rfl (Ms.r 89 19 rfl) (by unfold fscr; omega) ?_
    refine e_bipush (nI 120) dX10_tower_14 (by decide) ?_
    refine e_iaload 120 dX10_tower_16 (Ms.s 197 rfl) (Ms.n (by decide)) rfl (by omega) (by decide) ?_
    refine e_int (nI (S 120)) (Mr.s 120 (by omega)) ?_
    refine e_icmp_ge 33 dX10_tower_17 (by decide) (fun cz => ?_) (fun cz => absurd ((nI_le' (by omega) (by omega)).mpr (by omega)) cz)
    refine e_iconst (nI 1) dX10_tower_33 (by decide) ?_
    refine e_istore_n (L1 := [some (.ref 89), some (.int (nI 0)), some (.int (nI 1)), none, none, none]) dX10_tower_34 rfl (by decide) rfl ?_
    exact l_X10_tw35 hD hW 400 (fun _ => 0) 0 σ _ _ _ ⟨fun p hp => Or.inl rfl, Or.inl rfl, fun p hp => ⟨Nat.le_refl _, Nat.zero_le _⟩⟩ (by omega) (Nat.le_add_left _ _) Ms Mr (fun q hq => hh q (by omega)) h
  | succ n ih =>
    intro i σ hin Ms Mr hh h
    have np := hW.n hD
    have hi : i < S 120 := by omega
    refine e_iload_n dX10_tower_9 rfl rfl ?_
    refine e_aload_n dX10_tower_10 rfl rfl ?_
    refine e_getR (q := 197) dX10_tower_11 fl_RX10_49 (Ms.s 89 rfl) (Ms.n (by decide)) rfl (Ms.r 89 19 rfl) (by unfold fscr; omega) ?_
    refine e_bipush (nI 120) dX10_tower_14 (by decide) ?_
    refine e_iaload 120 dX10_tower_16 (Ms.s 197 rfl) (Ms.n (by decide)) rfl (by omega) (by decide) ?_
    refine e_int (nI (S 120)) (Mr.s 120 (by omega)) ?_
    refine e_icmp_ge 33 dX10_tower_17 (by decide) (fun cz => absurd ((nI_le' (by omega) (by omega)).mp cz) (by omega)) (fun cz => ?_)
    refine e_aload_n dX10_tower_20 rfl rfl ?_
    refine e_getR (q := 299) dX10_tower_21 fl_RX10_70 (Ms.s 89 rfl) (Ms.n (by decide)) rfl (Ms.r 89 35 rfl) (by unfold fscr; omega) ?_
    refine e_iload_n dX10_tower_24 rfl rfl ?_
    refine e_iconst (nI 0) dX10_tower_25 (by decide) ?_
    refine e_iastore i dX10_tower_26 (Ms.s 299 rfl) (Ms.n (by decide)) rfl (by omega) (by decide) ?_
    refine e_iinc (v := nI (i + 1)) (L1 := [some (.ref 89), some (.int (nI 0)), some (.int (nI (i + 1))), none, none, none]) dX10_tower_27 rfl (show nI i + Int32.ofInt 1 = nI (i + 1) from nI_add i 1) (by decide) rfl ?_
    refine e_goto 9 dX10_tower_30 (by decide) ?_
    refine ih (i + 1) (fsI σ 299 i (nI 0)) (by omega) (Ms.sm (A := fHA) (fSm_I rfl)) (Mr.smm (A := fHA) (fSm_I rfl) hD (fun i h1 h2 => by unfold fHA; omega)) (fun q hq => ?_) (fun σ' R Sm' => h σ' R ((fSm_I (A := fHA) rfl).tr Sm'))
    by_cases e : q = i
    · rw [fI_I, if_pos ⟨rfl, e⟩]
    · rw [fI_I, if_neg (by omega)]; exact hh q (by omega)
