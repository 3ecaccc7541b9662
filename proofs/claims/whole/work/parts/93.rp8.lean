theorem mdone_e {D : fSD} {S : Nat → Nat} {o : Nat} (h : S (145 + o) ≤ dO D o 2) : mdone D S o = decide (S (145 + o) = dO D o 2) := by
  unfold mdone
  by_cases e : S (145 + o) = dO D o 2
  · rw [decide_eq_true e, decide_eq_true (by omega)]
  · rw [decide_eq_false e, decide_eq_false (by omega)]
set_option maxRecDepth 20000 in
theorem l_X10_wd85 {g : fGP} {d : Nat} {σ : fAH} {Q : fRes → fAH → Prop} {D : fSD} {S : Nat → Nat} {sd : Int32} {o1 o3 o4 o5 o6 : Option Value} {z7 : Int32} (Ms : fMs g σ) (Mr : fMr σ D S sd) (hD : fWD D) (hW : fWS D S) : ∀ (n i : Nat) (c : Nat), i + n = dT D 2 → fEv g d mX10_would 140 [some (.ref 89), o1, some (.int (nI 4)), o3, o4, o5, o6, some (.int z7), some (.int (nI (c + mct (mdone D S) n i))), some (.int (nI (dT D 2)))] [] σ Q → fEv g (d) mX10_would 85 [some (.ref 89), o1, some (.int (nI 4)), o3, o4, o5, o6, some (.int z7), some (.int (nI c)), some (.int (nI i))] [] σ Q := by
  obtain ⟨t0, t1, t2, t3, t4, t5, t6⟩ := id hD.1
  intro n
  induction n with
  | zero =>
    intro i c hin  h
    refine e_iload dX10_would_85 rfl ?_
    refine e_aload_n dX10_would_87 rfl rfl ?_
    refine e_getR (q := 92) dX10_would_88 fl_RX10_20 (Ms.s 89 rfl) (Ms.n (by decide)) rfl (Ms.r 89 10 rfl) (by unfold fscr; omega) ?_
    refine e_iconst (nI 2) dX10_would_91 (by decide) ?_
    refine e_iaload 2 dX10_would_92 (Ms.s 92 rfl) (Ms.n (by decide)) rfl (by omega) (by decide) ?_
    refine e_int (nI (dT D 2)) (Mr.t 2 (by omega)) ?_
    refine e_icmp_ge 140 dX10_would_93 (by decide) (fun cz => ?_) (fun cz => absurd ((nI_le' (by omega) (by omega)).mpr (by omega)) cz)
    rw [show i = dT D 2 by omega] at h ⊢
    exact h
  | succ n ih =>
    intro i c hin  h
    have hi : i < dT D 2 := by omega
    have od := hD.2.2.2.1 i hi
    have ow := hW.2.2.2.1 i hi
    refine e_iload dX10_would_85 rfl ?_
    refine e_aload_n dX10_would_87 rfl rfl ?_
    refine e_getR (q := 92) dX10_would_88 fl_RX10_20 (Ms.s 89 rfl) (Ms.n (by decide)) rfl (Ms.r 89 10 rfl) (by unfold fscr; omega) ?_
    refine e_iconst (nI 2) dX10_would_91 (by decide) ?_
    refine e_iaload 2 dX10_would_92 (Ms.s 92 rfl) (Ms.n (by decide)) rfl (by omega) (by decide) ?_
    refine e_int (nI (dT D 2)) (Mr.t 2 (by omega)) ?_
    refine e_icmp_ge 140 dX10_would_93 (by decide) (fun cz => absurd ((nI_le' (by omega) (by omega)).mp cz) (by omega)) (fun cz => ?_)
    refine e_iload_n dX10_would_96 rfl rfl ?_
    refine e_iconst (nI 4) dX10_would_97 (by decide) ?_
    refine e_icmp_ne 140 dX10_would_98 (by decide) (fun c => absurd c (by decide)) (fun _ => ?_)
    refine e_iload dX10_would_101 rfl ?_
    refine e_aload_n dX10_would_103 rfl rfl ?_
    refine e_getR (q := 197) dX10_would_104 fl_RX10_49 (Ms.s 89 rfl) (Ms.n (by decide)) rfl (Ms.r 89 19 rfl) (by unfold fscr; omega) ?_
    refine e_sipush (nI 145) dX10_would_107 (by decide) ?_
    refine e_iload dX10_would_110 rfl ?_
    refine e_iadd dX10_would_112 ?_
    refine e_int (nI (145 + i)) (nI_add 145 i) ?_
    refine e_iaload (145 + i) dX10_would_113 (Ms.s 197 rfl) (Ms.n (by decide)) rfl (by omega) (by decide) ?_
    refine e_int (nI (S (145 + i))) (Mr.s (145 + i) (by omega)) ?_
    refine e_aload_n dX10_would_114 rfl rfl ?_
    refine e_getR (q := 140) dX10_would_115 fl_RX10_40 (Ms.s 89 rfl) (Ms.n (by decide)) rfl (Ms.r 89 16 rfl) (by unfold fscr; omega) ?_
    refine e_iload dX10_would_118 rfl ?_
    refine e_aaload (q := 141 + i) i dX10_would_120 (Ms.s 140 rfl) (by decide) (Ms.n (by decide)) rfl (by omega) (by decide) (Ms.r 140 _ (frf_order _ (by omega))) (by unfold fscr; omega) ?_
    refine e_iconst (nI 2) dX10_would_121 (by decide) ?_
    refine e_iaload 2 dX10_would_122 (Ms.s _ (fsh_order _ (by omega))) (Ms.n (by omega)) rfl (by omega) (by decide) ?_
    refine e_int (nI (dO D i 2)) (Mr.order i (by omega) 2 (by omega)) ?_
    refine e_icmp_ne 130 dX10_would_123 (by decide) (fun c123 => ?_) (fun c123 => ?_)
    · rw [nI_inj (by omega) (by omega)] at c123
      refine e_iconst (nI 0) dX10_would_130 (by decide) ?_
      refine e_iadd dX10_would_131 ?_
      refine e_int (nI c) (nI_add c 0) ?_
      refine e_istore (L1 := [some (.ref 89), o1, some (.int (nI 4)), o3, o4, o5, o6, some (.int z7), some (.int (nI c)), some (.int (nI i))]) dX10_would_132 (by decide) rfl ?_
      refine e_iinc (v := nI (i + 1)) (L1 := [some (.ref 89), o1, some (.int (nI 4)), o3, o4, o5, o6, some (.int z7), some (.int (nI c)), some (.int (nI (i + 1)))]) dX10_would_134 rfl (show nI i + Int32.ofInt 1 = nI (i + 1) from nI_add i 1) (by decide) rfl ?_
      refine e_goto 85 dX10_would_137 (by decide) ?_
      refine ih (i + 1) (c) (by omega) ?_
      rw [show mct (mdone D S) (n + 1) i = bn (mdone D S i) + mct (mdone D S) n (i + 1) from rfl, mdone_e (hW.2.2.2.1 i hi), decide_eq_false c123, ← Nat.add_assoc] at h
      exact h
    · rw [nI_inj (by omega) (by omega)] at c123
      refine e_iconst (nI 1) dX10_would_126 (by decide) ?_
      refine e_goto 131 dX10_would_127 (by decide) ?_
      refine e_iadd dX10_would_131 ?_
      refine e_int (nI (c + 1)) (nI_add c 1) ?_
      refine e_istore (L1 := [some (.ref 89), o1, some (.int (nI 4)), o3, o4, o5, o6, some (.int z7), some (.int (nI (c + 1))), some (.int (nI i))]) dX10_would_132 (by decide) rfl ?_
      refine e_iinc (v := nI (i + 1)) (L1 := [some (.ref 89), o1, some (.int (nI 4)), o3, o4, o5, o6, some (.int z7), some (.int (nI (c + 1))), some (.int (nI (i + 1)))]) dX10_would_134 rfl (show nI i + Int32.ofInt 1 = nI (i + 1) from nI_add i 1) (by decide) rfl ?_
      refine e_goto 85 dX10_would_137 (by decide) ?_
      refine ih (i + 1) (c + 1) (by omega) ?_
      rw [show mct (mdone D S) (n + 1) i = bn (mdone D S i) + mct (mdone D S) n (i + 1) from rfl, mdone_e (hW.2.2.2.1 i hi), decide_eq_true c123, ← Nat.add_assoc] at h
      exact h
set_option maxRecDepth 20000 in
theorem lp_X10_would {g : fGP} {d : Nat} {σ : fAH} {Q : fRes → fAH → Prop} {x : fXS} {a : Int32} {w : Nat}  (Ms : fMs g σ) (ok : fOK x) (Ir : fIr σ x) (hz : fI σ 89 0 = nI 0) (hw : w < 6) (h : ∀ σ', fSm fRfA σ σ' → fIr σ' x → fI σ' 89 0 = nI 0 → Q (.inl (some (.int (vWould (xD x) (iS (xI x)) (mplan (xD x) (iP (xI x)) (ipn (xI x)) 0 ((iS (xI x)), (iT (xI x)), a) 0) w)))) σ') : fEv g (d + 5) mX10_would 5 [some (.ref 89), some (.int a), some (.int (nI w)), none, none, none, none, none, none, none] [] σ Q := by
  obtain ⟨D, ⟨S, T, sd, pn, P, rn, R⟩, B, tp, pl, im, Im⟩ := x
  have hD : fWD D := ok.1
  have hW : fWS D S := ok.2.1.1
  have hC : fWC D S := ok.2.1.2.1
  have hN : fWN S 0 0 := ok.2.1.2.2.1
  have Mr : fMr σ D S sd := Ir.1
  have Mt : fMt σ S T := Ir.2.1
  obtain ⟨t0, t1, t2, t3, t4, t5, t6⟩ := id hD.1
  have np := hW.n hD
  have n5 := hW.2.2.2.2
  have tp6 : tp ≤ 600 := ok.2.2.2.1
  have im3 : im ≤ 3 := ok.2.2.2.2.1
  have pn3 : pn ≤ 30 := ok.2.1.2.2.2.1
  have rn6 : rn ≤ 60 := ok.2.1.2.2.2.2.2.1
  have Rc : fRc σ (S, T, sd, pn, P, rn, R) := Ir.2.2.2.2.1
  have w52 := hW.1
  rcases (show w = 0 ∨ w = 1 ∨ w = 2 ∨ w = 3 ∨ w = 4 ∨ w = 5 by omega) with rfl | rfl | rfl | rfl | rfl | rfl
  · show fEv g (d + 5) mX10_would 5 [some (.ref 89), some (.int a), some (.int (nI 0)), none, none, none, none, none, none, none] [] σ Q
    refine e_aload_n dX10_would_5 rfl rfl ?_
    refine e_iload_n dX10_would_6 rfl rfl ?_
    refine e_iconst (nI 0) dX10_would_7 (by decide) ?_
    refine e_iconst (nI 5) dX10_would_8 (by decide) ?_
    refine e_callS [.int (nI 0), .int (nI 0), .int (nI 5)] dX10_would_9 cc_X10_in lk_RX10_110 st_X10_in in_RX10 rfl (Nat.le_of_ble_eq_true rfl) (Nat.le_of_ble_eq_true rfl) ?_
    refine t_X10_inT ⟨(nI_le' (by omega) (by omega)).mpr (by omega), (nI_le' (by omega) (by omega)).mpr (by omega)⟩ (fK_i ?_)
    show fEv g _ mX10_would 12 [some (.ref 89), some (.int a), some (.int (nI 0)), none, none, none, none, none, none, none] [.int (nI 1), .ref 89] σ Q
    refine e_if_ne 19 dX10_would_12 (by decide) (fun _ => ?_) (fun c => absurd c (by decide))
    refine e_iconst (nI 0) dX10_would_19 (by decide) ?_
    refine e_iconst (nI 1) dX10_would_20 (by decide) ?_
    refine e_callV (k := 89) [.int (nI 0), .int (nI 1)] dX10_would_21 cc_X10_bad lk_RX10_148 im_X10_bad se_X10_bad (by decide) (Ms.s 89 rfl) (Ms.n (by decide)) rfl (Nat.le_of_ble_eq_true rfl) (Nat.le_of_ble_eq_true rfl) ?_
    refine t_X10_bad0 Ms hz (by decide) (fK_i ?_)
    show fEv g _ mX10_would 24 [some (.ref 89), some (.int a), some (.int (nI 0)), none, none, none, none, none, none, none] [.int (nI 0)] σ Q
    refine e_if_eq 29 dX10_would_24 (by decide) (fun _ => ?_) (fun c => absurd c (by decide))
    refine e_aload_n dX10_would_29 rfl rfl ?_
    refine e_callV (k := 89) [] dX10_would_30 cc_X10_puts lk_RX10_253 im_X10_puts se_X10_puts (by decide) (Ms.s 89 rfl) (Ms.n (by decide)) rfl (Nat.le_of_ble_eq_true rfl) (Nat.le_of_ble_eq_true rfl) ?_
    refine t_X10_puts (dp := 0) Ms Mr hD (by omega) Ir.2.2.1.1 (fun σ1 Sm1 Mr1 Ro1 h21 k1 => fK_v ?_)
    show fEv g _ mX10_would 33 [some (.ref 89), some (.int a), some (.int (nI 0)), none, none, none, none, none, none, none] [] σ1 Q
    have Ms1 := Ms.sm Sm1
    have h311 : fI σ1 89 31 = nI (bn false) := (k1.1 31 (by decide)).trans Ir.2.2.1.2.1
    have h221 : fI σ1 89 22 = nI pn := (k1.1 22 (by decide)).trans Rc.1
    have hP1 : ∀ j, j < pn → fI σ1 219 j = nI (P j) ∧ P j < 4096 := fun j hj => ⟨(Sm1.i (by unfold fPA; omega) j).trans (Rc.2.1 j hj), ok.2.1.2.2.2.2.1 j⟩
    refine e_aload_n dX10_would_33 rfl rfl ?_
    refine e_getR (q := 197) dX10_would_34 fl_RX10_49 (Ms1.s 89 rfl) (Ms1.n (by decide)) rfl (Ms1.r 89 19 rfl) (by unfold fscr; omega) ?_
    refine e_sipush (nI 151) dX10_would_37 (by decide) ?_
    refine e_iaload 151 dX10_would_40 (Ms1.s 197 rfl) (Ms1.n (by decide)) rfl (by omega) (by decide) ?_
    refine e_int (nI (S 151)) (Mr1.s 151 (by omega)) ?_
    refine e_istore_n (L1 := [some (.ref 89), some (.int a), some (.int (nI 0)), some (.int (nI (S 151))), none, none, none, none, none, none]) dX10_would_41 rfl (by decide) rfl ?_
    refine e_aload_n dX10_would_42 rfl rfl ?_
    refine e_getR (q := 197) dX10_would_43 fl_RX10_49 (Ms1.s 89 rfl) (Ms1.n (by decide)) rfl (Ms1.r 89 19 rfl) (by unfold fscr; omega) ?_
    refine e_sipush (nI 152) dX10_would_46 (by decide) ?_
    refine e_iaload 152 dX10_would_49 (Ms1.s 197 rfl) (Ms1.n (by decide)) rfl (by omega) (by decide) ?_
    refine e_int (nI (S 152)) (Mr1.s 152 (by omega)) ?_
    refine e_istore (L1 := [some (.ref 89), some (.int a), some (.int (nI 0)), some (.int (nI (S 151))), some (.int (nI (S 152))), none, none, none, none, none]) dX10_would_50 (by decide) rfl ?_
    refine e_aload_n dX10_would_52 rfl rfl ?_
    refine e_getR (q := 197) dX10_would_53 fl_RX10_49 (Ms1.s 89 rfl) (Ms1.n (by decide)) rfl (Ms1.r 89 19 rfl) (by unfold fscr; omega) ?_
    refine e_sipush (nI 153) dX10_would_56 (by decide) ?_
    refine e_iaload 153 dX10_would_59 (Ms1.s 197 rfl) (Ms1.n (by decide)) rfl (by omega) (by decide) ?_
    refine e_int (nI (S 153)) (Mr1.s 153 (by omega)) ?_
    refine e_istore (L1 := [some (.ref 89), some (.int a), some (.int (nI 0)), some (.int (nI (S 151))), some (.int (nI (S 152))), some (.int (nI (S 153))), none, none, none, none]) dX10_would_60 (by decide) rfl ?_
    refine e_aload_n dX10_would_62 rfl rfl ?_
    refine e_getR (q := 197) dX10_would_63 fl_RX10_49 (Ms1.s 89 rfl) (Ms1.n (by decide)) rfl (Ms1.r 89 19 rfl) (by unfold fscr; omega) ?_
    refine e_sipush (nI 154) dX10_would_66 (by decide) ?_
    refine e_iaload 154 dX10_would_69 (Ms1.s 197 rfl) (Ms1.n (by decide)) rfl (by omega) (by decide) ?_
    refine e_int (nI (S 154)) (Mr1.s 154 (by omega)) ?_
    refine e_istore (L1 := [some (.ref 89), some (.int a), some (.int (nI 0)), some (.int (nI (S 151))), some (.int (nI (S 152))), some (.int (nI (S 153))), some (.int (nI (S 154))), none, none, none]) dX10_would_70 (by decide) rfl ?_
    refine e_aload_n dX10_would_72 rfl rfl ?_
    refine e_iload_n dX10_would_73 rfl rfl ?_
    refine e_callV (k := 89) [.int a] dX10_would_74 cc_X10_goes lk_RX10_256 im_X10_goes se_X10_goes (by decide) (Ms1.s 89 rfl) (Ms1.n (by decide)) rfl (Nat.le_of_ble_eq_true rfl) (Nat.le_of_ble_eq_true rfl) ?_
    refine t_X10_goes (T := T) Ms1 Mr1 hD hW hC hN h311 h221 pn3 hP1 (fun σ2 Sm2 Mr2 => fK_i ?_)
    show fEv g _ mX10_would 77 [some (.ref 89), some (.int a), some (.int (nI 0)), some (.int (nI (S 151))), some (.int (nI (S 152))), some (.int (nI (S 153))), some (.int (nI (S 154))), none, none, none] [.int (nI ((mplan D P pn 0 (S, T, a) 0).2))] σ2 Q
    have Ms2 := Ms1.sm Sm2
    have n2 : ∀ a, a ≠ 197 → ¬ fRA false a := fun a ha q => by unfold fRA at q; rcases q with q | q; exact ha q; exact absurd q.1 (by decide)
    have fw := fW_plan (P := P) hD pn 0 (S, T, a) 0 hW hC hN
    have hW2 := fw.1
    have Ro2 : fRow σ2 0 S sd := Ro1.sm Sm2 (n2 _ (by omega))
    have h212 : fI σ2 89 21 = nI (0 + 1) := (Sm2.i (n2 89 (by omega)) 21).trans h21
    refine e_istore (L1 := [some (.ref 89), some (.int a), some (.int (nI 0)), some (.int (nI (S 151))), some (.int (nI (S 152))), some (.int (nI (S 153))), some (.int (nI (S 154))), some (.int (nI ((mplan D P pn 0 (S, T, a) 0).2))), none, none]) dX10_would_77 (by decide) rfl ?_
    refine e_iconst (nI 0) dX10_would_79 (by decide) ?_
    refine e_istore (L1 := [some (.ref 89), some (.int a), some (.int (nI 0)), some (.int (nI (S 151))), some (.int (nI (S 152))), some (.int (nI (S 153))), some (.int (nI (S 154))), some (.int (nI ((mplan D P pn 0 (S, T, a) 0).2))), some (.int (nI 0)), none]) dX10_would_80 (by decide) rfl ?_
    refine e_iconst (nI 0) dX10_would_82 (by decide) ?_
    refine e_istore (L1 := [some (.ref 89), some (.int a), some (.int (nI 0)), some (.int (nI (S 151))), some (.int (nI (S 152))), some (.int (nI (S 153))), some (.int (nI (S 154))), some (.int (nI ((mplan D P pn 0 (S, T, a) 0).2))), some (.int (nI 0)), some (.int (nI 0))]) dX10_would_83 (by decide) rfl ?_
    refine e_iload dX10_would_85 rfl ?_
    refine e_aload_n dX10_would_87 rfl rfl ?_
    refine e_getR (q := 92) dX10_would_88 fl_RX10_20 (Ms2.s 89 rfl) (Ms2.n (by decide)) rfl (Ms2.r 89 10 rfl) (by unfold fscr; omega) ?_
    refine e_iconst (nI 2) dX10_would_91 (by decide) ?_
    refine e_iaload 2 dX10_would_92 (Ms2.s 92 rfl) (Ms2.n (by decide)) rfl (by omega) (by decide) ?_
    refine e_int (nI (dT D 2)) (Mr2.t 2 (by omega)) ?_
    refine e_icmp_ge 140 dX10_would_93 (by decide) (fun c93 => ?_) (fun c93 => ?_)
    · rw [nI_le' (by omega) (by omega)] at c93
      refine e_iload_n dX10_would_140 rfl rfl ?_
      refine e_if_ne 157 dX10_would_141 (by decide) (fun c => absurd c (by decide)) (fun _ => ?_)
      refine e_aload_n dX10_would_144 rfl rfl ?_
      refine e_getR (q := 197) dX10_would_145 fl_RX10_49 (Ms2.s 89 rfl) (Ms2.n (by decide)) rfl (Ms2.r 89 19 rfl) (by unfold fscr; omega) ?_
      refine e_sipush (nI 151) dX10_would_148 (by decide) ?_
      refine e_iaload 151 dX10_would_151 (Ms2.s 197 rfl) (Ms2.n (by decide)) rfl (by omega) (by decide) ?_
      refine e_int (nI ((mplan D P pn 0 (S, T, a) 0).1.1 151)) (Mr2.s 151 (by omega)) ?_
      refine e_iload_n dX10_would_152 rfl rfl ?_
      refine e_isub dX10_would_153 ?_
      refine e_goto 226 dX10_would_154 (by decide) ?_
      refine e_istore (L1 := [some (.ref 89), some (.int a), some (.int (nI 0)), some (.int (nI (S 151))), some (.int (nI (S 152))), some (.int (nI (S 153))), some (.int (nI (S 154))), some (.int (nI ((mplan D P pn 0 (S, T, a) 0).2))), some (.int ((nI ((mplan D P pn 0 (S, T, a) 0).1.1 151)) - (nI (S 151)))), some (.int (nI 0))]) dX10_would_226 (by decide) rfl ?_
      refine e_aload_n dX10_would_228 rfl rfl ?_
      refine e_callV (k := 89) [] dX10_would_229 cc_X10_takes lk_RX10_259 im_X10_takes se_X10_takes (by decide) (Ms2.s 89 rfl) (Ms2.n (by decide)) rfl (Nat.le_of_ble_eq_true rfl) (Nat.le_of_ble_eq_true rfl) ?_
      refine t_X10_takes (dp := 0) Ms2 Mr2 hD (by omega) h212 Ro2 (fun σ3 Sm3 Mr3 h213 k3 => fK_v ?_)
      show fEv g _ mX10_would 232 [some (.ref 89), some (.int a), some (.int (nI 0)), some (.int (nI (S 151))), some (.int (nI (S 152))), some (.int (nI (S 153))), some (.int (nI (S 154))), some (.int (nI ((mplan D P pn 0 (S, T, a) 0).2))), some (.int ((nI ((mplan D P pn 0 (S, T, a) 0).1.1 151)) - (nI (S 151)))), some (.int (nI 0))] [] σ3 Q
      have Ms3 := Ms2.sm Sm3
      have A3 : fSm (fun a => a = 89 ∨ a = 197 ∨ (199 ≤ a ∧ a < 219)) σ σ3 := ((Sm1.to (fun a q => by unfold fPA at q; omega)).tr (Sm2.to (fun a q => by by_cases e : a = 197; omega; exact absurd q (n2 a e)))).tr (Sm3.to (fun a q => by unfold fTA at q; omega))
      have k9 : ∀ j, j ≠ 21 → fI σ3 89 j = fI σ 89 j := fun j hj => (k3.1 j hj).trans ((Sm2.i (n2 89 (by omega)) j).trans (k1.1 j hj))
      have Ir3 := Ir.back ok A3 (fun a q => q) (fun j hj => by by_cases e : j = 21; rw [e, h213, Ir.2.2.1.1]; exact k9 j e) Mr3
      have hz3 := (k9 0 (by decide)).trans hz
      have Q3 : fSm fRfA σ σ3 := A3.to (fun a q => by unfold fRfA; omega)
      refine e_iload dX10_would_232 rfl ?_
      exact e_ireturn .int dX10_would_234 rfl rfl (h σ3 Q3 Ir3 hz3)
    · rw [nI_le' (by omega) (by omega)] at c93
      refine e_iload_n dX10_would_96 rfl rfl ?_
      refine e_iconst (nI 4) dX10_would_97 (by decide) ?_
      refine e_icmp_ne 140 dX10_would_98 (by decide) (fun _ => ?_) (fun c => absurd c (by decide))
      refine e_iload_n dX10_would_140 rfl rfl ?_
      refine e_if_ne 157 dX10_would_141 (by decide) (fun c => absurd c (by decide)) (fun _ => ?_)
      refine e_aload_n dX10_would_144 rfl rfl ?_
      refine e_getR (q := 197) dX10_would_145 fl_RX10_49 (Ms2.s 89 rfl) (Ms2.n (by decide)) rfl (Ms2.r 89 19 rfl) (by unfold fscr; omega) ?_
      refine e_sipush (nI 151) dX10_would_148 (by decide) ?_
      refine e_iaload 151 dX10_would_151 (Ms2.s 197 rfl) (Ms2.n (by decide)) rfl (by omega) (by decide) ?_
      refine e_int (nI ((mplan D P pn 0 (S, T, a) 0).1.1 151)) (Mr2.s 151 (by omega)) ?_
      refine e_iload_n dX10_would_152 rfl rfl ?_
      refine e_isub dX10_would_153 ?_
      refine e_goto 226 dX10_would_154 (by decide) ?_
      refine e_istore (L1 := [some (.ref 89), some (.int a), some (.int (nI 0)), some (.int (nI (S 151))), some (.int (nI (S 152))), some (.int (nI (S 153))), some (.int (nI (S 154))), some (.int (nI ((mplan D P pn 0 (S, T, a) 0).2))), some (.int ((nI ((mplan D P pn 0 (S, T, a) 0).1.1 151)) - (nI (S 151)))), some (.int (nI 0))]) dX10_would_226 (by decide) rfl ?_
      refine e_aload_n dX10_would_228 rfl rfl ?_
      refine e_callV (k := 89) [] dX10_would_229 cc_X10_takes lk_RX10_259 im_X10_takes se_X10_takes (by decide) (Ms2.s 89 rfl) (Ms2.n (by decide)) rfl (Nat.le_of_ble_eq_true rfl) (Nat.le_of_ble_eq_true rfl) ?_
      refine t_X10_takes (dp := 0) Ms2 Mr2 hD (by omega) h212 Ro2 (fun σ3 Sm3 Mr3 h213 k3 => fK_v ?_)
      show fEv g _ mX10_would 232 [some (.ref 89), some (.int a), some (.int (nI 0)), some (.int (nI (S 151))), some (.int (nI (S 152))), some (.int (nI (S 153))), some (.int (nI (S 154))), some (.int (nI ((mplan D P pn 0 (S, T, a) 0).2))), some (.int ((nI ((mplan D P pn 0 (S, T, a) 0).1.1 151)) - (nI (S 151)))), some (.int (nI 0))] [] σ3 Q
      have Ms3 := Ms2.sm Sm3
      have A3 : fSm (fun a => a = 89 ∨ a = 197 ∨ (199 ≤ a ∧ a < 219)) σ σ3 := ((Sm1.to (fun a q => by unfold fPA at q; omega)).tr (Sm2.to (fun a q => by by_cases e : a = 197; omega; exact absurd q (n2 a e)))).tr (Sm3.to (fun a q => by unfold fTA at q; omega))
      have k9 : ∀ j, j ≠ 21 → fI σ3 89 j = fI σ 89 j := fun j hj => (k3.1 j hj).trans ((Sm2.i (n2 89 (by omega)) j).trans (k1.1 j hj))
      have Ir3 := Ir.back ok A3 (fun a q => q) (fun j hj => by by_cases e : j = 21; rw [e, h213, Ir.2.2.1.1]; exact k9 j e) Mr3
      have hz3 := (k9 0 (by decide)).trans hz
      have Q3 : fSm fRfA σ σ3 := A3.to (fun a q => by unfold fRfA; omega)
      refine e_iload dX10_would_232 rfl ?_
      exact e_ireturn .int dX10_would_234 rfl rfl (h σ3 Q3 Ir3 hz3)
  · show fEv g (d + 5) mX10_would 5 [some (.ref 89), some (.int a), some (.int (nI 1)), none, none, none, none, none, none, none] [] σ Q
    refine e_aload_n dX10_would_5 rfl rfl ?_
    refine e_iload_n dX10_would_6 rfl rfl ?_
    refine e_iconst (nI 0) dX10_would_7 (by decide) ?_
    refine e_iconst (nI 5) dX10_would_8 (by decide) ?_
    refine e_callS [.int (nI 1), .int (nI 0), .int (nI 5)] dX10_would_9 cc_X10_in lk_RX10_110 st_X10_in in_RX10 rfl (Nat.le_of_ble_eq_true rfl) (Nat.le_of_ble_eq_true rfl) ?_
    refine t_X10_inT ⟨(nI_le' (by omega) (by omega)).mpr (by omega), (nI_le' (by omega) (by omega)).mpr (by omega)⟩ (fK_i ?_)
    show fEv g _ mX10_would 12 [some (.ref 89), some (.int a), some (.int (nI 1)), none, none, none, none, none, none, none] [.int (nI 1), .ref 89] σ Q
    refine e_if_ne 19 dX10_would_12 (by decide) (fun _ => ?_) (fun c => absurd c (by decide))
    refine e_iconst (nI 0) dX10_would_19 (by decide) ?_
    refine e_iconst (nI 1) dX10_would_20 (by decide) ?_
    refine e_callV (k := 89) [.int (nI 0), .int (nI 1)] dX10_would_21 cc_X10_bad lk_RX10_148 im_X10_bad se_X10_bad (by decide) (Ms.s 89 rfl) (Ms.n (by decide)) rfl (Nat.le_of_ble_eq_true rfl) (Nat.le_of_ble_eq_true rfl) ?_
    refine t_X10_bad0 Ms hz (by decide) (fK_i ?_)
    show fEv g _ mX10_would 24 [some (.ref 89), some (.int a), some (.int (nI 1)), none, none, none, none, none, none, none] [.int (nI 0)] σ Q
    refine e_if_eq 29 dX10_would_24 (by decide) (fun _ => ?_) (fun c => absurd c (by decide))
    refine e_aload_n dX10_would_29 rfl rfl ?_
    refine e_callV (k := 89) [] dX10_would_30 cc_X10_puts lk_RX10_253 im_X10_puts se_X10_puts (by decide) (Ms.s 89 rfl) (Ms.n (by decide)) rfl (Nat.le_of_ble_eq_true rfl) (Nat.le_of_ble_eq_true rfl) ?_
    refine t_X10_puts (dp := 0) Ms Mr hD (by omega) Ir.2.2.1.1 (fun σ1 Sm1 Mr1 Ro1 h21 k1 => fK_v ?_)
    show fEv g _ mX10_would 33 [some (.ref 89), some (.int a), some (.int (nI 1)), none, none, none, none, none, none, none] [] σ1 Q
    have Ms1 := Ms.sm Sm1
    have h311 : fI σ1 89 31 = nI (bn false) := (k1.1 31 (by decide)).trans Ir.2.2.1.2.1
    have h221 : fI σ1 89 22 = nI pn := (k1.1 22 (by decide)).trans Rc.1
    have hP1 : ∀ j, j < pn → fI σ1 219 j = nI (P j) ∧ P j < 4096 := fun j hj => ⟨(Sm1.i (by unfold fPA; omega) j).trans (Rc.2.1 j hj), ok.2.1.2.2.2.2.1 j⟩
    refine e_aload_n dX10_would_33 rfl rfl ?_
    refine e_getR (q := 197) dX10_would_34 fl_RX10_49 (Ms1.s 89 rfl) (Ms1.n (by decide)) rfl (Ms1.r 89 19 rfl) (by unfold fscr; omega) ?_
    refine e_sipush (nI 151) dX10_would_37 (by decide) ?_
    refine e_iaload 151 dX10_would_40 (Ms1.s 197 rfl) (Ms1.n (by decide)) rfl (by omega) (by decide) ?_
    refine e_int (nI (S 151)) (Mr1.s 151 (by omega)) ?_
    refine e_istore_n (L1 := [some (.ref 89), some (.int a), some (.int (nI 1)), some (.int (nI (S 151))), none, none, none, none, none, none]) dX10_would_41 rfl (by decide) rfl ?_
    refine e_aload_n dX10_would_42 rfl rfl ?_
    refine e_getR (q := 197) dX10_would_43 fl_RX10_49 (Ms1.s 89 rfl) (Ms1.n (by decide)) rfl (Ms1.r 89 19 rfl) (by unfold fscr; omega) ?_
    refine e_sipush (nI 152) dX10_would_46 (by decide) ?_
    refine e_iaload 152 dX10_would_49 (Ms1.s 197 rfl) (Ms1.n (by decide)) rfl (by omega) (by decide) ?_
    refine e_int (nI (S 152)) (Mr1.s 152 (by omega)) ?_
    refine e_istore (L1 := [some (.ref 89), some (.int a), some (.int (nI 1)), some (.int (nI (S 151))), some (.int (nI (S 152))), none, none, none, none, none]) dX10_would_50 (by decide) rfl ?_
    refine e_aload_n dX10_would_52 rfl rfl ?_
    refine e_getR (q := 197) dX10_would_53 fl_RX10_49 (Ms1.s 89 rfl) (Ms1.n (by decide)) rfl (Ms1.r 89 19 rfl) (by unfold fscr; omega) ?_
    refine e_sipush (nI 153) dX10_would_56 (by decide) ?_
    refine e_iaload 153 dX10_would_59 (Ms1.s 197 rfl) (Ms1.n (by decide)) rfl (by omega) (by decide) ?_
    refine e_int (nI (S 153)) (Mr1.s 153 (by omega)) ?_
    refine e_istore (L1 := [some (.ref 89), some (.int a), some (.int (nI 1)), some (.int (nI (S 151))), some (.int (nI (S 152))), some (.int (nI (S 153))), none, none, none, none]) dX10_would_60 (by decide) rfl ?_
    refine e_aload_n dX10_would_62 rfl rfl ?_
    refine e_getR (q := 197) dX10_would_63 fl_RX10_49 (Ms1.s 89 rfl) (Ms1.n (by decide)) rfl (Ms1.r 89 19 rfl) (by unfold fscr; omega) ?_
    refine e_sipush (nI 154) dX10_would_66 (by decide) ?_
    refine e_iaload 154 dX10_would_69 (Ms1.s 197 rfl) (Ms1.n (by decide)) rfl (by omega) (by decide) ?_
    refine e_int (nI (S 154)) (Mr1.s 154 (by omega)) ?_
    refine e_istore (L1 := [some (.ref 89), some (.int a), some (.int (nI 1)), some (.int (nI (S 151))), some (.int (nI (S 152))), some (.int (nI (S 153))), some (.int (nI (S 154))), none, none, none]) dX10_would_70 (by decide) rfl ?_
    refine e_aload_n dX10_would_72 rfl rfl ?_
    refine e_iload_n dX10_would_73 rfl rfl ?_
    refine e_callV (k := 89) [.int a] dX10_would_74 cc_X10_goes lk_RX10_256 im_X10_goes se_X10_goes (by decide) (Ms1.s 89 rfl) (Ms1.n (by decide)) rfl (Nat.le_of_ble_eq_true rfl) (Nat.le_of_ble_eq_true rfl) ?_
    refine t_X10_goes (T := T) Ms1 Mr1 hD hW hC hN h311 h221 pn3 hP1 (fun σ2 Sm2 Mr2 => fK_i ?_)
    show fEv g _ mX10_would 77 [some (.ref 89), some (.int a), some (.int (nI 1)), some (.int (nI (S 151))), some (.int (nI (S 152))), some (.int (nI (S 153))), some (.int (nI (S 154))), none, none, none] [.int (nI ((mplan D P pn 0 (S, T, a) 0).2))] σ2 Q
    have Ms2 := Ms1.sm Sm2
    have n2 : ∀ a, a ≠ 197 → ¬ fRA false a := fun a ha q => by unfold fRA at q; rcases q with q | q; exact ha q; exact absurd q.1 (by decide)
    have fw := fW_plan (P := P) hD pn 0 (S, T, a) 0 hW hC hN
    have hW2 := fw.1
    have Ro2 : fRow σ2 0 S sd := Ro1.sm Sm2 (n2 _ (by omega))
    have h212 : fI σ2 89 21 = nI (0 + 1) := (Sm2.i (n2 89 (by omega)) 21).trans h21
    refine e_istore (L1 := [some (.ref 89), some (.int a), some (.int (nI 1)), some (.int (nI (S 151))), some (.int (nI (S 152))), some (.int (nI (S 153))), some (.int (nI (S 154))), some (.int (nI ((mplan D P pn 0 (S, T, a) 0).2))), none, none]) dX10_would_77 (by decide) rfl ?_
    refine e_iconst (nI 0) dX10_would_79 (by decide) ?_
    refine e_istore (L1 := [some (.ref 89), some (.int a), some (.int (nI 1)), some (.int (nI (S 151))), some (.int (nI (S 152))), some (.int (nI (S 153))), some (.int (nI (S 154))), some (.int (nI ((mplan D P pn 0 (S, T, a) 0).2))), some (.int (nI 0)), none]) dX10_would_80 (by decide) rfl ?_
    refine e_iconst (nI 0) dX10_would_82 (by decide) ?_
    refine e_istore (L1 := [some (.ref 89), some (.int a), some (.int (nI 1)), some (.int (nI (S 151))), some (.int (nI (S 152))), some (.int (nI (S 153))), some (.int (nI (S 154))), some (.int (nI ((mplan D P pn 0 (S, T, a) 0).2))), some (.int (nI 0)), some (.int (nI 0))]) dX10_would_83 (by decide) rfl ?_
    refine e_iload dX10_would_85 rfl ?_
    refine e_aload_n dX10_would_87 rfl rfl ?_
    refine e_getR (q := 92) dX10_would_88 fl_RX10_20 (Ms2.s 89 rfl) (Ms2.n (by decide)) rfl (Ms2.r 89 10 rfl) (by unfold fscr; omega) ?_
    refine e_iconst (nI 2) dX10_would_91 (by decide) ?_
    refine e_iaload 2 dX10_would_92 (Ms2.s 92 rfl) (Ms2.n (by decide)) rfl (by omega) (by decide) ?_
    refine e_int (nI (dT D 2)) (Mr2.t 2 (by omega)) ?_
    refine e_icmp_ge 140 dX10_would_93 (by decide) (fun c93 => ?_) (fun c93 => ?_)
    · rw [nI_le' (by omega) (by omega)] at c93
      refine e_iload_n dX10_would_140 rfl rfl ?_
      refine e_if_ne 157 dX10_would_141 (by decide) (fun _ => ?_) (fun c => absurd c (by decide))
      refine e_iload_n dX10_would_157 rfl rfl ?_
      refine e_iconst (nI 1) dX10_would_158 (by decide) ?_
      refine e_icmp_ne 176 dX10_would_159 (by decide) (fun c => absurd c (by decide)) (fun _ => ?_)
      refine e_aload_n dX10_would_162 rfl rfl ?_
      refine e_getR (q := 197) dX10_would_163 fl_RX10_49 (Ms2.s 89 rfl) (Ms2.n (by decide)) rfl (Ms2.r 89 19 rfl) (by unfold fscr; omega) ?_
      refine e_sipush (nI 152) dX10_would_166 (by decide) ?_
      refine e_iaload 152 dX10_would_169 (Ms2.s 197 rfl) (Ms2.n (by decide)) rfl (by omega) (by decide) ?_
      refine e_int (nI ((mplan D P pn 0 (S, T, a) 0).1.1 152)) (Mr2.s 152 (by omega)) ?_
      refine e_iload dX10_would_170 rfl ?_
      refine e_isub dX10_would_172 ?_
      refine e_goto 226 dX10_would_173 (by decide) ?_
      refine e_istore (L1 := [some (.ref 89), some (.int a), some (.int (nI 1)), some (.int (nI (S 151))), some (.int (nI (S 152))), some (.int (nI (S 153))), some (.int (nI (S 154))), some (.int (nI ((mplan D P pn 0 (S, T, a) 0).2))), some (.int ((nI ((mplan D P pn 0 (S, T, a) 0).1.1 152)) - (nI (S 152)))), some (.int (nI 0))]) dX10_would_226 (by decide) rfl ?_
      refine e_aload_n dX10_would_228 rfl rfl ?_
      refine e_callV (k := 89) [] dX10_would_229 cc_X10_takes lk_RX10_259 im_X10_takes se_X10_takes (by decide) (Ms2.s 89 rfl) (Ms2.n (by decide)) rfl (Nat.le_of_ble_eq_true rfl) (Nat.le_of_ble_eq_true rfl) ?_
      refine t_X10_takes (dp := 0) Ms2 Mr2 hD (by omega) h212 Ro2 (fun σ3 Sm3 Mr3 h213 k3 => fK_v ?_)
      show fEv g _ mX10_would 232 [some (.ref 89), some (.int a), some (.int (nI 1)), some (.int (nI (S 151))), some (.int (nI (S 152))), some (.int (nI (S 153))), some (.int (nI (S 154))), some (.int (nI ((mplan D P pn 0 (S, T, a) 0).2))), some (.int ((nI ((mplan D P pn 0 (S, T, a) 0).1.1 152)) - (nI (S 152)))), some (.int (nI 0))] [] σ3 Q
      have Ms3 := Ms2.sm Sm3
      have A3 : fSm (fun a => a = 89 ∨ a = 197 ∨ (199 ≤ a ∧ a < 219)) σ σ3 := ((Sm1.to (fun a q => by unfold fPA at q; omega)).tr (Sm2.to (fun a q => by by_cases e : a = 197; omega; exact absurd q (n2 a e)))).tr (Sm3.to (fun a q => by unfold fTA at q; omega))
      have k9 : ∀ j, j ≠ 21 → fI σ3 89 j = fI σ 89 j := fun j hj => (k3.1 j hj).trans ((Sm2.i (n2 89 (by omega)) j).trans (k1.1 j hj))
      have Ir3 := Ir.back ok A3 (fun a q => q) (fun j hj => by by_cases e : j = 21; rw [e, h213, Ir.2.2.1.1]; exact k9 j e) Mr3
      have hz3 := (k9 0 (by decide)).trans hz
      have Q3 : fSm fRfA σ σ3 := A3.to (fun a q => by unfold fRfA; omega)
      refine e_iload dX10_would_232 rfl ?_
      exact e_ireturn .int dX10_would_234 rfl rfl (h σ3 Q3 Ir3 hz3)
    · rw [nI_le' (by omega) (by omega)] at c93
      refine e_iload_n dX10_would_96 rfl rfl ?_
      refine e_iconst (nI 4) dX10_would_97 (by decide) ?_
      refine e_icmp_ne 140 dX10_would_98 (by decide) (fun _ => ?_) (fun c => absurd c (by decide))
      refine e_iload_n dX10_would_140 rfl rfl ?_
      refine e_if_ne 157 dX10_would_141 (by decide) (fun _ => ?_) (fun c => absurd c (by decide))
      refine e_iload_n dX10_would_157 rfl rfl ?_
      refine e_iconst (nI 1) dX10_would_158 (by decide) ?_
      refine e_icmp_ne 176 dX10_would_159 (by decide) (fun c => absurd c (by decide)) (fun _ => ?_)
      refine e_aload_n dX10_would_162 rfl rfl ?_
      refine e_getR (q := 197) dX10_would_163 fl_RX10_49 (Ms2.s 89 rfl) (Ms2.n (by decide)) rfl (Ms2.r 89 19 rfl) (by unfold fscr; omega) ?_
      refine e_sipush (nI 152) dX10_would_166 (by decide) ?_
      refine e_iaload 152 dX10_would_169 (Ms2.s 197 rfl) (Ms2.n (by decide)) rfl (by omega) (by decide) ?_
      refine e_int (nI ((mplan D P pn 0 (S, T, a) 0).1.1 152)) (Mr2.s 152 (by omega)) ?_
      refine e_iload dX10_would_170 rfl ?_
      refine e_isub dX10_would_172 ?_
      refine e_goto 226 dX10_would_173 (by decide) ?_
      refine e_istore (L1 := [some (.ref 89), some (.int a), some (.int (nI 1)), some (.int (nI (S 151))), some (.int (nI (S 152))), some (.int (nI (S 153))), some (.int (nI (S 154))), some (.int (nI ((mplan D P pn 0 (S, T, a) 0).2))), some (.int ((nI ((mplan D P pn 0 (S, T, a) 0).1.1 152)) - (nI (S 152)))), some (.int (nI 0))]) dX10_would_226 (by decide) rfl ?_
      refine e_aload_n dX10_would_228 rfl rfl ?_
      refine e_callV (k := 89) [] dX10_would_229 cc_X10_takes lk_RX10_259 im_X10_takes se_X10_takes (by decide) (Ms2.s 89 rfl) (Ms2.n (by decide)) rfl (Nat.le_of_ble_eq_true rfl) (Nat.le_of_ble_eq_true rfl) ?_
      refine t_X10_takes (dp := 0) Ms2 Mr2 hD (by omega) h212 Ro2 (fun σ3 Sm3 Mr3 h213 k3 => fK_v ?_)
      show fEv g _ mX10_would 232 [some (.ref 89), some (.int a), some (.int (nI 1)), some (.int (nI (S 151))), some (.int (nI (S 152))), some (.int (nI (S 153))), some (.int (nI (S 154))), some (.int (nI ((mplan D P pn 0 (S, T, a) 0).2))), some (.int ((nI ((mplan D P pn 0 (S, T, a) 0).1.1 152)) - (nI (S 152)))), some (.int (nI 0))] [] σ3 Q
      have Ms3 := Ms2.sm Sm3
      have A3 : fSm (fun a => a = 89 ∨ a = 197 ∨ (199 ≤ a ∧ a < 219)) σ σ3 := ((Sm1.to (fun a q => by unfold fPA at q; omega)).tr (Sm2.to (fun a q => by by_cases e : a = 197; omega; exact absurd q (n2 a e)))).tr (Sm3.to (fun a q => by unfold fTA at q; omega))
      have k9 : ∀ j, j ≠ 21 → fI σ3 89 j = fI σ 89 j := fun j hj => (k3.1 j hj).trans ((Sm2.i (n2 89 (by omega)) j).trans (k1.1 j hj))
      have Ir3 := Ir.back ok A3 (fun a q => q) (fun j hj => by by_cases e : j = 21; rw [e, h213, Ir.2.2.1.1]; exact k9 j e) Mr3
      have hz3 := (k9 0 (by decide)).trans hz
      have Q3 : fSm fRfA σ σ3 := A3.to (fun a q => by unfold fRfA; omega)
      refine e_iload dX10_would_232 rfl ?_
      exact e_ireturn .int dX10_would_234 rfl rfl (h σ3 Q3 Ir3 hz3)
  · show fEv g (d + 5) mX10_would 5 [some (.ref 89), some (.int a), some (.int (nI 2)), none, none, none, none, none, none, none] [] σ Q
    refine e_aload_n dX10_would_5 rfl rfl ?_
    refine e_iload_n dX10_would_6 rfl rfl ?_
    refine e_iconst (nI 0) dX10_would_7 (by decide) ?_
    refine e_iconst (nI 5) dX10_would_8 (by decide) ?_
    refine e_callS [.int (nI 2), .int (nI 0), .int (nI 5)] dX10_would_9 cc_X10_in lk_RX10_110 st_X10_in in_RX10 rfl (Nat.le_of_ble_eq_true rfl) (Nat.le_of_ble_eq_true rfl) ?_
    refine t_X10_inT ⟨(nI_le' (by omega) (by omega)).mpr (by omega), (nI_le' (by omega) (by omega)).mpr (by omega)⟩ (fK_i ?_)
    show fEv g _ mX10_would 12 [some (.ref 89), some (.int a), some (.int (nI 2)), none, none, none, none, none, none, none] [.int (nI 1), .ref 89] σ Q
    refine e_if_ne 19 dX10_would_12 (by decide) (fun _ => ?_) (fun c => absurd c (by decide))
    refine e_iconst (nI 0) dX10_would_19 (by decide) ?_
    refine e_iconst (nI 1) dX10_would_20 (by decide) ?_
    refine e_callV (k := 89) [.int (nI 0), .int (nI 1)] dX10_would_21 cc_X10_bad lk_RX10_148 im_X10_bad se_X10_bad (by decide) (Ms.s 89 rfl) (Ms.n (by decide)) rfl (Nat.le_of_ble_eq_true rfl) (Nat.le_of_ble_eq_true rfl) ?_
    refine t_X10_bad0 Ms hz (by decide) (fK_i ?_)
    show fEv g _ mX10_would 24 [some (.ref 89), some (.int a), some (.int (nI 2)), none, none, none, none, none, none, none] [.int (nI 0)] σ Q
    refine e_if_eq 29 dX10_would_24 (by decide) (fun _ => ?_) (fun c => absurd c (by decide))
    refine e_aload_n dX10_would_29 rfl rfl ?_
    refine e_callV (k := 89) [] dX10_would_30 cc_X10_puts lk_RX10_253 im_X10_puts se_X10_puts (by decide) (Ms.s 89 rfl) (Ms.n (by decide)) rfl (Nat.le_of_ble_eq_true rfl) (Nat.le_of_ble_eq_true rfl) ?_
    refine t_X10_puts (dp := 0) Ms Mr hD (by omega) Ir.2.2.1.1 (fun σ1 Sm1 Mr1 Ro1 h21 k1 => fK_v ?_)
    show fEv g _ mX10_would 33 [some (.ref 89), some (.int a), some (.int (nI 2)), none, none, none, none, none, none, none] [] σ1 Q
    have Ms1 := Ms.sm Sm1
    have h311 : fI σ1 89 31 = nI (bn false) := (k1.1 31 (by decide)).trans Ir.2.2.1.2.1
    have h221 : fI σ1 89 22 = nI pn := (k1.1 22 (by decide)).trans Rc.1
    have hP1 : ∀ j, j < pn → fI σ1 219 j = nI (P j) ∧ P j < 4096 := fun j hj => ⟨(Sm1.i (by unfold fPA; omega) j).trans (Rc.2.1 j hj), ok.2.1.2.2.2.2.1 j⟩
    refine e_aload_n dX10_would_33 rfl rfl ?_
    refine e_getR (q := 197) dX10_would_34 fl_RX10_49 (Ms1.s 89 rfl) (Ms1.n (by decide)) rfl (Ms1.r 89 19 rfl) (by unfold fscr; omega) ?_
    refine e_sipush (nI 151) dX10_would_37 (by decide) ?_
    refine e_iaload 151 dX10_would_40 (Ms1.s 197 rfl) (Ms1.n (by decide)) rfl (by omega) (by decide) ?_
    refine e_int (nI (S 151)) (Mr1.s 151 (by omega)) ?_
    refine e_istore_n (L1 := [some (.ref 89), some (.int a), some (.int (nI 2)), some (.int (nI (S 151))), none, none, none, none, none, none]) dX10_would_41 rfl (by decide) rfl ?_
    refine e_aload_n dX10_would_42 rfl rfl ?_
    refine e_getR (q := 197) dX10_would_43 fl_RX10_49 (Ms1.s 89 rfl) (Ms1.n (by decide)) rfl (Ms1.r 89 19 rfl) (by unfold fscr; omega) ?_
    refine e_sipush (nI 152) dX10_would_46 (by decide) ?_
    refine e_iaload 152 dX10_would_49 (Ms1.s 197 rfl) (Ms1.n (by decide)) rfl (by omega) (by decide) ?_
    refine e_int (nI (S 152)) (Mr1.s 152 (by omega)) ?_
    refine e_istore (L1 := [some (.ref 89), some (.int a), some (.int (nI 2)), some (.int (nI (S 151))), some (.int (nI (S 152))), none, none, none, none, none]) dX10_would_50 (by decide) rfl ?_
    refine e_aload_n dX10_would_52 rfl rfl ?_
    refine e_getR (q := 197) dX10_would_53 fl_RX10_49 (Ms1.s 89 rfl) (Ms1.n (by decide)) rfl (Ms1.r 89 19 rfl) (by unfold fscr; omega) ?_
    refine e_sipush (nI 153) dX10_would_56 (by decide) ?_
    refine e_iaload 153 dX10_would_59 (Ms1.s 197 rfl) (Ms1.n (by decide)) rfl (by omega) (by decide) ?_
    refine e_int (nI (S 153)) (Mr1.s 153 (by omega)) ?_
    refine e_istore (L1 := [some (.ref 89), some (.int a), some (.int (nI 2)), some (.int (nI (S 151))), some (.int (nI (S 152))), some (.int (nI (S 153))), none, none, none, none]) dX10_would_60 (by decide) rfl ?_
    refine e_aload_n dX10_would_62 rfl rfl ?_
    refine e_getR (q := 197) dX10_would_63 fl_RX10_49 (Ms1.s 89 rfl) (Ms1.n (by decide)) rfl (Ms1.r 89 19 rfl) (by unfold fscr; omega) ?_
    refine e_sipush (nI 154) dX10_would_66 (by decide) ?_
    refine e_iaload 154 dX10_would_69 (Ms1.s 197 rfl) (Ms1.n (by decide)) rfl (by omega) (by decide) ?_
    refine e_int (nI (S 154)) (Mr1.s 154 (by omega)) ?_
    refine e_istore (L1 := [some (.ref 89), some (.int a), some (.int (nI 2)), some (.int (nI (S 151))), some (.int (nI (S 152))), some (.int (nI (S 153))), some (.int (nI (S 154))), none, none, none]) dX10_would_70 (by decide) rfl ?_
    refine e_aload_n dX10_would_72 rfl rfl ?_
    refine e_iload_n dX10_would_73 rfl rfl ?_
    refine e_callV (k := 89) [.int a] dX10_would_74 cc_X10_goes lk_RX10_256 im_X10_goes se_X10_goes (by decide) (Ms1.s 89 rfl) (Ms1.n (by decide)) rfl (Nat.le_of_ble_eq_true rfl) (Nat.le_of_ble_eq_true rfl) ?_
    refine t_X10_goes (T := T) Ms1 Mr1 hD hW hC hN h311 h221 pn3 hP1 (fun σ2 Sm2 Mr2 => fK_i ?_)
    show fEv g _ mX10_would 77 [some (.ref 89), some (.int a), some (.int (nI 2)), some (.int (nI (S 151))), some (.int (nI (S 152))), some (.int (nI (S 153))), some (.int (nI (S 154))), none, none, none] [.int (nI ((mplan D P pn 0 (S, T, a) 0).2))] σ2 Q
    have Ms2 := Ms1.sm Sm2
    have n2 : ∀ a, a ≠ 197 → ¬ fRA false a := fun a ha q => by unfold fRA at q; rcases q with q | q; exact ha q; exact absurd q.1 (by decide)
    have fw := fW_plan (P := P) hD pn 0 (S, T, a) 0 hW hC hN
    have hW2 := fw.1
    have Ro2 : fRow σ2 0 S sd := Ro1.sm Sm2 (n2 _ (by omega))
    have h212 : fI σ2 89 21 = nI (0 + 1) := (Sm2.i (n2 89 (by omega)) 21).trans h21
    refine e_istore (L1 := [some (.ref 89), some (.int a), some (.int (nI 2)), some (.int (nI (S 151))), some (.int (nI (S 152))), some (.int (nI (S 153))), some (.int (nI (S 154))), some (.int (nI ((mplan D P pn 0 (S, T, a) 0).2))), none, none]) dX10_would_77 (by decide) rfl ?_
    refine e_iconst (nI 0) dX10_would_79 (by decide) ?_
    refine e_istore (L1 := [some (.ref 89), some (.int a), some (.int (nI 2)), some (.int (nI (S 151))), some (.int (nI (S 152))), some (.int (nI (S 153))), some (.int (nI (S 154))), some (.int (nI ((mplan D P pn 0 (S, T, a) 0).2))), some (.int (nI 0)), none]) dX10_would_80 (by decide) rfl ?_
    refine e_iconst (nI 0) dX10_would_82 (by decide) ?_
    refine e_istore (L1 := [some (.ref 89), some (.int a), some (.int (nI 2)), some (.int (nI (S 151))), some (.int (nI (S 152))), some (.int (nI (S 153))), some (.int (nI (S 154))), some (.int (nI ((mplan D P pn 0 (S, T, a) 0).2))), some (.int (nI 0)), some (.int (nI 0))]) dX10_would_83 (by decide) rfl ?_
    refine e_iload dX10_would_85 rfl ?_
    refine e_aload_n dX10_would_87 rfl rfl ?_
    refine e_getR (q := 92) dX10_would_88 fl_RX10_20 (Ms2.s 89 rfl) (Ms2.n (by decide)) rfl (Ms2.r 89 10 rfl) (by unfold fscr; omega) ?_
    refine e_iconst (nI 2) dX10_would_91 (by decide) ?_
    refine e_iaload 2 dX10_would_92 (Ms2.s 92 rfl) (Ms2.n (by decide)) rfl (by omega) (by decide) ?_
    refine e_int (nI (dT D 2)) (Mr2.t 2 (by omega)) ?_
    refine e_icmp_ge 140 dX10_would_93 (by decide) (fun c93 => ?_) (fun c93 => ?_)
    · rw [nI_le' (by omega) (by omega)] at c93
      refine e_iload_n dX10_would_140 rfl rfl ?_
      refine e_if_ne 157 dX10_would_141 (by decide) (fun _ => ?_) (fun c => absurd c (by decide))
      refine e_iload_n dX10_would_157 rfl rfl ?_
      refine e_iconst (nI 1) dX10_would_158 (by decide) ?_
      refine e_icmp_ne 176 dX10_would_159 (by decide) (fun _ => ?_) (fun c => absurd c (by decide))
      refine e_iload_n dX10_would_176 rfl rfl ?_
      refine e_iconst (nI 2) dX10_would_177 (by decide) ?_
      refine e_icmp_ne 195 dX10_would_178 (by decide) (fun c => absurd c (by decide)) (fun _ => ?_)
      refine e_aload_n dX10_would_181 rfl rfl ?_
      refine e_getR (q := 197) dX10_would_182 fl_RX10_49 (Ms2.s 89 rfl) (Ms2.n (by decide)) rfl (Ms2.r 89 19 rfl) (by unfold fscr; omega) ?_
      refine e_sipush (nI 153) dX10_would_185 (by decide) ?_
      refine e_iaload 153 dX10_would_188 (Ms2.s 197 rfl) (Ms2.n (by decide)) rfl (by omega) (by decide) ?_
      refine e_int (nI ((mplan D P pn 0 (S, T, a) 0).1.1 153)) (Mr2.s 153 (by omega)) ?_
      refine e_iload dX10_would_189 rfl ?_
      refine e_isub dX10_would_191 ?_
      refine e_goto 226 dX10_would_192 (by decide) ?_
      refine e_istore (L1 := [some (.ref 89), some (.int a), some (.int (nI 2)), some (.int (nI (S 151))), some (.int (nI (S 152))), some (.int (nI (S 153))), some (.int (nI (S 154))), some (.int (nI ((mplan D P pn 0 (S, T, a) 0).2))), some (.int ((nI ((mplan D P pn 0 (S, T, a) 0).1.1 153)) - (nI (S 153)))), some (.int (nI 0))]) dX10_would_226 (by decide) rfl ?_
      refine e_aload_n dX10_would_228 rfl rfl ?_
      refine e_callV (k := 89) [] dX10_would_229 cc_X10_takes lk_RX10_259 im_X10_takes se_X10_takes (by decide) (Ms2.s 89 rfl) (Ms2.n (by decide)) rfl (Nat.le_of_ble_eq_true rfl) (Nat.le_of_ble_eq_true rfl) ?_
      refine t_X10_takes (dp := 0) Ms2 Mr2 hD (by omega) h212 Ro2 (fun σ3 Sm3 Mr3 h213 k3 => fK_v ?_)
      show fEv g _ mX10_would 232 [some (.ref 89), some (.int a), some (.int (nI 2)), some (.int (nI (S 151))), some (.int (nI (S 152))), some (.int (nI (S 153))), some (.int (nI (S 154))), some (.int (nI ((mplan D P pn 0 (S, T, a) 0).2))), some (.int ((nI ((mplan D P pn 0 (S, T, a) 0).1.1 153)) - (nI (S 153)))), some (.int (nI 0))] [] σ3 Q
      have Ms3 := Ms2.sm Sm3
      have A3 : fSm (fun a => a = 89 ∨ a = 197 ∨ (199 ≤ a ∧ a < 219)) σ σ3 := ((Sm1.to (fun a q => by unfold fPA at q; omega)).tr (Sm2.to (fun a q => by by_cases e : a = 197; omega; exact absurd q (n2 a e)))).tr (Sm3.to (fun a q => by unfold fTA at q; omega))
      have k9 : ∀ j, j ≠ 21 → fI σ3 89 j = fI σ 89 j := fun j hj => (k3.1 j hj).trans ((Sm2.i (n2 89 (by omega)) j).trans (k1.1 j hj))
      have Ir3 := Ir.back ok A3 (fun a q => q) (fun j hj => by by_cases e : j = 21; rw [e, h213, Ir.2.2.1.1]; exact k9 j e) Mr3
      have hz3 := (k9 0 (by decide)).trans hz
      have Q3 : fSm fRfA σ σ3 := A3.to (fun a q => by unfold fRfA; omega)
      refine e_iload dX10_would_232 rfl ?_
      exact e_ireturn .int dX10_would_234 rfl rfl (h σ3 Q3 Ir3 hz3)
    · rw [nI_le' (by omega) (by omega)] at c93
      refine e_iload_n dX10_would_96 rfl rfl ?_
      refine e_iconst (nI 4) dX10_would_97 (by decide) ?_
      refine e_icmp_ne 140 dX10_would_98 (by decide) (fun _ => ?_) (fun c => absurd c (by decide))
      refine e_iload_n dX10_would_140 rfl rfl ?_
      refine e_if_ne 157 dX10_would_141 (by decide) (fun _ => ?_) (fun c => absurd c (by decide))
      refine e_iload_n dX10_would_157 rfl rfl ?_
      refine e_iconst (nI 1) dX10_would_158 (by decide) ?_
      refine e_icmp_ne 176 dX10_would_159 (by decide) (fun _ => ?_) (fun c => absurd c (by decide))
      refine e_iload_n dX10_would_176 rfl rfl ?_
      refine e_iconst (nI 2) dX10_would_177 (by decide) ?_
      refine e_icmp_ne 195 dX10_would_178 (by decide) (fun c => absurd c (by decide)) (fun _ => ?_)
      refine e_aload_n dX10_would_181 rfl rfl ?_
      refine e_getR (q := 197) dX10_would_182 fl_RX10_49 (Ms2.s 89 rfl) (Ms2.n (by decide)) rfl (Ms2.r 89 19 rfl) (by unfold fscr; omega) ?_
      refine e_sipush (nI 153) dX10_would_185 (by decide) ?_
      refine e_iaload 153 dX10_would_188 (Ms2.s 197 rfl) (Ms2.n (by decide)) rfl (by omega) (by decide) ?_
      refine e_int (nI ((mplan D P pn 0 (S, T, a) 0).1.1 153)) (Mr2.s 153 (by omega)) ?_
      refine e_iload dX10_would_189 rfl ?_
      refine e_isub dX10_would_191 ?_
      refine e_goto 226 dX10_would_192 (by decide) ?_
      refine e_istore (L1 := [some (.ref 89), some (.int a), some (.int (nI 2)), some (.int (nI (S 151))), some (.int (nI (S 152))), some (.int (nI (S 153))), some (.int (nI (S 154))), some (.int (nI ((mplan D P pn 0 (S, T, a) 0).2))), some (.int ((nI ((mplan D P pn 0 (S, T, a) 0).1.1 153)) - (nI (S 153)))), some (.int (nI 0))]) dX10_would_226 (by decide) rfl ?_
      refine e_aload_n dX10_would_228 rfl rfl ?_
      refine e_callV (k := 89) [] dX10_would_229 cc_X10_takes lk_RX10_259 im_X10_takes se_X10_takes (by decide) (Ms2.s 89 rfl) (Ms2.n (by decide)) rfl (Nat.le_of_ble_eq_true rfl) (Nat.le_of_ble_eq_true rfl) ?_
      refine t_X10_takes (dp := 0) Ms2 Mr2 hD (by omega) h212 Ro2 (fun σ3 Sm3 Mr3 h213 k3 => fK_v ?_)
      show fEv g _ mX10_would 232 [some (.ref 89), some (.int a), some (.int (nI 2)), some (.int (nI (S 151))), some (.int (nI (S 152))), some (.int (nI (S 153))), some (.int (nI (S 154))), some (.int (nI ((mplan D P pn 0 (S, T, a) 0).2))), some (.int ((nI ((mplan D P pn 0 (S, T, a) 0).1.1 153)) - (nI (S 153)))), some (.int (nI 0))] [] σ3 Q
      have Ms3 := Ms2.sm Sm3
      have A3 : fSm (fun a => a = 89 ∨ a = 197 ∨ (199 ≤ a ∧ a < 219)) σ σ3 := ((Sm1.to (fun a q => by unfold fPA at q; omega)).tr (Sm2.to (fun a q => by by_cases e : a = 197; omega; exact absurd q (n2 a e)))).tr (Sm3.to (fun a q => by unfold fTA at q; omega))
      have k9 : ∀ j, j ≠ 21 → fI σ3 89 j = fI σ 89 j := fun j hj => (k3.1 j hj).trans ((Sm2.i (n2 89 (by omega)) j).trans (k1.1 j hj))
      have Ir3 := Ir.back ok A3 (fun a q => q) (fun j hj => by by_cases e : j = 21; rw [e, h213, Ir.2.2.1.1]; exact k9 j e) Mr3
      have hz3 := (k9 0 (by decide)).trans hz
      have Q3 : fSm fRfA σ σ3 := A3.to (fun a q => by unfold fRfA; omega)
      refine e_iload dX10_would_232 rfl ?_
      exact e_ireturn .int dX10_would_234 rfl rfl (h σ3 Q3 Ir3 hz3)
  · show fEv g (d + 5) mX10_would 5 [some (.ref 89), some (.int a), some (.int (nI 3)), none, none, none, none, none, none, none] [] σ Q
    refine e_aload_n dX10_would_5 rfl rfl ?_
    refine e_iload_n dX10_would_6 rfl rfl ?_
    refine e_iconst (nI 0) dX10_would_7 (by decide) ?_
    refine e_iconst (nI 5) dX10_would_8 (by decide) ?_
    refine e_callS [.int (nI 3), .int (nI 0), .int (nI 5)] dX10_would_9 cc_X10_in lk_RX10_110 st_X10_in in_RX10 rfl (Nat.le_of_ble_eq_true rfl) (Nat.le_of_ble_eq_true rfl) ?_
    refine t_X10_inT ⟨(nI_le' (by omega) (by omega)).mpr (by omega), (nI_le' (by omega) (by omega)).mpr (by omega)⟩ (fK_i ?_)
    show fEv g _ mX10_would 12 [some (.ref 89), some (.int a), some (.int (nI 3)), none, none, none, none, none, none, none] [.int (nI 1), .ref 89] σ Q
    refine e_if_ne 19 dX10_would_12 (by decide) (fun _ => ?_) (fun c => absurd c (by decide))
    refine e_iconst (nI 0) dX10_would_19 (by decide) ?_
    refine e_iconst (nI 1) dX10_would_20 (by decide) ?_
    refine e_callV (k := 89) [.int (nI 0), .int (nI 1)] dX10_would_21 cc_X10_bad lk_RX10_148 im_X10_bad se_X10_bad (by decide) (Ms.s 89 rfl) (Ms.n (by decide)) rfl (Nat.le_of_ble_eq_true rfl) (Nat.le_of_ble_eq_true rfl) ?_
    refine t_X10_bad0 Ms hz (by decide) (fK_i ?_)
    show fEv g _ mX10_would 24 [some (.ref 89), some (.int a), some (.int (nI 3)), none, none, none, none, none, none, none] [.int (nI 0)] σ Q
    refine e_if_eq 29 dX10_would_24 (by decide) (fun _ => ?_) (fun c => absurd c (by decide))
    refine e_aload_n dX10_would_29 rfl rfl ?_
    refine e_callV (k := 89) [] dX10_would_30 cc_X10_puts lk_RX10_253 im_X10_puts se_X10_puts (by decide) (Ms.s 89 rfl) (Ms.n (by decide)) rfl (Nat.le_of_ble_eq_true rfl) (Nat.le_of_ble_eq_true rfl) ?_
    refine t_X10_puts (dp := 0) Ms Mr hD (by omega) Ir.2.2.1.1 (fun σ1 Sm1 Mr1 Ro1 h21 k1 => fK_v ?_)
    show fEv g _ mX10_would 33 [some (.ref 89), some (.int a), some (.int (nI 3)), none, none, none, none, none, none, none] [] σ1 Q
    have Ms1 := Ms.sm Sm1
    have h311 : fI σ1 89 31 = nI (bn false) := (k1.1 31 (by decide)).trans Ir.2.2.1.2.1
    have h221 : fI σ1 89 22 = nI pn := (k1.1 22 (by decide)).trans Rc.1
    have hP1 : ∀ j, j < pn → fI σ1 219 j = nI (P j) ∧ P j < 4096 := fun j hj => ⟨(Sm1.i (by unfold fPA; omega) j).trans (Rc.2.1 j hj), ok.2.1.2.2.2.2.1 j⟩
    refine e_aload_n dX10_would_33 rfl rfl ?_
    refine e_getR (q := 197) dX10_would_34 fl_RX10_49 (Ms1.s 89 rfl) (Ms1.n (by decide)) rfl (Ms1.r 89 19 rfl) (by unfold fscr; omega) ?_
    refine e_sipush (nI 151) dX10_would_37 (by decide) ?_
    refine e_iaload 151 dX10_would_40 (Ms1.s 197 rfl) (Ms1.n (by decide)) rfl (by omega) (by decide) ?_
    refine e_int (nI (S 151)) (Mr1.s 151 (by omega)) ?_
    refine e_istore_n (L1 := [some (.ref 89), some (.int a), some (.int (nI 3)), some (.int (nI (S 151))), none, none, none, none, none, none]) dX10_would_41 rfl (by decide) rfl ?_
    refine e_aload_n dX10_would_42 rfl rfl ?_
    refine e_getR (q := 197) dX10_would_43 fl_RX10_49 (Ms1.s 89 rfl) (Ms1.n (by decide)) rfl (Ms1.r 89 19 rfl) (by unfold fscr; omega) ?_
    refine e_sipush (nI 152) dX10_would_46 (by decide) ?_
    refine e_iaload 152 dX10_would_49 (Ms1.s 197 rfl) (Ms1.n (by decide)) rfl (by omega) (by decide) ?_
    refine e_int (nI (S 152)) (Mr1.s 152 (by omega)) ?_
    refine e_istore (L1 := [some (.ref 89), some (.int a), some (.int (nI 3)), some (.int (nI (S 151))), some (.int (nI (S 152))), none, none, none, none, none]) dX10_would_50 (by decide) rfl ?_
    refine e_aload_n dX10_would_52 rfl rfl ?_
    refine e_getR (q := 197) dX10_would_53 fl_RX10_49 (Ms1.s 89 rfl) (Ms1.n (by decide)) rfl (Ms1.r 89 19 rfl) (by unfold fscr; omega) ?_
    refine e_sipush (nI 153) dX10_would_56 (by decide) ?_
    refine e_iaload 153 dX10_would_59 (Ms1.s 197 rfl) (Ms1.n (by decide)) rfl (by omega) (by decide) ?_
    refine e_int (nI (S 153)) (Mr1.s 153 (by omega)) ?_
    refine e_istore (L1 := [some (.ref 89), some (.int a), some (.int (nI 3)), some (.int (nI (S 151))), some (.int (nI (S 152))), some (.int (nI (S 153))), none, none, none, none]) dX10_would_60 (by decide) rfl ?_
    refine e_aload_n dX10_would_62 rfl rfl ?_
    refine e_getR (q := 197) dX10_would_63 fl_RX10_49 (Ms1.s 89 rfl) (Ms1.n (by decide)) rfl (Ms1.r 89 19 rfl) (by unfold fscr; omega) ?_
    refine e_sipush (nI 154) dX10_would_66 (by decide) ?_
    refine e_iaload 154 dX10_would_69 (Ms1.s 197 rfl) (Ms1.n (by decide)) rfl (by omega) (by decide) ?_
    refine e_int (nI (S 154)) (Mr1.s 154 (by omega)) ?_
    refine e_istore (L1 := [some (.ref 89), some (.int a), some (.int (nI 3)), some (.int (nI (S 151))), some (.int (nI (S 152))), some (.int (nI (S 153))), some (.int (nI (S 154))), none, none, none]) dX10_would_70 (by decide) rfl ?_
    refine e_aload_n dX10_would_72 rfl rfl ?_
    refine e_iload_n dX10_would_73 rfl rfl ?_
    refine e_callV (k := 89) [.int a] dX10_would_74 cc_X10_goes lk_RX10_256 im_X10_goes se_X10_goes (by decide) (Ms1.s 89 rfl) (Ms1.n (by decide)) rfl (Nat.le_of_ble_eq_true rfl) (Nat.le_of_ble_eq_true rfl) ?_
    refine t_X10_goes (T := T) Ms1 Mr1 hD hW hC hN h311 h221 pn3 hP1 (fun σ2 Sm2 Mr2 => fK_i ?_)
    show fEv g _ mX10_would 77 [some (.ref 89), some (.int a), some (.int (nI 3)), some (.int (nI (S 151))), some (.int (nI (S 152))), some (.int (nI (S 153))), some (.int (nI (S 154))), none, none, none] [.int (nI ((mplan D P pn 0 (S, T, a) 0).2))] σ2 Q
    have Ms2 := Ms1.sm Sm2
    have n2 : ∀ a, a ≠ 197 → ¬ fRA false a := fun a ha q => by unfold fRA at q; rcases q with q | q; exact ha q; exact absurd q.1 (by decide)
    have fw := fW_plan (P := P) hD pn 0 (S, T, a) 0 hW hC hN
    have hW2 := fw.1
    have Ro2 : fRow σ2 0 S sd := Ro1.sm Sm2 (n2 _ (by omega))
    have h212 : fI σ2 89 21 = nI (0 + 1) := (Sm2.i (n2 89 (by omega)) 21).trans h21
    refine e_istore (L1 := [some (.ref 89), some (.int a), some (.int (nI 3)), some (.int (nI (S 151))), some (.int (nI (S 152))), some (.int (nI (S 153))), some (.int (nI (S 154))), some (.int (nI ((mplan D P pn 0 (S, T, a) 0).2))), none, none]) dX10_would_77 (by decide) rfl ?_
    refine e_iconst (nI 0) dX10_would_79 (by decide) ?_
    refine e_istore (L1 := [some (.ref 89), some (.int a), some (.int (nI 3)), some (.int (nI (S 151))), some (.int (nI (S 152))), some (.int (nI (S 153))), some (.int (nI (S 154))), some (.int (nI ((mplan D P pn 0 (S, T, a) 0).2))), some (.int (nI 0)), none]) dX10_would_80 (by decide) rfl ?_
    refine e_iconst (nI 0) dX10_would_82 (by decide) ?_
    refine e_istore (L1 := [some (.ref 89), some (.int a), some (.int (nI 3)), some (.int (nI (S 151))), some (.int (nI (S 152))), some (.int (nI (S 153))), some (.int (nI (S 154))), some (.int (nI ((mplan D P pn 0 (S, T, a) 0).2))), some (.int (nI 0)), some (.int (nI 0))]) dX10_would_83 (by decide) rfl ?_
    refine e_iload dX10_would_85 rfl ?_
    refine e_aload_n dX10_would_87 rfl rfl ?_
    refine e_getR (q := 92) dX10_would_88 fl_RX10_20 (Ms2.s 89 rfl) (Ms2.n (by decide)) rfl (Ms2.r 89 10 rfl) (by unfold fscr; omega) ?_
    refine e_iconst (nI 2) dX10_would_91 (by decide) ?_
    refine e_iaload 2 dX10_would_92 (Ms2.s 92 rfl) (Ms2.n (by decide)) rfl (by omega) (by decide) ?_
    refine e_int (nI (dT D 2)) (Mr2.t 2 (by omega)) ?_
    refine e_icmp_ge 140 dX10_would_93 (by decide) (fun c93 => ?_) (fun c93 => ?_)
    · rw [nI_le' (by omega) (by omega)] at c93
      refine e_iload_n dX10_would_140 rfl rfl ?_
      refine e_if_ne 157 dX10_would_141 (by decide) (fun _ => ?_) (fun c => absurd c (by decide))
      refine e_iload_n dX10_would_157 rfl rfl ?_
      refine e_iconst (nI 1) dX10_would_158 (by decide) ?_
      refine e_icmp_ne 176 dX10_would_159 (by decide) (fun _ => ?_) (fun c => absurd c (by decide))
      refine e_iload_n dX10_would_176 rfl rfl ?_
      refine e_iconst (nI 2) dX10_would_177 (by decide) ?_
      refine e_icmp_ne 195 dX10_would_178 (by decide) (fun _ => ?_) (fun c => absurd c (by decide))
      refine e_iload_n dX10_would_195 rfl rfl ?_
      refine e_iconst (nI 3) dX10_would_196 (by decide) ?_
      refine e_icmp_ne 205 dX10_would_197 (by decide) (fun c => absurd c (by decide)) (fun _ => ?_)
      refine e_iload dX10_would_200 rfl ?_
      refine e_goto 226 dX10_would_202 (by decide) ?_
      refine e_istore (L1 := [some (.ref 89), some (.int a), some (.int (nI 3)), some (.int (nI (S 151))), some (.int (nI (S 152))), some (.int (nI (S 153))), some (.int (nI (S 154))), some (.int (nI ((mplan D P pn 0 (S, T, a) 0).2))), some (.int (nI ((mplan D P pn 0 (S, T, a) 0).2))), some (.int (nI 0))]) dX10_would_226 (by decide) rfl ?_
      refine e_aload_n dX10_would_228 rfl rfl ?_
      refine e_callV (k := 89) [] dX10_would_229 cc_X10_takes lk_RX10_259 im_X10_takes se_X10_takes (by decide) (Ms2.s 89 rfl) (Ms2.n (by decide)) rfl (Nat.le_of_ble_eq_true rfl) (Nat.le_of_ble_eq_true rfl) ?_
      refine t_X10_takes (dp := 0) Ms2 Mr2 hD (by omega) h212 Ro2 (fun σ3 Sm3 Mr3 h213 k3 => fK_v ?_)
      show fEv g _ mX10_would 232 [some (.ref 89), some (.int a), some (.int (nI 3)), some (.int (nI (S 151))), some (.int (nI (S 152))), some (.int (nI (S 153))), some (.int (nI (S 154))), some (.int (nI ((mplan D P pn 0 (S, T, a) 0).2))), some (.int (nI ((mplan D P pn 0 (S, T, a) 0).2))), some (.int (nI 0))] [] σ3 Q
      have Ms3 := Ms2.sm Sm3
      have A3 : fSm (fun a => a = 89 ∨ a = 197 ∨ (199 ≤ a ∧ a < 219)) σ σ3 := ((Sm1.to (fun a q => by unfold fPA at q; omega)).tr (Sm2.to (fun a q => by by_cases e : a = 197; omega; exact absurd q (n2 a e)))).tr (Sm3.to (fun a q => by unfold fTA at q; omega))
      have k9 : ∀ j, j ≠ 21 → fI σ3 89 j = fI σ 89 j := fun j hj => (k3.1 j hj).trans ((Sm2.i (n2 89 (by omega)) j).trans (k1.1 j hj))
      have Ir3 := Ir.back ok A3 (fun a q => q) (fun j hj => by by_cases e : j = 21; rw [e, h213, Ir.2.2.1.1]; exact k9 j e) Mr3
      have hz3 := (k9 0 (by decide)).trans hz
      have Q3 : fSm fRfA σ σ3 := A3.to (fun a q => by unfold fRfA; omega)
      refine e_iload dX10_would_232 rfl ?_
      exact e_ireturn .int dX10_would_234 rfl rfl (h σ3 Q3 Ir3 hz3)
    · rw [nI_le' (by omega) (by omega)] at c93
      refine e_iload_n dX10_would_96 rfl rfl ?_
      refine e_iconst (nI 4) dX10_would_97 (by decide) ?_
      refine e_icmp_ne 140 dX10_would_98 (by decide) (fun _ => ?_) (fun c => absurd c (by decide))
      refine e_iload_n dX10_would_140 rfl rfl ?_
      refine e_if_ne 157 dX10_would_141 (by decide) (fun _ => ?_) (fun c => absurd c (by decide))
      refine e_iload_n dX10_would_157 rfl rfl ?_
      refine e_iconst (nI 1) dX10_would_158 (by decide) ?_
      refine e_icmp_ne 176 dX10_would_159 (by decide) (fun _ => ?_) (fun c => absurd c (by decide))
      refine e_iload_n dX10_would_176 rfl rfl ?_
      refine e_iconst (nI 2) dX10_would_177 (by decide) ?_
      refine e_icmp_ne 195 dX10_would_178 (by decide) (fun _ => ?_) (fun c => absurd c (by decide))
      refine e_iload_n dX10_would_195 rfl rfl ?_
      refine e_iconst (nI 3) dX10_would_196 (by decide) ?_
      refine e_icmp_ne 205 dX10_would_197 (by decide) (fun c => absurd c (by decide)) (fun _ => ?_)
      refine e_iload dX10_would_200 rfl ?_
      refine e_goto 226 dX10_would_202 (by decide) ?_
      refine e_istore (L1 := [some (.ref 89), some (.int a), some (.int (nI 3)), some (.int (nI (S 151))), some (.int (nI (S 152))), some (.int (nI (S 153))), some (.int (nI (S 154))), some (.int (nI ((mplan D P pn 0 (S, T, a) 0).2))), some (.int (nI ((mplan D P pn 0 (S, T, a) 0).2))), some (.int (nI 0))]) dX10_would_226 (by decide) rfl ?_
      refine e_aload_n dX10_would_228 rfl rfl ?_
      refine e_callV (k := 89) [] dX10_would_229 cc_X10_takes lk_RX10_259 im_X10_takes se_X10_takes (by decide) (Ms2.s 89 rfl) (Ms2.n (by decide)) rfl (Nat.le_of_ble_eq_true rfl) (Nat.le_of_ble_eq_true rfl) ?_
      refine t_X10_takes (dp := 0) Ms2 Mr2 hD (by omega) h212 Ro2 (fun σ3 Sm3 Mr3 h213 k3 => fK_v ?_)
      show fEv g _ mX10_would 232 [some (.ref 89), some (.int a), some (.int (nI 3)), some (.int (nI (S 151))), some (.int (nI (S 152))), some (.int (nI (S 153))), some (.int (nI (S 154))), some (.int (nI ((mplan D P pn 0 (S, T, a) 0).2))), some (.int (nI ((mplan D P pn 0 (S, T, a) 0).2))), some (.int (nI 0))] [] σ3 Q
      have Ms3 := Ms2.sm Sm3
      have A3 : fSm (fun a => a = 89 ∨ a = 197 ∨ (199 ≤ a ∧ a < 219)) σ σ3 := ((Sm1.to (fun a q => by unfold fPA at q; omega)).tr (Sm2.to (fun a q => by by_cases e : a = 197; omega; exact absurd q (n2 a e)))).tr (Sm3.to (fun a q => by unfold fTA at q; omega))
      have k9 : ∀ j, j ≠ 21 → fI σ3 89 j = fI σ 89 j := fun j hj => (k3.1 j hj).trans ((Sm2.i (n2 89 (by omega)) j).trans (k1.1 j hj))
      have Ir3 := Ir.back ok A3 (fun a q => q) (fun j hj => by by_cases e : j = 21; rw [e, h213, Ir.2.2.1.1]; exact k9 j e) Mr3
      have hz3 := (k9 0 (by decide)).trans hz
      have Q3 : fSm fRfA σ σ3 := A3.to (fun a q => by unfold fRfA; omega)
      refine e_iload dX10_would_232 rfl ?_
      exact e_ireturn .int dX10_would_234 rfl rfl (h σ3 Q3 Ir3 hz3)
  · show fEv g (d + 5) mX10_would 5 [some (.ref 89), some (.int a), some (.int (nI 4)), none, none, none, none, none, none, none] [] σ Q
    refine e_aload_n dX10_would_5 rfl rfl ?_
    refine e_iload_n dX10_would_6 rfl rfl ?_
    refine e_iconst (nI 0) dX10_would_7 (by decide) ?_
    refine e_iconst (nI 5) dX10_would_8 (by decide) ?_
    refine e_callS [.int (nI 4), .int (nI 0), .int (nI 5)] dX10_would_9 cc_X10_in lk_RX10_110 st_X10_in in_RX10 rfl (Nat.le_of_ble_eq_true rfl) (Nat.le_of_ble_eq_true rfl) ?_
    refine t_X10_inT ⟨(nI_le' (by omega) (by omega)).mpr (by omega), (nI_le' (by omega) (by omega)).mpr (by omega)⟩ (fK_i ?_)
    show fEv g _ mX10_would 12 [some (.ref 89), some (.int a), some (.int (nI 4)), none, none, none, none, none, none, none] [.int (nI 1), .ref 89] σ Q
    refine e_if_ne 19 dX10_would_12 (by decide) (fun _ => ?_) (fun c => absurd c (by decide))
    refine e_iconst (nI 0) dX10_would_19 (by decide) ?_
    refine e_iconst (nI 1) dX10_would_20 (by decide) ?_
    refine e_callV (k := 89) [.int (nI 0), .int (nI 1)] dX10_would_21 cc_X10_bad lk_RX10_148 im_X10_bad se_X10_bad (by decide) (Ms.s 89 rfl) (Ms.n (by decide)) rfl (Nat.le_of_ble_eq_true rfl) (Nat.le_of_ble_eq_true rfl) ?_
    refine t_X10_bad0 Ms hz (by decide) (fK_i ?_)
    show fEv g _ mX10_would 24 [some (.ref 89), some (.int a), some (.int (nI 4)), none, none, none, none, none, none, none] [.int (nI 0)] σ Q
    refine e_if_eq 29 dX10_would_24 (by decide) (fun _ => ?_) (fun c => absurd c (by decide))
    refine e_aload_n dX10_would_29 rfl rfl ?_
    refine e_callV (k := 89) [] dX10_would_30 cc_X10_puts lk_RX10_253 im_X10_puts se_X10_puts (by decide) (Ms.s 89 rfl) (Ms.n (by decide)) rfl (Nat.le_of_ble_eq_true rfl) (Nat.le_of_ble_eq_true rfl) ?_
    refine t_X10_puts (dp := 0) Ms Mr hD (by omega) Ir.2.2.1.1 (fun σ1 Sm1 Mr1 Ro1 h21 k1 => fK_v ?_)
    show fEv g _ mX10_would 33 [some (.ref 89), some (.int a), some (.int (nI 4)), none, none, none, none, none, none, none] [] σ1 Q
    have Ms1 := Ms.sm Sm1
    have h311 : fI σ1 89 31 = nI (bn false) := (k1.1 31 (by decide)).trans Ir.2.2.1.2.1
    have h221 : fI σ1 89 22 = nI pn := (k1.1 22 (by decide)).trans Rc.1
    have hP1 : ∀ j, j < pn → fI σ1 219 j = nI (P j) ∧ P j < 4096 := fun j hj => ⟨(Sm1.i (by unfold fPA; omega) j).trans (Rc.2.1 j hj), ok.2.1.2.2.2.2.1 j⟩
    refine e_aload_n dX10_would_33 rfl rfl ?_
    refine e_getR (q := 197) dX10_would_34 fl_RX10_49 (Ms1.s 89 rfl) (Ms1.n (by decide)) rfl (Ms1.r 89 19 rfl) (by unfold fscr; omega) ?_
    refine e_sipush (nI 151) dX10_would_37 (by decide) ?_
    refine e_iaload 151 dX10_would_40 (Ms1.s 197 rfl) (Ms1.n (by decide)) rfl (by omega) (by decide) ?_
    refine e_int (nI (S 151)) (Mr1.s 151 (by omega)) ?_
    refine e_istore_n (L1 := [some (.ref 89), some (.int a), some (.int (nI 4)), some (.int (nI (S 151))), none, none, none, none, none, none]) dX10_would_41 rfl (by decide) rfl ?_
    refine e_aload_n dX10_would_42 rfl rfl ?_
    refine e_getR (q := 197) dX10_would_43 fl_RX10_49 (Ms1.s 89 rfl) (Ms1.n (by decide)) rfl (Ms1.r 89 19 rfl) (by unfold fscr; omega) ?_
    refine e_sipush (nI 152) dX10_would_46 (by decide) ?_
    refine e_iaload 152 dX10_would_49 (Ms1.s 197 rfl) (Ms1.n (by decide)) rfl (by omega) (by decide) ?_
    refine e_int (nI (S 152)) (Mr1.s 152 (by omega)) ?_
    refine e_istore (L1 := [some (.ref 89), some (.int a), some (.int (nI 4)), some (.int (nI (S 151))), some (.int (nI (S 152))), none, none, none, none, none]) dX10_would_50 (by decide) rfl ?_
    refine e_aload_n dX10_would_52 rfl rfl ?_
    refine e_getR (q := 197) dX10_would_53 fl_RX10_49 (Ms1.s 89 rfl) (Ms1.n (by decide)) rfl (Ms1.r 89 19 rfl) (by unfold fscr; omega) ?_
    refine e_sipush (nI 153) dX10_would_56 (by decide) ?_
    refine e_iaload 153 dX10_would_59 (Ms1.s 197 rfl) (Ms1.n (by decide)) rfl (by omega) (by decide) ?_
    refine e_int (nI (S 153)) (Mr1.s 153 (by omega)) ?_
    refine e_istore (L1 := [some (.ref 89), some (.int a), some (.int (nI 4)), some (.int (nI (S 151))), some (.int (nI (S 152))), some (.int (nI (S 153))), none, none, none, none]) dX10_would_60 (by decide) rfl ?_
    refine e_aload_n dX10_would_62 rfl rfl ?_
    refine e_getR (q := 197) dX10_would_63 fl_RX10_49 (Ms1.s 89 rfl) (Ms1.n (by decide)) rfl (Ms1.r 89 19 rfl) (by unfold fscr; omega) ?_
    refine e_sipush (nI 154) dX10_would_66 (by decide) ?_
    refine e_iaload 154 dX10_would_69 (Ms1.s 197 rfl) (Ms1.n (by decide)) rfl (by omega) (by decide) ?_
    refine e_int (nI (S 154)) (Mr1.s 154 (by omega)) ?_
    refine e_istore (L1 := [some (.ref 89), some (.int a), some (.int (nI 4)), some (.int (nI (S 151))), some (.int (nI (S 152))), some (.int (nI (S 153))), some (.int (nI (S 154))), none, none, none]) dX10_would_70 (by decide) rfl ?_
    refine e_aload_n dX10_would_72 rfl rfl ?_
    refine e_iload_n dX10_would_73 rfl rfl ?_
    refine e_callV (k := 89) [.int a] dX10_would_74 cc_X10_goes lk_RX10_256 im_X10_goes se_X10_goes (by decide) (Ms1.s 89 rfl) (Ms1.n (by decide)) rfl (Nat.le_of_ble_eq_true rfl) (Nat.le_of_ble_eq_true rfl) ?_
    refine t_X10_goes (T := T) Ms1 Mr1 hD hW hC hN h311 h221 pn3 hP1 (fun σ2 Sm2 Mr2 => fK_i ?_)
    show fEv g _ mX10_would 77 [some (.ref 89), some (.int a), some (.int (nI 4)), some (.int (nI (S 151))), some (.int (nI (S 152))), some (.int (nI (S 153))), some (.int (nI (S 154))), none, none, none] [.int (nI ((mplan D P pn 0 (S, T, a) 0).2))] σ2 Q
    have Ms2 := Ms1.sm Sm2
    have n2 : ∀ a, a ≠ 197 → ¬ fRA false a := fun a ha q => by unfold fRA at q; rcases q with q | q; exact ha q; exact absurd q.1 (by decide)
    have fw := fW_plan (P := P) hD pn 0 (S, T, a) 0 hW hC hN
    have hW2 := fw.1
    have Ro2 : fRow σ2 0 S sd := Ro1.sm Sm2 (n2 _ (by omega))
    have h212 : fI σ2 89 21 = nI (0 + 1) := (Sm2.i (n2 89 (by omega)) 21).trans h21
    refine e_istore (L1 := [some (.ref 89), some (.int a), some (.int (nI 4)), some (.int (nI (S 151))), some (.int (nI (S 152))), some (.int (nI (S 153))), some (.int (nI (S 154))), some (.int (nI ((mplan D P pn 0 (S, T, a) 0).2))), none, none]) dX10_would_77 (by decide) rfl ?_
    refine e_iconst (nI 0) dX10_would_79 (by decide) ?_
    refine e_istore (L1 := [some (.ref 89), some (.int a), some (.int (nI 4)), some (.int (nI (S 151))), some (.int (nI (S 152))), some (.int (nI (S 153))), some (.int (nI (S 154))), some (.int (nI ((mplan D P pn 0 (S, T, a) 0).2))), some (.int (nI 0)), none]) dX10_would_80 (by decide) rfl ?_
    refine e_iconst (nI 0) dX10_would_82 (by decide) ?_
    refine e_istore (L1 := [some (.ref 89), some (.int a), some (.int (nI 4)), some (.int (nI (S 151))), some (.int (nI (S 152))), some (.int (nI (S 153))), some (.int (nI (S 154))), some (.int (nI ((mplan D P pn 0 (S, T, a) 0).2))), some (.int (nI 0)), some (.int (nI 0))]) dX10_would_83 (by decide) rfl ?_
    refine l_X10_wd85 Ms2 Mr2 hD hW2 (dT D 2) 0 0 (by omega) ?_
    rw [Nat.zero_add]
    refine e_iload_n dX10_would_140 rfl rfl ?_
    refine e_if_ne 157 dX10_would_141 (by decide) (fun _ => ?_) (fun c => absurd c (by decide))
    refine e_iload_n dX10_would_157 rfl rfl ?_
    refine e_iconst (nI 1) dX10_would_158 (by decide) ?_
    refine e_icmp_ne 176 dX10_would_159 (by decide) (fun _ => ?_) (fun c => absurd c (by decide))
    refine e_iload_n dX10_would_176 rfl rfl ?_
    refine e_iconst (nI 2) dX10_would_177 (by decide) ?_
    refine e_icmp_ne 195 dX10_would_178 (by decide) (fun _ => ?_) (fun c => absurd c (by decide))
    refine e_iload_n dX10_would_195 rfl rfl ?_
    refine e_iconst (nI 3) dX10_would_196 (by decide) ?_
    refine e_icmp_ne 205 dX10_would_197 (by decide) (fun _ => ?_) (fun c => absurd c (by decide))
    refine e_iload_n dX10_would_205 rfl rfl ?_
    refine e_iconst (nI 5) dX10_would_206 (by decide) ?_
    refine e_icmp_ne 224 dX10_would_207 (by decide) (fun _ => ?_) (fun c => absurd c (by decide))
    refine e_iload dX10_would_224 rfl ?_
    refine e_istore (L1 := [some (.ref 89), some (.int a), some (.int (nI 4)), some (.int (nI (S 151))), some (.int (nI (S 152))), some (.int (nI (S 153))), some (.int (nI (S 154))), some (.int (nI ((mplan D P pn 0 (S, T, a) 0).2))), some (.int (nI (mct (mdone D (mplan D P pn 0 (S, T, a) 0).1.1) (dT D 2) 0))), some (.int (nI (dT D 2)))]) dX10_would_226 (by decide) rfl ?_
    refine e_aload_n dX10_would_228 rfl rfl ?_
    refine e_callV (k := 89) [] dX10_would_229 cc_X10_takes lk_RX10_259 im_X10_takes se_X10_takes (by decide) (Ms2.s 89 rfl) (Ms2.n (by decide)) rfl (Nat.le_of_ble_eq_true rfl) (Nat.le_of_ble_eq_true rfl) ?_
    refine t_X10_takes (dp := 0) Ms2 Mr2 hD (by omega) h212 Ro2 (fun σ3 Sm3 Mr3 h213 k3 => fK_v ?_)
    show fEv g _ mX10_would 232 [some (.ref 89), some (.int a), some (.int (nI 4)), some (.int (nI (S 151))), some (.int (nI (S 152))), some (.int (nI (S 153))), some (.int (nI (S 154))), some (.int (nI ((mplan D P pn 0 (S, T, a) 0).2))), some (.int (nI (mct (mdone D (mplan D P pn 0 (S, T, a) 0).1.1) (dT D 2) 0))), some (.int (nI (dT D 2)))] [] σ3 Q
    have Ms3 := Ms2.sm Sm3
    have A3 : fSm (fun a => a = 89 ∨ a = 197 ∨ (199 ≤ a ∧ a < 219)) σ σ3 := ((Sm1.to (fun a q => by unfold fPA at q; omega)).tr (Sm2.to (fun a q => by by_cases e : a = 197; omega; exact absurd q (n2 a e)))).tr (Sm3.to (fun a q => by unfold fTA at q; omega))
    have k9 : ∀ j, j ≠ 21 → fI σ3 89 j = fI σ 89 j := fun j hj => (k3.1 j hj).trans ((Sm2.i (n2 89 (by omega)) j).trans (k1.1 j hj))
    have Ir3 := Ir.back ok A3 (fun a q => q) (fun j hj => by by_cases e : j = 21; rw [e, h213, Ir.2.2.1.1]; exact k9 j e) Mr3
    have hz3 := (k9 0 (by decide)).trans hz
    have Q3 : fSm fRfA σ σ3 := A3.to (fun a q => by unfold fRfA; omega)
    refine e_iload dX10_would_232 rfl ?_
    exact e_ireturn .int dX10_would_234 rfl rfl (h σ3 Q3 Ir3 hz3)
  · show fEv g (d + 5) mX10_would 5 [some (.ref 89), some (.int a), some (.int (nI 5)), none, none, none, none, none, none, none] [] σ Q
    refine e_aload_n dX10_would_5 rfl rfl ?_
    refine e_iload_n dX10_would_6 rfl rfl ?_
    refine e_iconst (nI 0) dX10_would_7 (by decide) ?_
    refine e_iconst (nI 5) dX10_would_8 (by decide) ?_
    refine e_callS [.int (nI 5), .int (nI 0), .int (nI 5)] dX10_would_9 cc_X10_in lk_RX10_110 st_X10_in in_RX10 rfl (Nat.le_of_ble_eq_true rfl) (Nat.le_of_ble_eq_true rfl) ?_
    refine t_X10_inT ⟨(nI_le' (by omega) (by omega)).mpr (by omega), (nI_le' (by omega) (by omega)).mpr (by omega)⟩ (fK_i ?_)
    show fEv g _ mX10_would 12 [some (.ref 89), some (.int a), some (.int (nI 5)), none, none, none, none, none, none, none] [.int (nI 1), .ref 89] σ Q
    refine e_if_ne 19 dX10_would_12 (by decide) (fun _ => ?_) (fun c => absurd c (by decide))
    refine e_iconst (nI 0) dX10_would_19 (by decide) ?_
    refine e_iconst (nI 1) dX10_would_20 (by decide) ?_
    refine e_callV (k := 89) [.int (nI 0), .int (nI 1)] dX10_would_21 cc_X10_bad lk_RX10_148 im_X10_bad se_X10_bad (by decide) (Ms.s 89 rfl) (Ms.n (by decide)) rfl (Nat.le_of_ble_eq_true rfl) (Nat.le_of_ble_eq_true rfl) ?_
    refine t_X10_bad0 Ms hz (by decide) (fK_i ?_)
    show fEv g _ mX10_would 24 [some (.ref 89), some (.int a), some (.int (nI 5)), none, none, none, none, none, none, none] [.int (nI 0)] σ Q
    refine e_if_eq 29 dX10_would_24 (by decide) (fun _ => ?_) (fun c => absurd c (by decide))
    refine e_aload_n dX10_would_29 rfl rfl ?_
    refine e_callV (k := 89) [] dX10_would_30 cc_X10_puts lk_RX10_253 im_X10_puts se_X10_puts (by decide) (Ms.s 89 rfl) (Ms.n (by decide)) rfl (Nat.le_of_ble_eq_true rfl) (Nat.le_of_ble_eq_true rfl) ?_
    refine t_X10_puts (dp := 0) Ms Mr hD (by omega) Ir.2.2.1.1 (fun σ1 Sm1 Mr1 Ro1 h21 k1 => fK_v ?_)
    show fEv g _ mX10_would 33 [some (.ref 89), some (.int a), some (.int (nI 5)), none, none, none, none, none, none, none] [] σ1 Q
    have Ms1 := Ms.sm Sm1
    have h311 : fI σ1 89 31 = nI (bn false) := (k1.1 31 (by decide)).trans Ir.2.2.1.2.1
    have h221 : fI σ1 89 22 = nI pn := (k1.1 22 (by decide)).trans Rc.1
    have hP1 : ∀ j, j < pn → fI σ1 219 j = nI (P j) ∧ P j < 4096 := fun j hj => ⟨(Sm1.i (by unfold fPA; omega) j).trans (Rc.2.1 j hj), ok.2.1.2.2.2.2.1 j⟩
    refine e_aload_n dX10_would_33 rfl rfl ?_
    refine e_getR (q := 197) dX10_would_34 fl_RX10_49 (Ms1.s 89 rfl) (Ms1.n (by decide)) rfl (Ms1.r 89 19 rfl) (by unfold fscr; omega) ?_
    refine e_sipush (nI 151) dX10_would_37 (by decide) ?_
    refine e_iaload 151 dX10_would_40 (Ms1.s 197 rfl) (Ms1.n (by decide)) rfl (by omega) (by decide) ?_
    refine e_int (nI (S 151)) (Mr1.s 151 (by omega)) ?_
    refine e_istore_n (L1 := [some (.ref 89), some (.int a), some (.int (nI 5)), some (.int (nI (S 151))), none, none, none, none, none, none]) dX10_would_41 rfl (by decide) rfl ?_
    refine e_aload_n dX10_would_42 rfl rfl ?_
    refine e_getR (q := 197) dX10_would_43 fl_RX10_49 (Ms1.s 89 rfl) (Ms1.n (by decide)) rfl (Ms1.r 89 19 rfl) (by unfold fscr; omega) ?_
    refine e_sipush (nI 152) dX10_would_46 (by decide) ?_
    refine e_iaload 152 dX10_would_49 (Ms1.s 197 rfl) (Ms1.n (by decide)) rfl (by omega) (by decide) ?_
    refine e_int (nI (S 152)) (Mr1.s 152 (by omega)) ?_
    refine e_istore (L1 := [some (.ref 89), some (.int a), some (.int (nI 5)), some (.int (nI (S 151))), some (.int (nI (S 152))), none, none, none, none, none]) dX10_would_50 (by decide) rfl ?_
    refine e_aload_n dX10_would_52 rfl rfl ?_
    refine e_getR (q := 197) dX10_would_53 fl_RX10_49 (Ms1.s 89 rfl) (Ms1.n (by decide)) rfl (Ms1.r 89 19 rfl) (by unfold fscr; omega) ?_
    refine e_sipush (nI 153) dX10_would_56 (by decide) ?_
    refine e_iaload 153 dX10_would_59 (Ms1.s 197 rfl) (Ms1.n (by decide)) rfl (by omega) (by decide) ?_
    refine e_int (nI (S 153)) (Mr1.s 153 (by omega)) ?_
    refine e_istore (L1 := [some (.ref 89), some (.int a), some (.int (nI 5)), some (.int (nI (S 151))), some (.int (nI (S 152))), some (.int (nI (S 153))), none, none, none, none]) dX10_would_60 (by decide) rfl ?_
    refine e_aload_n dX10_would_62 rfl rfl ?_
    refine e_getR (q := 197) dX10_would_63 fl_RX10_49 (Ms1.s 89 rfl) (Ms1.n (by decide)) rfl (Ms1.r 89 19 rfl) (by unfold fscr; omega) ?_
    refine e_sipush (nI 154) dX10_would_66 (by decide) ?_
    refine e_iaload 154 dX10_would_69 (Ms1.s 197 rfl) (Ms1.n (by decide)) rfl (by omega) (by decide) ?_
    refine e_int (nI (S 154)) (Mr1.s 154 (by omega)) ?_
    refine e_istore (L1 := [some (.ref 89), some (.int a), some (.int (nI 5)), some (.int (nI (S 151))), some (.int (nI (S 152))), some (.int (nI (S 153))), some (.int (nI (S 154))), none, none, none]) dX10_would_70 (by decide) rfl ?_
    refine e_aload_n dX10_would_72 rfl rfl ?_
    refine e_iload_n dX10_would_73 rfl rfl ?_
    refine e_callV (k := 89) [.int a] dX10_would_74 cc_X10_goes lk_RX10_256 im_X10_goes se_X10_goes (by decide) (Ms1.s 89 rfl) (Ms1.n (by decide)) rfl (Nat.le_of_ble_eq_true rfl) (Nat.le_of_ble_eq_true rfl) ?_
    refine t_X10_goes (T := T) Ms1 Mr1 hD hW hC hN h311 h221 pn3 hP1 (fun σ2 Sm2 Mr2 => fK_i ?_)
    show fEv g _ mX10_would 77 [some (.ref 89), some (.int a), some (.int (nI 5)), some (.int (nI (S 151))), some (.int (nI (S 152))), some (.int (nI (S 153))), some (.int (nI (S 154))), none, none, none] [.int (nI ((mplan D P pn 0 (S, T, a) 0).2))] σ2 Q
    have Ms2 := Ms1.sm Sm2
    have n2 : ∀ a, a ≠ 197 → ¬ fRA false a := fun a ha q => by unfold fRA at q; rcases q with q | q; exact ha q; exact absurd q.1 (by decide)
    have fw := fW_plan (P := P) hD pn 0 (S, T, a) 0 hW hC hN
    have hW2 := fw.1
    have Ro2 : fRow σ2 0 S sd := Ro1.sm Sm2 (n2 _ (by omega))
    have h212 : fI σ2 89 21 = nI (0 + 1) := (Sm2.i (n2 89 (by omega)) 21).trans h21
    refine e_istore (L1 := [some (.ref 89), some (.int a), some (.int (nI 5)), some (.int (nI (S 151))), some (.int (nI (S 152))), some (.int (nI (S 153))), some (.int (nI (S 154))), some (.int (nI ((mplan D P pn 0 (S, T, a) 0).2))), none, none]) dX10_would_77 (by decide) rfl ?_
    refine e_iconst (nI 0) dX10_would_79 (by decide) ?_
    refine e_istore (L1 := [some (.ref 89), some (.int a), some (.int (nI 5)), some (.int (nI (S 151))), some (.int (nI (S 152))), some (.int (nI (S 153))), some (.int (nI (S 154))), some (.int (nI ((mplan D P pn 0 (S, T, a) 0).2))), some (.int (nI 0)), none]) dX10_would_80 (by decide) rfl ?_
    refine e_iconst (nI 0) dX10_would_82 (by decide) ?_
    refine e_istore (L1 := [some (.ref 89), some (.int a), some (.int (nI 5)), some (.int (nI (S 151))), some (.int (nI (S 152))), some (.int (nI (S 153))), some (.int (nI (S 154))), some (.int (nI ((mplan D P pn 0 (S, T, a) 0).2))), some (.int (nI 0)), some (.int (nI 0))]) dX10_would_83 (by decide) rfl ?_
    refine e_iload dX10_would_85 rfl ?_
    refine e_aload_n dX10_would_87 rfl rfl ?_
    refine e_getR (q := 92) dX10_would_88 fl_RX10_20 (Ms2.s 89 rfl) (Ms2.n (by decide)) rfl (Ms2.r 89 10 rfl) (by unfold fscr; omega) ?_
    refine e_iconst (nI 2) dX10_would_91 (by decide) ?_
    refine e_iaload 2 dX10_would_92 (Ms2.s 92 rfl) (Ms2.n (by decide)) rfl (by omega) (by decide) ?_
    refine e_int (nI (dT D 2)) (Mr2.t 2 (by omega)) ?_
    refine e_icmp_ge 140 dX10_would_93 (by decide) (fun c93 => ?_) (fun c93 => ?_)
    · rw [nI_le' (by omega) (by omega)] at c93
      refine e_iload_n dX10_would_140 rfl rfl ?_
      refine e_if_ne 157 dX10_would_141 (by decide) (fun _ => ?_) (fun c => absurd c (by decide))
      refine e_iload_n dX10_would_157 rfl rfl ?_
      refine e_iconst (nI 1) dX10_would_158 (by decide) ?_
      refine e_icmp_ne 176 dX10_would_159 (by decide) (fun _ => ?_) (fun c => absurd c (by decide))
      refine e_iload_n dX10_would_176 rfl rfl ?_
      refine e_iconst (nI 2) dX10_would_177 (by decide) ?_
      refine e_icmp_ne 195 dX10_would_178 (by decide) (fun _ => ?_) (fun c => absurd c (by decide))
      refine e_iload_n dX10_would_195 rfl rfl ?_
      refine e_iconst (nI 3) dX10_would_196 (by decide) ?_
      refine e_icmp_ne 205 dX10_would_197 (by decide) (fun _ => ?_) (fun c => absurd c (by decide))
      refine e_iload_n dX10_would_205 rfl rfl ?_
      refine e_iconst (nI 5) dX10_would_206 (by decide) ?_
      refine e_icmp_ne 224 dX10_would_207 (by decide) (fun c => absurd c (by decide)) (fun _ => ?_)
      refine e_aload_n dX10_would_210 rfl rfl ?_
      refine e_getR (q := 197) dX10_would_211 fl_RX10_49 (Ms2.s 89 rfl) (Ms2.n (by decide)) rfl (Ms2.r 89 19 rfl) (by unfold fscr; omega) ?_
      refine e_sipush (nI 154) dX10_would_214 (by decide) ?_
      refine e_iaload 154 dX10_would_217 (Ms2.s 197 rfl) (Ms2.n (by decide)) rfl (by omega) (by decide) ?_
      refine e_int (nI ((mplan D P pn 0 (S, T, a) 0).1.1 154)) (Mr2.s 154 (by omega)) ?_
      refine e_iload dX10_would_218 rfl ?_
      refine e_isub dX10_would_220 ?_
      refine e_goto 226 dX10_would_221 (by decide) ?_
      refine e_istore (L1 := [some (.ref 89), some (.int a), some (.int (nI 5)), some (.int (nI (S 151))), some (.int (nI (S 152))), some (.int (nI (S 153))), some (.int (nI (S 154))), some (.int (nI ((mplan D P pn 0 (S, T, a) 0).2))), some (.int ((nI ((mplan D P pn 0 (S, T, a) 0).1.1 154)) - (nI (S 154)))), some (.int (nI 0))]) dX10_would_226 (by decide) rfl ?_
      refine e_aload_n dX10_would_228 rfl rfl ?_
      refine e_callV (k := 89) [] dX10_would_229 cc_X10_takes lk_RX10_259 im_X10_takes se_X10_takes (by decide) (Ms2.s 89 rfl) (Ms2.n (by decide)) rfl (Nat.le_of_ble_eq_true rfl) (Nat.le_of_ble_eq_true rfl) ?_
      refine t_X10_takes (dp := 0) Ms2 Mr2 hD (by omega) h212 Ro2 (fun σ3 Sm3 Mr3 h213 k3 => fK_v ?_)
      show fEv g _ mX10_would 232 [some (.ref 89), some (.int a), some (.int (nI 5)), some (.int (nI (S 151))), some (.int (nI (S 152))), some (.int (nI (S 153))), some (.int (nI (S 154))), some (.int (nI ((mplan D P pn 0 (S, T, a) 0).2))), some (.int ((nI ((mplan D P pn 0 (S, T, a) 0).1.1 154)) - (nI (S 154)))), some (.int (nI 0))] [] σ3 Q
      have Ms3 := Ms2.sm Sm3
      have A3 : fSm (fun a => a = 89 ∨ a = 197 ∨ (199 ≤ a ∧ a < 219)) σ σ3 := ((Sm1.to (fun a q => by unfold fPA at q; omega)).tr (Sm2.to (fun a q => by by_cases e : a = 197; omega; exact absurd q (n2 a e)))).tr (Sm3.to (fun a q => by unfold fTA at q; omega))
      have k9 : ∀ j, j ≠ 21 → fI σ3 89 j = fI σ 89 j := fun j hj => (k3.1 j hj).trans ((Sm2.i (n2 89 (by omega)) j).trans (k1.1 j hj))
      have Ir3 := Ir.back ok A3 (fun a q => q) (fun j hj => by by_cases e : j = 21; rw [e, h213, Ir.2.2.1.1]; exact k9 j e) Mr3
      have hz3 := (k9 0 (by decide)).trans hz
      have Q3 : fSm fRfA σ σ3 := A3.to (fun a q => by unfold fRfA; omega)
      refine e_iload dX10_would_232 rfl ?_
      exact e_ireturn .int dX10_would_234 rfl rfl (h σ3 Q3 Ir3 hz3)
    · rw [nI_le' (by omega) (by omega)] at c93
      refine e_iload_n dX10_would_96 rfl rfl ?_
      refine e_iconst (nI 4) dX10_would_97 (by decide) ?_
      refine e_icmp_ne 140 dX10_would_98 (by decide) (fun _ => ?_) (fun c => absurd c (by decide))
      refine e_iload_n dX10_would_140 rfl rfl ?_
      refine e_if_ne 157 dX10_would_141 (by decide) (fun _ => ?_) (fun c => absurd c (by decide))
      refine e_iload_n dX10_would_157 rfl rfl ?_
      refine e_iconst (nI 1) dX10_would_158 (by decide) ?_
      refine e_icmp_ne 176 dX10_would_159 (by decide) (fun _ => ?_) (fun c => absurd c (by decide))
      refine e_iload_n dX10_would_176 rfl rfl ?_
      refine e_iconst (nI 2) dX10_would_177 (by decide) ?_
      refine e_icmp_ne 195 dX10_would_178 (by decide) (fun _ => ?_) (fun c => absurd c (by decide))
      refine e_iload_n dX10_would_195 rfl rfl ?_
      refine e_iconst (nI 3) dX10_would_196 (by decide) ?_
      refine e_icmp_ne 205 dX10_would_197 (by decide) (fun _ => ?_) (fun c => absurd c (by decide))
      refine e_iload_n dX10_would_205 rfl rfl ?_
      refine e_iconst (nI 5) dX10_would_206 (by decide) ?_
      refine e_icmp_ne 224 dX10_would_207 (by decide) (fun c => absurd c (by decide)) (fun _ => ?_)
      refine e_aload_n dX10_would_210 rfl rfl ?_
      refine e_getR (q := 197) dX10_would_211 fl_RX10_49 (Ms2.s 89 rfl) (Ms2.n (by decide)) rfl (Ms2.r 89 19 rfl) (by unfold fscr; omega) ?_
      refine e_sipush (nI 154) dX10_would_214 (by decide) ?_
      refine e_iaload 154 dX10_would_217 (Ms2.s 197 rfl) (Ms2.n (by decide)) rfl (by omega) (by decide) ?_
      refine e_int (nI ((mplan D P pn 0 (S, T, a) 0).1.1 154)) (Mr2.s 154 (by omega)) ?_
      refine e_iload dX10_would_218 rfl ?_
      refine e_isub dX10_would_220 ?_
      refine e_goto 226 dX10_would_221 (by decide) ?_
      refine e_istore (L1 := [some (.ref 89), some (.int a), some (.int (nI 5)), some (.int (nI (S 151))), some (.int (nI (S 152))), some (.int (nI (S 153))), some (.int (nI (S 154))), some (.int (nI ((mplan D P pn 0 (S, T, a) 0).2))), some (.int ((nI ((mplan D P pn 0 (S, T, a) 0).1.1 154)) - (nI (S 154)))), some (.int (nI 0))]) dX10_would_226 (by decide) rfl ?_
      refine e_aload_n dX10_would_228 rfl rfl ?_
      refine e_callV (k := 89) [] dX10_would_229 cc_X10_takes lk_RX10_259 im_X10_takes se_X10_takes (by decide) (Ms2.s 89 rfl) (Ms2.n (by decide)) rfl (Nat.le_of_ble_eq_true rfl) (Nat.le_of_ble_eq_true rfl) ?_
      refine t_X10_takes (dp := 0) Ms2 Mr2 hD (by omega) h212 Ro2 (fun σ3 Sm3 Mr3 h213 k3 => fK_v ?_)
      show fEv g _ mX10_would 232 [some (.ref 89), some (.int a), some (.int (nI 5)), some (.int (nI (S 151))), some (.int (nI (S 152))), some (.int (nI (S 153))), some (.int (nI (S 154))), some (.int (nI ((mplan D P pn 0 (S, T, a) 0).2))), some (.int ((nI ((mplan D P pn 0 (S, T, a) 0).1.1 154)) - (nI (S 154)))), some (.int (nI 0))] [] σ3 Q
      have Ms3 := Ms2.sm Sm3
      have A3 : fSm (fun a => a = 89 ∨ a = 197 ∨ (199 ≤ a ∧ a < 219)) σ σ3 := ((Sm1.to (fun a q => by unfold fPA at q; omega)).tr (Sm2.to (fun a q => by by_cases e : a = 197; omega; exact absurd q (n2 a e)))).tr (Sm3.to (fun a q => by unfold fTA at q; omega))
      have k9 : ∀ j, j ≠ 21 → fI σ3 89 j = fI σ 89 j := fun j hj => (k3.1 j hj).trans ((Sm2.i (n2 89 (by omega)) j).trans (k1.1 j hj))
      have Ir3 := Ir.back ok A3 (fun a q => q) (fun j hj => by by_cases e : j = 21; rw [e, h213, Ir.2.2.1.1]; exact k9 j e) Mr3
      have hz3 := (k9 0 (by decide)).trans hz
      have Q3 : fSm fRfA σ σ3 := A3.to (fun a q => by unfold fRfA; omega)
      refine e_iload dX10_would_232 rfl ?_
      exact e_ireturn .int dX10_would_234 rfl rfl (h σ3 Q3 Ir3 hz3)
set_option maxRecDepth 20000 in
theorem t_X10_would {g : fGP} {d : Nat} {σ : fAH} {Q : fRes → fAH → Prop} {x : fXS} {a : Int32} {w : Nat}  (Ms : fMs g σ) (ok : fOK x) (Ir : fIr σ x) (hw : w < 6) (h : ∀ σ', fSm fRfA σ σ' → fIr σ' x → fI σ' 89 0 = nI 0 → Q (.inl (some (.int (vWould (xD x) (iS (xI x)) (mplan (xD x) (iP (xI x)) (ipn (xI x)) 0 ((iS (xI x)), (iT (xI x)), a) 0) w)))) σ') : fEv g (d + 5) mX10_would 0 (fent [.ref 89, .int a, .int (nI w)] 10) [] σ Q := by
  have S9 : fSm (fun a => a = 89) σ (fsI σ 89 0 (nI 0)) := fSm_I rfl
  show fEv g (d + 5) mX10_would 0 [some (.ref 89), some (.int a), some (.int (nI w)), none, none, none, none, none, none, none] [] σ Q
  refine e_aload_n dX10_would_0 rfl rfl ?_
  refine e_iconst (nI 0) dX10_would_1 (by decide) ?_
  refine e_putI dX10_would_2 fl_RX10_76 (Ms.s 89 rfl) (Ms.n (by decide)) rfl rfl ?_
  exact lp_X10_would (Ms.sm S9) ok (Ir.f0 ok S9 (fun a (q : a = 89) => Or.inl (by omega)) (fun j hj => by simp only [List.mem_cons, List.not_mem_nil, or_false] at hj; rw [fI_I, if_neg (by omega)])) (by rw [fI_I, if_pos ⟨rfl, rfl⟩]) hw (fun σ' Sm' => h σ' ((S9.to (fun a (q : a = 89) => by unfold fRfA; omega)).tr Sm'))
set_option maxRecDepth 20000 in
theorem lp_X10_wouldE {g : fGP} {d : Nat} {σ : fAH} {Q : fRes → fAH → Prop} {x : fXS} {a b : Int32}  (Ms : fMs g σ) (ok : fOK x) (Ir : fIr σ x) (hz : fI σ 89 0 = nI 0) (hv : ¬ (nI 0 ≤ b ∧ b ≤ nI 5)) (h : ∀ σ', fSm fRfA σ σ' → fIr σ' x → fI σ' 89 0 = nI 1 → Q (.inl (some (.int (nI 0)))) σ') : fEv g (d + 1) mX10_would 5 [some (.ref 89), some (.int a), some (.int b), none, none, none, none, none, none, none] [] σ Q := by
  obtain ⟨D, ⟨S, T, sd, pn, P, rn, R⟩, B, tp, pl, im, Im⟩ := x
  have hD : fWD D := ok.1
  have hW : fWS D S := ok.2.1.1
  have hC : fWC D S := ok.2.1.2.1
  have hN : fWN S 0 0 := ok.2.1.2.2.1
  have Mr : fMr σ D S sd := Ir.1
  have Mt : fMt σ S T := Ir.2.1
  obtain ⟨t0, t1, t2, t3, t4, t5, t6⟩ := id hD.1
  have np := hW.n hD
  have n5 := hW.2.2.2.2
  have tp6 : tp ≤ 600 := ok.2.2.2.1
  have im3 : im ≤ 3 := ok.2.2.2.2.1
  have pn3 : pn ≤ 30 := ok.2.1.2.2.2.1
  have rn6 : rn ≤ 60 := ok.2.1.2.2.2.2.2.1
  have Rc : fRc σ (S, T, sd, pn, P, rn, R) := Ir.2.2.2.2.1
  have w52 := hW.1
  show fEv g (d + 1) mX10_would 5 [some (.ref 89), some (.int a), some (.int b), none, none, none, none, none, none, none] [] σ Q
  refine e_aload_n dX10_would_5 rfl rfl ?_
  refine e_iload_n dX10_would_6 rfl rfl ?_
  refine e_iconst (nI 0) dX10_would_7 (by decide) ?_
  refine e_iconst (nI 5) dX10_would_8 (by decide) ?_
  refine e_callS [.int b, .int (nI 0), .int (nI 5)] dX10_would_9 cc_X10_in lk_RX10_110 st_X10_in in_RX10 rfl (Nat.le_of_ble_eq_true rfl) (Nat.le_of_ble_eq_true rfl) ?_
  refine t_X10_inF hv (fK_i ?_)
  show fEv g _ mX10_would 12 [some (.ref 89), some (.int a), some (.int b), none, none, none, none, none, none, none] [.int (nI 0), .ref 89] σ Q
  refine e_if_ne 19 dX10_would_12 (by decide) (fun c => absurd c (by decide)) (fun _ => ?_)
  refine e_iconst (nI 1) dX10_would_15 (by decide) ?_
  refine e_goto 20 dX10_would_16 (by decide) ?_
  refine e_iconst (nI 1) dX10_would_20 (by decide) ?_
  refine e_callV (k := 89) [.int (nI 1), .int (nI 1)] dX10_would_21 cc_X10_bad lk_RX10_148 im_X10_bad se_X10_bad (by decide) (Ms.s 89 rfl) (Ms.n (by decide)) rfl (Nat.le_of_ble_eq_true rfl) (Nat.le_of_ble_eq_true rfl) ?_
  refine t_X10_bad1 Ms hz (by decide) (fK_i ?_)
  show fEv g _ mX10_would 24 [some (.ref 89), some (.int a), some (.int b), none, none, none, none, none, none, none] [.int (nI 1)] (fsI σ 89 0 (nI 1)) Q
  refine e_if_eq 29 dX10_would_24 (by decide) (fun c => absurd c (by decide)) (fun _ => ?_)
  refine e_iconst (nI 0) dX10_would_27 (by decide) ?_
  exact e_ireturn .int dX10_would_28 rfl rfl (h _ (fSm_I (by unfold fRfA; omega)) (Ir.f0 ok (A := fun a => a = 89) (fSm_I rfl) (fun a (q : a = 89) => Or.inl (by omega)) (fun j hj => by simp only [List.mem_cons, List.not_mem_nil, or_false] at hj; rw [fI_I, if_neg (by omega)])) (by rw [fI_I, if_pos ⟨rfl, rfl⟩]))
set_option maxRecDepth 20000 in
theorem t_X10_wouldE {g : fGP} {d : Nat} {σ : fAH} {Q : fRes → fAH → Prop} {x : fXS} {a b : Int32}  (Ms : fMs g σ) (ok : fOK x) (Ir : fIr σ x) (hv : ¬ (nI 0 ≤ b ∧ b ≤ nI 5)) (h : ∀ σ', fSm fRfA σ σ' → fIr σ' x → fI σ' 89 0 = nI 1 → Q (.inl (some (.int (nI 0)))) σ') : fEv g (d + 1) mX10_would 0 (fent [.ref 89, .int a, .int b] 10) [] σ Q := by
  have S9 : fSm (fun a => a = 89) σ (fsI σ 89 0 (nI 0)) := fSm_I rfl
  show fEv g (d + 1) mX10_would 0 [some (.ref 89), some (.int a), some (.int b), none, none, none, none, none, none, none] [] σ Q
  refine e_aload_n dX10_would_0 rfl rfl ?_
  refine e_iconst (nI 0) dX10_would_1 (by decide) ?_
  refine e_putI dX10_would_2 fl_RX10_76 (Ms.s 89 rfl) (Ms.n (by decide)) rfl rfl ?_
  exact lp_X10_wouldE (Ms.sm S9) ok (Ir.f0 ok S9 (fun a (q : a = 89) => Or.inl (by omega)) (fun j hj => by simp only [List.mem_cons, List.not_mem_nil, or_false] at hj; rw [fI_I, if_neg (by omega)])) (by rw [fI_I, if_pos ⟨rfl, rfl⟩]) hv (fun σ' Sm' => h σ' ((S9.to (fun a (q : a = 89) => by unfold fRfA; omega)).tr Sm'))
set_option maxRecDepth 20000 in
theorem l_X10_prom {g : fGP} {d : Nat} {Q : fRes → fAH → Prop} {a : Int32} {many o : Nat} {D : fSD} {S : Nat → Nat} {T : Nat → Int32} {sd : Int32} {pn : Nat} {P : Nat → Nat} {rn : Nat} {R : Nat → Nat} {B : Nat → Nat} {tp : Nat} {pl : Int32} {im : Nat} {Im : Nat → fIm} (ok : fOK (D, (S, T, sd, pn, P, rn, R), B, tp, pl, im, Im)) (ho : o < dT D 2) (hm : many ≤ 99) : ∀ (n i : Nat) (c : Nat) (σ : fAH), i + n = many → fMs g σ → fIr σ (D, (S, T, sd, pn, P, rn, R), B, tp, pl, im, Im) → fI σ 89 0 = nI 0 → (∀ σ', fSm fRfA σ σ' → fIr σ' (D, (S, T, sd, pn, P, rn, R), B, tp, pl, im, Im) → fI σ' 89 0 = nI 0 → Q (.inl (some (.int (nI (mprm D P pn o S T a n i c))))) σ') → fEv g (d + 5) mX10_promise 57 [some (.ref 89), some (.int (nI o)), some (.int a), some (.int (nI many)), some (.int (nI c)), some (.int (nI i))] [] σ Q := by
  intro n
  induction n with
  | zero =>
    intro i c σ hin Ms Ir hz h
    have hD : fWD D := ok.1
    have hW : fWS D S := ok.2.1.1
    have hC : fWC D S := ok.2.1.2.1
    have hN : fWN S 0 0 := ok.2.1.2.2.1
    have Mr : fMr σ D S sd := Ir.1
    have Mt : fMt σ S T := Ir.2.1
    obtain ⟨t0, t1, t2, t3, t4, t5, t6⟩ := id hD.1
    have np := hW.n hD
    have n5 := hW.2.2.2.2
    have tp6 : tp ≤ 600 := ok.2.2.2.1
    have im3 : im ≤ 3 := ok.2.2.2.2.1
    have pn3 : pn ≤ 30 := ok.2.1.2.2.2.1
    have rn6 : rn ≤ 60 := ok.2.1.2.2.2.2.2.1
    have Rc : fRc σ (S, T, sd, pn, P, rn, R) := Ir.2.2.2.2.1
    have w52 := hW.1
    refine e_iload dX10_promise_57 rfl ?_
    refine e_iload_n dX10_promise_59 rfl rfl ?_
    refine e_icmp_ge 117 dX10_promise_60 (by decide) (fun cz => ?_) (fun cz => absurd ((nI_le' (by omega) (by omega)).mpr (by omega)) cz)
    refine e_iload dX10_promise_117 rfl ?_
    exact e_ireturn .int dX10_promise_119 rfl rfl (h σ fSm.rfl' Ir hz)
  | succ n ih =>
    intro i c σ hin Ms Ir hz h
    have hD : fWD D := ok.1
    have hW : fWS D S := ok.2.1.1
    have hC : fWC D S := ok.2.1.2.1
    have hN : fWN S 0 0 := ok.2.1.2.2.1
    have Mr : fMr σ D S sd := Ir.1
    have Mt : fMt σ S T := Ir.2.1
    obtain ⟨t0, t1, t2, t3, t4, t5, t6⟩ := id hD.1
    have np := hW.n hD
    have n5 := hW.2.2.2.2
    have tp6 : tp ≤ 600 := ok.2.2.2.1
    have im3 : im ≤ 3 := ok.2.2.2.2.1
    have pn3 : pn ≤ 30 := ok.2.1.2.2.2.1
    have rn6 : rn ≤ 60 := ok.2.1.2.2.2.2.2.1
    have Rc : fRc σ (S, T, sd, pn, P, rn, R) := Ir.2.2.2.2.1
    have w52 := hW.1
    have hi : i < many := by omega
    have od := hD.2.2.2.1 o ho
    have oq : ∀ S9 : Nat → Nat, fWS D S9 → S9 (145 + o) ≤ dO D o 2 := fun S9 h9 => h9.2.2.2.1 o ho
    refine e_iload dX10_promise_57 rfl ?_
    refine e_iload_n dX10_promise_59 rfl rfl ?_
    refine e_icmp_ge 117 dX10_promise_60 (by decide) (fun cz => absurd ((nI_le' (by omega) (by omega)).mp cz) (by omega)) (fun cz => ?_)
    refine e_aload_n dX10_promise_63 rfl rfl ?_
    refine e_callV (k := 89) [] dX10_promise_64 cc_X10_puts lk_RX10_253 im_X10_puts se_X10_puts (by decide) (Ms.s 89 rfl) (Ms.n (by decide)) rfl (Nat.le_of_ble_eq_true rfl) (Nat.le_of_ble_eq_true rfl) ?_
    refine t_X10_puts (dp := 0) Ms Mr hD (by omega) Ir.2.2.1.1 (fun σ1 Sm1 Mr1 Ro1 h21 k1 => fK_v ?_)
    show fEv g _ mX10_promise 67 [some (.ref 89), some (.int (nI o)), some (.int a), some (.int (nI many)), some (.int (nI c)), some (.int (nI i))] [] σ1 Q
    have Ms1 := Ms.sm Sm1
    have h311 : fI σ1 89 31 = nI (bn false) := (k1.1 31 (by decide)).trans Ir.2.2.1.2.1
    have h221 : fI σ1 89 22 = nI pn := (k1.1 22 (by decide)).trans Rc.1
    have hP1 : ∀ j, j < pn → fI σ1 219 j = nI (P j) ∧ P j < 4096 := fun j hj => ⟨(Sm1.i (by unfold fPA; omega) j).trans (Rc.2.1 j hj), ok.2.1.2.2.2.2.1 j⟩
    refine e_aload_n dX10_promise_67 rfl rfl ?_
    refine e_iload_n dX10_promise_68 rfl rfl ?_
    refine e_iload dX10_promise_69 rfl ?_
    refine e_iadd dX10_promise_71 ?_
    refine e_callV (k := 89) [.int (a + (nI i))] dX10_promise_72 cc_X10_goes lk_RX10_256 im_X10_goes se_X10_goes (by decide) (Ms1.s 89 rfl) (Ms1.n (by decide)) rfl (Nat.le_of_ble_eq_true rfl) (Nat.le_of_ble_eq_true rfl) ?_
    refine t_X10_goes (T := T) Ms1 Mr1 hD hW hC hN h311 h221 pn3 hP1 (fun σ2 Sm2 Mr2 => fK_i ?_)
    show fEv g _ mX10_promise 75 [some (.ref 89), some (.int (nI o)), some (.int a), some (.int (nI many)), some (.int (nI c)), some (.int (nI i))] [.int (nI ((mplan D P pn 0 (S, T, a + nI i) 0).2))] σ2 Q
    have Ms2 := Ms1.sm Sm2
    have n2 : ∀ a, a ≠ 197 → ¬ fRA false a := fun a ha q => by unfold fRA at q; rcases q with q | q; exact ha q; exact absurd q.1 (by decide)
    have fw := fW_plan (P := P) hD pn 0 (S, T, a + nI i) 0 hW hC hN
    have hW2 := fw.1
    have Ro2 : fRow σ2 0 S sd := Ro1.sm Sm2 (n2 _ (by omega))
    have h212 : fI σ2 89 21 = nI (0 + 1) := (Sm2.i (n2 89 (by omega)) 21).trans h21
    refine e_pop dX10_promise_75 rfl ?_
    refine e_iload dX10_promise_76 rfl ?_
    refine e_aload_n dX10_promise_78 rfl rfl ?_
    refine e_getR (q := 197) dX10_promise_79 fl_RX10_49 (Ms2.s 89 rfl) (Ms2.n (by decide)) rfl (Ms2.r 89 19 rfl) (by unfold fscr; omega) ?_
    refine e_sipush (nI 145) dX10_promise_82 (by decide) ?_
    refine e_iload_n dX10_promise_85 rfl rfl ?_
    refine e_iadd dX10_promise_86 ?_
    refine e_int (nI (145 + o)) (nI_add 145 o) ?_
    refine e_iaload (145 + o) dX10_promise_87 (Ms2.s 197 rfl) (Ms2.n (by decide)) rfl (by omega) (by decide) ?_
    refine e_int (nI ((mplan D P pn 0 (S, T, a + nI i) 0).1.1 (145 + o))) (Mr2.s (145 + o) (by omega)) ?_
    refine e_aload_n dX10_promise_88 rfl rfl ?_
    refine e_getR (q := 140) dX10_promise_89 fl_RX10_40 (Ms2.s 89 rfl) (Ms2.n (by decide)) rfl (Ms2.r 89 16 rfl) (by unfold fscr; omega) ?_
    refine e_iload_n dX10_promise_92 rfl rfl ?_
    refine e_aaload (q := 141 + o) o dX10_promise_93 (Ms2.s 140 rfl) (by decide) (Ms2.n (by decide)) rfl (by omega) (by decide) (Ms2.r 140 _ (frf_order _ (by omega))) (by unfold fscr; omega) ?_
    refine e_iconst (nI 2) dX10_promise_94 (by decide) ?_
    refine e_iaload 2 dX10_promise_95 (Ms2.s _ (fsh_order _ (by omega))) (Ms2.n (by omega)) rfl (by omega) (by decide) ?_
    refine e_int (nI (dO D o 2)) (Mr2.order o (by omega) 2 (by omega)) ?_
    have ow := oq _ hW2
    refine e_icmp_ne 103 dX10_promise_96 (by decide) (fun c96 => ?_) (fun c96 => ?_)
    · rw [nI_inj (by omega) (by omega)] at c96
      refine e_iconst (nI 0) dX10_promise_103 (by decide) ?_
      refine e_iadd dX10_promise_104 ?_
      refine e_int (nI c) (nI_add c 0) ?_
      refine e_istore (L1 := [some (.ref 89), some (.int (nI o)), some (.int a), some (.int (nI many)), some (.int (nI c)), some (.int (nI i))]) dX10_promise_105 (by decide) rfl ?_
      refine e_aload_n dX10_promise_107 rfl rfl ?_
      refine e_callV (k := 89) [] dX10_promise_108 cc_X10_takes lk_RX10_259 im_X10_takes se_X10_takes (by decide) (Ms2.s 89 rfl) (Ms2.n (by decide)) rfl (Nat.le_of_ble_eq_true rfl) (Nat.le_of_ble_eq_true rfl) ?_
      refine t_X10_takes (dp := 0) Ms2 Mr2 hD (by omega) h212 Ro2 (fun σ3 Sm3 Mr3 h213 k3 => fK_v ?_)
      show fEv g _ mX10_promise 111 [some (.ref 89), some (.int (nI o)), some (.int a), some (.int (nI many)), some (.int (nI c)), some (.int (nI i))] [] σ3 Q
      have Ms3 := Ms2.sm Sm3
      have A3 : fSm (fun a => a = 89 ∨ a = 197 ∨ (199 ≤ a ∧ a < 219)) σ σ3 := ((Sm1.to (fun a q => by unfold fPA at q; omega)).tr (Sm2.to (fun a q => by by_cases e : a = 197; omega; exact absurd q (n2 a e)))).tr (Sm3.to (fun a q => by unfold fTA at q; omega))
      have k9 : ∀ j, j ≠ 21 → fI σ3 89 j = fI σ 89 j := fun j hj => (k3.1 j hj).trans ((Sm2.i (n2 89 (by omega)) j).trans (k1.1 j hj))
      have Ir3 := Ir.back ok A3 (fun a q => q) (fun j hj => by by_cases e : j = 21; rw [e, h213, Ir.2.2.1.1]; exact k9 j e) Mr3
      have hz3 := (k9 0 (by decide)).trans hz
      have Q3 : fSm fRfA σ σ3 := A3.to (fun a q => by unfold fRfA; omega)
      refine e_iinc (v := nI (i + 1)) (L1 := [some (.ref 89), some (.int (nI o)), some (.int a), some (.int (nI many)), some (.int (nI c)), some (.int (nI (i + 1)))]) dX10_promise_111 rfl (show nI i + Int32.ofInt 1 = nI (i + 1) from nI_add i 1) (by decide) rfl ?_
      refine e_goto 57 dX10_promise_114 (by decide) ?_
      have dn : mdone D (mplan D P pn 0 (S, T, a + nI i) 0).1.1 o = false := by rw [mdone_e (hW2.2.2.2.1 o ho), decide_eq_false c96]
      rw [show mprm D P pn o S T a (n + 1) i c = mprm D P pn o S T a n (i + 1) (c + bn (mdone D (mplan D P pn 0 (S, T, a + nI i) 0).1.1 o)) from rfl, dn] at h
      exact ih (i + 1) (c + 0) σ3 (by omega) Ms3 Ir3 hz3 (fun σ' Sm' => h σ' (Q3.tr Sm'))
    · rw [nI_inj (by omega) (by omega)] at c96
      refine e_iconst (nI 1) dX10_promise_99 (by decide) ?_
      refine e_goto 104 dX10_promise_100 (by decide) ?_
      refine e_iadd dX10_promise_104 ?_
      refine e_int (nI (c + 1)) (nI_add c 1) ?_
      refine e_istore (L1 := [some (.ref 89), some (.int (nI o)), some (.int a), some (.int (nI many)), some (.int (nI (c + 1))), some (.int (nI i))]) dX10_promise_105 (by decide) rfl ?_
      refine e_aload_n dX10_promise_107 rfl rfl ?_
      refine e_callV (k := 89) [] dX10_promise_108 cc_X10_takes lk_RX10_259 im_X10_takes se_X10_takes (by decide) (Ms2.s 89 rfl) (Ms2.n (by decide)) rfl (Nat.le_of_ble_eq_true rfl) (Nat.le_of_ble_eq_true rfl) ?_
      refine t_X10_takes (dp := 0) Ms2 Mr2 hD (by omega) h212 Ro2 (fun σ3 Sm3 Mr3 h213 k3 => fK_v ?_)
      show fEv g _ mX10_promise 111 [some (.ref 89), some (.int (nI o)), some (.int a), some (.int (nI many)), some (.int (nI (c + 1))), some (.int (nI i))] [] σ3 Q
      have Ms3 := Ms2.sm Sm3
      have A3 : fSm (fun a => a = 89 ∨ a = 197 ∨ (199 ≤ a ∧ a < 219)) σ σ3 := ((Sm1.to (fun a q => by unfold fPA at q; omega)).tr (Sm2.to (fun a q => by by_cases e : a = 197; omega; exact absurd q (n2 a e)))).tr (Sm3.to (fun a q => by unfold fTA at q; omega))
      have k9 : ∀ j, j ≠ 21 → fI σ3 89 j = fI σ 89 j := fun j hj => (k3.1 j hj).trans ((Sm2.i (n2 89 (by omega)) j).trans (k1.1 j hj))
      have Ir3 := Ir.back ok A3 (fun a q => q) (fun j hj => by by_cases e : j = 21; rw [e, h213, Ir.2.2.1.1]; exact k9 j e) Mr3
      have hz3 := (k9 0 (by decide)).trans hz
      have Q3 : fSm fRfA σ σ3 := A3.to (fun a q => by unfold fRfA; omega)
      refine e_iinc (v := nI (i + 1)) (L1 := [some (.ref 89), some (.int (nI o)), some (.int a), some (.int (nI many)), some (.int (nI (c + 1))), some (.int (nI (i + 1)))]) dX10_promise_111 rfl (show nI i + Int32.ofInt 1 = nI (i + 1) from nI_add i 1) (by decide) rfl ?_
      refine e_goto 57 dX10_promise_114 (by decide) ?_
      have dn : mdone D (mplan D P pn 0 (S, T, a + nI i) 0).1.1 o = true := by rw [mdone_e (hW2.2.2.2.1 o ho), decide_eq_true c96]
      rw [show mprm D P pn o S T a (n + 1) i c = mprm D P pn o S T a n (i + 1) (c + bn (mdone D (mplan D P pn 0 (S, T, a + nI i) 0).1.1 o)) from rfl, dn] at h
      exact ih (i + 1) (c + 1) σ3 (by omega) Ms3 Ir3 hz3 (fun σ' Sm' => h σ' (Q3.tr Sm'))
set_option maxRecDepth 20000 in
theorem lp_X10_promise {g : fGP} {d : Nat} {σ : fAH} {Q : fRes → fAH → Prop} {x : fXS} {a : Int32} {o many : Nat}  (Ms : fMs g σ) (ok : fOK x) (Ir : fIr σ x) (hz : fI σ 89 0 = nI 0) (ho : o < dT (xD x) 2) (hm : 1 ≤ many ∧ many ≤ 99) (h : ∀ σ', fSm fRfA σ σ' → fIr σ' x → fI σ' 89 0 = nI 0 → Q (.inl (some (.int (nI (mprm (xD x) (iP (xI x)) (ipn (xI x)) o (iS (xI x)) (iT (xI x)) a many 0 0))))) σ') : fEv g (d + 5) mX10_promise 5 [some (.ref 89), some (.int (nI o)), some (.int a), some (.int (nI many)), none, none] [] σ Q := by
  obtain ⟨D, ⟨S, T, sd, pn, P, rn, R⟩, B, tp, pl, im, Im⟩ := x
  have hD : fWD D := ok.1
  have hW : fWS D S := ok.2.1.1
  have hC : fWC D S := ok.2.1.2.1
  have hN : fWN S 0 0 := ok.2.1.2.2.1
  have Mr : fMr σ D S sd := Ir.1
  have Mt : fMt σ S T := Ir.2.1
  obtain ⟨t0, t1, t2, t3, t4, t5, t6⟩ := id hD.1
  have np := hW.n hD
  have n5 := hW.2.2.2.2
  have tp6 : tp ≤ 600 := ok.2.2.2.1
  have im3 : im ≤ 3 := ok.2.2.2.2.1
  have pn3 : pn ≤ 30 := ok.2.1.2.2.2.1
  have rn6 : rn ≤ 60 := ok.2.1.2.2.2.2.2.1
  have Rc : fRc σ (S, T, sd, pn, P, rn, R) := Ir.2.2.2.2.1
  have w52 := hW.1
  have ho : o < dT D 2 := ho
  show fEv g (d + 5) mX10_promise 5 [some (.ref 89), some (.int (nI o)), some (.int a), some (.int (nI many)), none, none] [] σ Q
  refine e_aload_n dX10_promise_5 rfl rfl ?_
  refine e_aload_n dX10_promise_6 rfl rfl ?_
  refine e_iload_n dX10_promise_7 rfl rfl ?_
  refine e_callV (k := 89) [.int (nI o)] dX10_promise_8 cc_X10_isOrder lk_RX10_186 im_X10_isOrder se_X10_isOrder (by decide) (Ms.s 89 rfl) (Ms.n (by decide)) rfl (Nat.le_of_ble_eq_true rfl) (Nat.le_of_ble_eq_true rfl) ?_
  refine t_X10_isOrderT Ms Mr hD ho (fK_i ?_)
  show fEv g _ mX10_promise 11 [some (.ref 89), some (.int (nI o)), some (.int a), some (.int (nI many)), none, none] [.int (nI 1), .ref 89] σ Q
  refine e_if_ne 18 dX10_promise_11 (by decide) (fun _ => ?_) (fun c => absurd c (by decide))
  refine e_iconst (nI 0) dX10_promise_18 (by decide) ?_
  refine e_iconst (nI 1) dX10_promise_19 (by decide) ?_
  refine e_callV (k := 89) [.int (nI 0), .int (nI 1)] dX10_promise_20 cc_X10_bad lk_RX10_148 im_X10_bad se_X10_bad (by decide) (Ms.s 89 rfl) (Ms.n (by decide)) rfl (Nat.le_of_ble_eq_true rfl) (Nat.le_of_ble_eq_true rfl) ?_
  refine t_X10_bad0 Ms hz (by decide) (fK_i ?_)
  show fEv g _ mX10_promise 23 [some (.ref 89), some (.int (nI o)), some (.int a), some (.int (nI many)), none, none] [.int (nI 0)] σ Q
  refine e_if_ne 49 dX10_promise_23 (by decide) (fun c => absurd c (by decide)) (fun _ => ?_)
  refine e_aload_n dX10_promise_26 rfl rfl ?_
  refine e_iload_n dX10_promise_27 rfl rfl ?_
  refine e_iconst (nI 1) dX10_promise_28 (by decide) ?_
  refine e_bipush (nI 99) dX10_promise_29 (by decide) ?_
  refine e_callS [.int (nI many), .int (nI 1), .int (nI 99)] dX10_promise_31 cc_X10_in lk_RX10_110 st_X10_in in_RX10 rfl (Nat.le_of_ble_eq_true rfl) (Nat.le_of_ble_eq_true rfl) ?_
  refine t_X10_inT ⟨(nI_le' (by omega) (by omega)).mpr (by omega), (nI_le' (by omega) (by omega)).mpr (by omega)⟩ (fK_i ?_)
  show fEv g _ mX10_promise 34 [some (.ref 89), some (.int (nI o)), some (.int a), some (.int (nI many)), none, none] [.int (nI 1), .ref 89] σ Q
  refine e_if_ne 41 dX10_promise_34 (by decide) (fun _ => ?_) (fun c => absurd c (by decide))
  refine e_iconst (nI 0) dX10_promise_41 (by decide) ?_
  refine e_iconst (nI 2) dX10_promise_42 (by decide) ?_
  refine e_callV (k := 89) [.int (nI 0), .int (nI 2)] dX10_promise_43 cc_X10_bad lk_RX10_148 im_X10_bad se_X10_bad (by decide) (Ms.s 89 rfl) (Ms.n (by decide)) rfl (Nat.le_of_ble_eq_true rfl) (Nat.le_of_ble_eq_true rfl) ?_
  refine t_X10_bad0 Ms hz (by decide) (fK_i ?_)
  show fEv g _ mX10_promise 46 [some (.ref 89), some (.int (nI o)), some (.int a), some (.int (nI many)), none, none] [.int (nI 0)] σ Q
  refine e_if_eq 51 dX10_promise_46 (by decide) (fun _ => ?_) (fun c => absurd c (by decide))
  refine e_iconst (nI 0) dX10_promise_51 (by decide) ?_
  refine e_istore (L1 := [some (.ref 89), some (.int (nI o)), some (.int a), some (.int (nI many)), some (.int (nI 0)), none]) dX10_promise_52 (by decide) rfl ?_
  refine e_iconst (nI 0) dX10_promise_54 (by decide) ?_
  refine e_istore (L1 := [some (.ref 89), some (.int (nI o)), some (.int a), some (.int (nI many)), some (.int (nI 0)), some (.int (nI 0))]) dX10_promise_55 (by decide) rfl ?_
  exact l_X10_prom ok ho hm.2 many 0 0 σ (by omega) Ms Ir hz h
set_option maxRecDepth 20000 in
theorem t_X10_promise {g : fGP} {d : Nat} {σ : fAH} {Q : fRes → fAH → Prop} {x : fXS} {a : Int32} {o many : Nat}  (Ms : fMs g σ) (ok : fOK x) (Ir : fIr σ x) (ho : o < dT (xD x) 2) (hm : 1 ≤ many ∧ many ≤ 99) (h : ∀ σ', fSm fRfA σ σ' → fIr σ' x → fI σ' 89 0 = nI 0 → Q (.inl (some (.int (nI (mprm (xD x) (iP (xI x)) (ipn (xI x)) o (iS (xI x)) (iT (xI x)) a many 0 0))))) σ') : fEv g (d + 5) mX10_promise 0 (fent [.ref 89, .int (nI o), .int a, .int (nI many)] 6) [] σ Q := by
  have S9 : fSm (fun a => a = 89) σ (fsI σ 89 0 (nI 0)) := fSm_I rfl
  show fEv g (d + 5) mX10_promise 0 [some (.ref 89), some (.int (nI o)), some (.int a), some (.int (nI many)), none, none] [] σ Q
  refine e_aload_n dX10_promise_0 rfl rfl ?_
  refine e_iconst (nI 0) dX10_promise_1 (by decide) ?_
  refine e_putI dX10_promise_2 fl_RX10_76 (Ms.s 89 rfl) (Ms.n (by decide)) rfl rfl ?_
  exact lp_X10_promise (Ms.sm S9) ok (Ir.f0 ok S9 (fun a (q : a = 89) => Or.inl (by omega)) (fun j hj => by simp only [List.mem_cons, List.not_mem_nil, or_false] at hj; rw [fI_I, if_neg (by omega)])) (by rw [fI_I, if_pos ⟨rfl, rfl⟩]) ho hm (fun σ' Sm' => h σ' ((S9.to (fun a (q : a = 89) => by unfold fRfA; omega)).tr Sm'))
set_option maxRecDepth 20000 in
theorem lp_X10_promiseE1 {g : fGP} {d : Nat} {σ : fAH} {Q : fRes → fAH → Prop} {x : fXS} {a b c : Int32}  (Ms : fMs g σ) (ok : fOK x) (Ir : fIr σ x) (hz : fI σ 89 0 = nI 0) (hv : ¬ (nI 0 ≤ a ∧ a < nI (dT (xD x) 2))) (h : ∀ σ', fSm fRfA σ σ' → fIr σ' x → fI σ' 89 0 = nI 1 → Q (.inl (some (.int (nI 0)))) σ') : fEv g (d + 2) mX10_promise 5 [some (.ref 89), some (.int a), some (.int b), some (.int c), none, none] [] σ Q := by
  obtain ⟨D, ⟨S, T, sd, pn, P, rn, R⟩, B, tp, pl, im, Im⟩ := x
  have hD : fWD D := ok.1
  have hW : fWS D S := ok.2.1.1
  have hC : fWC D S := ok.2.1.2.1
  have hN : fWN S 0 0 := ok.2.1.2.2.1
  have Mr : fMr σ D S sd := Ir.1
  have Mt : fMt σ S T := Ir.2.1
  obtain ⟨t0, t1, t2, t3, t4, t5, t6⟩ := id hD.1
  have np := hW.n hD
  have n5 := hW.2.2.2.2
  have tp6 : tp ≤ 600 := ok.2.2.2.1
  have im3 : im ≤ 3 := ok.2.2.2.2.1
  have pn3 : pn ≤ 30 := ok.2.1.2.2.2.1
  have rn6 : rn ≤ 60 := ok.2.1.2.2.2.2.2.1
  have Rc : fRc σ (S, T, sd, pn, P, rn, R) := Ir.2.2.2.2.1
  have w52 := hW.1
  show fEv g (d + 2) mX10_promise 5 [some (.ref 89), some (.int a), some (.int b), some (.int c), none, none] [] σ Q
  refine e_aload_n dX10_promise_5 rfl rfl ?_
  refine e_aload_n dX10_promise_6 rfl rfl ?_
  refine e_iload_n dX10_promise_7 rfl rfl ?_
  refine e_callV (k := 89) [.int a] dX10_promise_8 cc_X10_isOrder lk_RX10_186 im_X10_isOrder se_X10_isOrder (by decide) (Ms.s 89 rfl) (Ms.n (by decide)) rfl (Nat.le_of_ble_eq_true rfl) (Nat.le_of_ble_eq_true rfl) ?_
  refine t_X10_isOrderF Ms Mr hD hv (fK_i ?_)
  show fEv g _ mX10_promise 11 [some (.ref 89), some (.int a), some (.int b), some (.int c), none, none] [.int (nI 0), .ref 89] σ Q
  refine e_if_ne 18 dX10_promise_11 (by decide) (fun c => absurd c (by decide)) (fun _ => ?_)
  refine e_iconst (nI 1) dX10_promise_14 (by decide) ?_
  refine e_goto 19 dX10_promise_15 (by decide) ?_
  refine e_iconst (nI 1) dX10_promise_19 (by decide) ?_
  refine e_callV (k := 89) [.int (nI 1), .int (nI 1)] dX10_promise_20 cc_X10_bad lk_RX10_148 im_X10_bad se_X10_bad (by decide) (Ms.s 89 rfl) (Ms.n (by decide)) rfl (Nat.le_of_ble_eq_true rfl) (Nat.le_of_ble_eq_true rfl) ?_
  refine t_X10_bad1 Ms hz (by decide) (fK_i ?_)
  show fEv g _ mX10_promise 23 [some (.ref 89), some (.int a), some (.int b), some (.int c), none, none] [.int (nI 1)] (fsI σ 89 0 (nI 1)) Q
  refine e_if_ne 49 dX10_promise_23 (by decide) (fun _ => ?_) (fun c => absurd c (by decide))
  refine e_iconst (nI 0) dX10_promise_49 (by decide) ?_
  exact e_ireturn .int dX10_promise_50 rfl rfl (h _ (fSm_I (by unfold fRfA; omega)) (Ir.f0 ok (A := fun a => a = 89) (fSm_I rfl) (fun a (q : a = 89) => Or.inl (by omega)) (fun j hj => by simp only [List.mem_cons, List.not_mem_nil, or_false] at hj; rw [fI_I, if_neg (by omega)])) (by rw [fI_I, if_pos ⟨rfl, rfl⟩]))
set_option maxRecDepth 20000 in
theorem t_X10_promiseE1 {g : fGP} {d : Nat} {σ : fAH} {Q : fRes → fAH → Prop} {x : fXS} {a b c : Int32}  (Ms : fMs g σ) (ok : fOK x) (Ir : fIr σ x) (hv : ¬ (nI 0 ≤ a ∧ a < nI (dT (xD x) 2))) (h : ∀ σ', fSm fRfA σ σ' → fIr σ' x → fI σ' 89 0 = nI 1 → Q (.inl (some (.int (nI 0)))) σ') : fEv g (d + 2) mX10_promise 0 (fent [.ref 89, .int a, .int b, .int c] 6) [] σ Q := by
  have S9 : fSm (fun a => a = 89) σ (fsI σ 89 0 (nI 0)) := fSm_I rfl
  show fEv g (d + 2) mX10_promise 0 [some (.ref 89), some (.int a), some (.int b), some (.int c), none, none] [] σ Q
  refine e_aload_n dX10_promise_0 rfl rfl ?_
  refine e_iconst (nI 0) dX10_promise_1 (by decide) ?_
  refine e_putI dX10_promise_2 fl_RX10_76 (Ms.s 89 rfl) (Ms.n (by decide)) rfl rfl ?_
  exact lp_X10_promiseE1 (Ms.sm S9) ok (Ir.f0 ok S9 (fun a (q : a = 89) => Or.inl (by omega)) (fun j hj => by simp only [List.mem_cons, List.not_mem_nil, or_false] at hj; rw [fI_I, if_neg (by omega)])) (by rw [fI_I, if_pos ⟨rfl, rfl⟩]) hv (fun σ' Sm' => h σ' ((S9.to (fun a (q : a = 89) => by unfold fRfA; omega)).tr Sm'))
set_option maxRecDepth 20000 in
theorem lp_X10_promiseE2 {g : fGP} {d : Nat} {σ : fAH} {Q : fRes → fAH → Prop} {x : fXS} {o : Nat} {b c : Int32}  (Ms : fMs g σ) (ok : fOK x) (Ir : fIr σ x) (hz : fI σ 89 0 = nI 0) (ho : o < dT (xD x) 2) (hv : ¬ (nI 1 ≤ c ∧ c ≤ nI 99)) (h : ∀ σ', fSm fRfA σ σ' → fIr σ' x → fI σ' 89 0 = nI 2 → Q (.inl (some (.int (nI 0)))) σ') : fEv g (d + 2) mX10_promise 5 [some (.ref 89), some (.int (nI o)), some (.int b), some (.int c), none, none] [] σ Q := by
  obtain ⟨D, ⟨S, T, sd, pn, P, rn, R⟩, B, tp, pl, im, Im⟩ := x
  have hD : fWD D := ok.1
  have hW : fWS D S := ok.2.1.1
  have hC : fWC D S := ok.2.1.2.1
  have hN : fWN S 0 0 := ok.2.1.2.2.1
  have Mr : fMr σ D S sd := Ir.1
  have Mt : fMt σ S T := Ir.2.1
  obtain ⟨t0, t1, t2, t3, t4, t5, t6⟩ := id hD.1
  have np := hW.n hD
  have n5 := hW.2.2.2.2
  have tp6 : tp ≤ 600 := ok.2.2.2.1
  have im3 : im ≤ 3 := ok.2.2.2.2.1
  have pn3 : pn ≤ 30 := ok.2.1.2.2.2.1
  have rn6 : rn ≤ 60 := ok.2.1.2.2.2.2.2.1
  have Rc : fRc σ (S, T, sd, pn, P, rn, R) := Ir.2.2.2.2.1
  have w52 := hW.1
  show fEv g (d + 2) mX10_promise 5 [some (.ref 89), some (.int (nI o)), some (.int b), some (.int c), none, none] [] σ Q
  refine e_aload_n dX10_promise_5 rfl rfl ?_
  refine e_aload_n dX10_promise_6 rfl rfl ?_
  refine e_iload_n dX10_promise_7 rfl rfl ?_
  refine e_callV (k := 89) [.int (nI o)] dX10_promise_8 cc_X10_isOrder lk_RX10_186 im_X10_isOrder se_X10_isOrder (by decide) (Ms.s 89 rfl) (Ms.n (by decide)) rfl (Nat.le_of_ble_eq_true rfl) (Nat.le_of_ble_eq_true rfl) ?_
  refine t_X10_isOrderT Ms Mr hD ho (fK_i ?_)
  show fEv g _ mX10_promise 11 [some (.ref 89), some (.int (nI o)), some (.int b), some (.int c), none, none] [.int (nI 1), .ref 89] σ Q
  refine e_if_ne 18 dX10_promise_11 (by decide) (fun _ => ?_) (fun c => absurd c (by decide))
  refine e_iconst (nI 0) dX10_promise_18 (by decide) ?_
  refine e_iconst (nI 1) dX10_promise_19 (by decide) ?_
  refine e_callV (k := 89) [.int (nI 0), .int (nI 1)] dX10_promise_20 cc_X10_bad lk_RX10_148 im_X10_bad se_X10_bad (by decide) (Ms.s 89 rfl) (Ms.n (by decide)) rfl (Nat.le_of_ble_eq_true rfl) (Nat.le_of_ble_eq_true rfl) ?_
  refine t_X10_bad0 Ms hz (by decide) (fK_i ?_)
  show fEv g _ mX10_promise 23 [some (.ref 89), some (.int (nI o)), some (.int b), some (.int c), none, none] [.int (nI 0)] σ Q
  refine e_if_ne 49 dX10_promise_23 (by decide) (fun c => absurd c (by decide)) (fun _ => ?_)
  refine e_aload_n dX10_promise_26 rfl rfl ?_
  refine e_iload_n dX10_promise_27 rfl rfl ?_
  refine e_iconst (nI 1) dX10_promise_28 (by decide) ?_
  refine e_bipush (nI 99) dX10_promise_29 (by decide) ?_
  refine e_callS [.int c, .int (nI 1), .int (nI 99)] dX10_promise_31 cc_X10_in lk_RX10_110 st_X10_in in_RX10 rfl (Nat.le_of_ble_eq_true rfl) (Nat.le_of_ble_eq_true rfl) ?_
  refine t_X10_inF hv (fK_i ?_)
  show fEv g _ mX10_promise 34 [some (.ref 89), some (.int (nI o)), some (.int b), some (.int c), none, none] [.int (nI 0), .ref 89] σ Q
  refine e_if_ne 41 dX10_promise_34 (by decide) (fun c => absurd c (by decide)) (fun _ => ?_)
  refine e_iconst (nI 1) dX10_promise_37 (by decide) ?_
  refine e_goto 42 dX10_promise_38 (by decide) ?_
  refine e_iconst (nI 2) dX10_promise_42 (by decide) ?_
  refine e_callV (k := 89) [.int (nI 1), .int (nI 2)] dX10_promise_43 cc_X10_bad lk_RX10_148 im_X10_bad se_X10_bad (by decide) (Ms.s 89 rfl) (Ms.n (by decide)) rfl (Nat.le_of_ble_eq_true rfl) (Nat.le_of_ble_eq_true rfl) ?_
  refine t_X10_bad1 Ms hz (by decide) (fK_i ?_)
  show fEv g _ mX10_promise 46 [some (.ref 89), some (.int (nI o)), some (.int b), some (.int c), none, none] [.int (nI 1)] (fsI σ 89 0 (nI 2)) Q
  refine e_if_eq 51 dX10_promise_46 (by decide) (fun c => absurd c (by decide)) (fun _ => ?_)
  refine e_iconst (nI 0) dX10_promise_49 (by decide) ?_
  exact e_ireturn .int dX10_promise_50 rfl rfl (h _ (fSm_I (by unfold fRfA; omega)) (Ir.f0 ok (A := fun a => a = 89) (fSm_I rfl) (fun a (q : a = 89) => Or.inl (by omega)) (fun j hj => by simp only [List.mem_cons, List.not_mem_nil, or_false] at hj; rw [fI_I, if_neg (by omega)])) (by rw [fI_I, if_pos ⟨rfl, rfl⟩]))
set_option maxRecDepth 20000 in
theorem t_X10_promiseE2 {g : fGP} {d : Nat} {σ : fAH} {Q : fRes → fAH → Prop} {x : fXS} {o : Nat} {b c : Int32}  (Ms : fMs g σ) (ok : fOK x) (Ir : fIr σ x) (ho : o < dT (xD x) 2) (hv : ¬ (nI 1 ≤ c ∧ c ≤ nI 99)) (h : ∀ σ', fSm fRfA σ σ' → fIr σ' x → fI σ' 89 0 = nI 2 → Q (.inl (some (.int (nI 0)))) σ') : fEv g (d + 2) mX10_promise 0 (fent [.ref 89, .int (nI o), .int b, .int c] 6) [] σ Q := by
  have S9 : fSm (fun a => a = 89) σ (fsI σ 89 0 (nI 0)) := fSm_I rfl
  show fEv g (d + 2) mX10_promise 0 [some (.ref 89), some (.int (nI o)), some (.int b), some (.int c), none, none] [] σ Q
  refine e_aload_n dX10_promise_0 rfl rfl ?_
  refine e_iconst (nI 0) dX10_promise_1 (by decide) ?_
  refine e_putI dX10_promise_2 fl_RX10_76 (Ms.s 89 rfl) (Ms.n (by decide)) rfl rfl ?_
  exact lp_X10_promiseE2 (Ms.sm S9) ok (Ir.f0 ok S9 (fun a (q : a = 89) => Or.inl (by omega)) (fun j hj => by simp only [List.mem_cons, List.not_mem_nil, or_false] at hj; rw [fI_I, if_neg (by omega)])) (by rw [fI_I, if_pos ⟨rfl, rfl⟩]) ho hv (fun σ' Sm' => h σ' ((S9.to (fun a (q : a = 89) => by unfold fRfA; omega)).tr Sm'))
