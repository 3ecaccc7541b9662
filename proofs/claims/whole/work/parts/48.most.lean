set_option maxRecDepth 20000 in
theorem l_X2_mostOf1 {g : fGP} {d : Nat} {Q : fRes → fAH → Prop} {k : Nat} {D : fSD} {S : Nat → Nat} {T : Nat → Int32} {m : Nat} {sd : Int32} (hY : k ∈ [15, 22, 37, 46, 59, 69, 79]) (hkA : ∀ i, i < 7 → ¬ fF1 (k + i)) (hD : fWD D) (hW : fWS D S) (hC : fWC D S) (hn : S 155 < 30) : ∀ (n i : Nat) (b : Option Nat) (bs : Nat) (o10 o11 : Option Value) (σ : fAH), i + n = 2 ^ mon (m3 (mbits D S)) 12 0 → fMs g σ → fGr σ 2 D → fYr σ k D S m sd → fYt σ k S T → fWx1 σ → (∀ x, b = some x → x ≤ 64 * (512 * 891)) → (∀ σ', fSm fF1 σ σ' → fWx1 σ' → fI σ' 34 3 = nI (mfo (cF D S) (cSum D (lf0 D (S 151)) S) n i b bs).2 → Q (.inl (some (.long (ob (mfo (cF D S) (cSum D (lf0 D (S 151)) S) n i b bs).1)))) σ') → fEv g (d + 6) mX2_mostOf 63 [some (.ref 34), some (.ref k), some (.int (nI 1)), some (.int (nI (m3 (mbits D S)))), some (.int (nI (2 ^ mon (m3 (mbits D S)) 12 0))), some (.int (nI bs)), some (.long (ob b)), none, some (.int (nI (sqn (m3 (mbits D S)) i))), some (.int (nI i)), o10, o11] [] σ Q := by
  intro n
  induction n with
  | zero =>
    intro i b bs o10 o11 σ hin Ms Gr Yr Yt Wx hb h
    have yl := fyl hY
    have Gs := Ms.ground (k := 2) (by decide)
    have Ys := Ms.yard hY
    have ky := Ys.1.1
    have kn := Ys.2.1.1
    obtain ⟨t0, t1, t2, t3, t4, t5, t6⟩ := id hD.1
    have np := hW.n hD
    have hC9 := hC
    have ml := m3_at (mbits D S)
    have p8 := p2_8 ml
    have ma := m3_lt (mbits D S)
    refine e_iload dX2_mostOf_63 rfl ?_
    refine e_iload dX2_mostOf_65 rfl ?_
    refine e_icmp_ge 131 dX2_mostOf_67 (by decide) (fun _ => ?_) (fun q => absurd ((nI_le' (by omega) (by omega)).mpr (by omega)) q)
    refine e_aload_n dX2_mostOf_131 rfl rfl ?_
    refine e_iload dX2_mostOf_132 rfl ?_
    refine e_putI dX2_mostOf_134 fl_RX2_23 (Ms.s 34 rfl) (Ms.n (by decide)) rfl rfl ?_
    refine e_lload dX2_mostOf_137 rfl ?_
    exact e_lreturn dX2_mostOf_139 rfl (h _ (fSm_I (by unfold fF1; decide)) (Wx.elim (fun z q => ⟨z, q.sm (A := fun a => a = 34) (fSm_I rfl) (by decide) (by decide)⟩)) (by rw [fI_I, if_pos ⟨rfl, rfl⟩]; rfl))
  | succ n ih =>
    intro i b bs o10 o11 σ hin Ms Gr Yr Yt Wx hb h
    have yl := fyl hY
    have Gs := Ms.ground (k := 2) (by decide)
    have Ys := Ms.yard hY
    have ky := Ys.1.1
    have kn := Ys.2.1.1
    obtain ⟨t0, t1, t2, t3, t4, t5, t6⟩ := id hD.1
    have np := hW.n hD
    have hC9 := hC
    have ml := m3_at (mbits D S)
    have p8 := p2_8 ml
    have ma := m3_lt (mbits D S)
    have sl := sqn_le (m3 (mbits D S)) i
    have ce := (cF_e (S := S) hD (w := i) (by omega)).1 (by omega)
    have mo9 := mon_le (b := sqn (m3 (mbits D S)) i) 12 0
    refine e_iload dX2_mostOf_63 rfl ?_
    refine e_iload dX2_mostOf_65 rfl ?_
    refine e_icmp_ge 131 dX2_mostOf_67 (by decide) (fun q => absurd ((nI_le' (by omega) (by omega)).mp q) (by omega)) (fun _ => ?_)
    refine e_iload dX2_mostOf_70 rfl ?_
    refine e_callS [.int (nI (sqn (m3 (mbits D S)) i))] dX2_mostOf_72 cc_J6_bitCount_0f7a4 lk_RX2_46 st_J6_bitCount_0f7a4 in_RJ6 rfl (Nat.le_of_ble_eq_true rfl) (Nat.le_of_ble_eq_true rfl) ?_
    refine t_J6_bitCount (by omega) (fK_i ?_)
    show fEv g _ mX2_mostOf 75 [some (.ref 34), some (.ref k), some (.int (nI 1)), some (.int (nI (m3 (mbits D S)))), some (.int (nI (2 ^ mon (m3 (mbits D S)) 12 0))), some (.int (nI bs)), some (.long (ob b)), none, some (.int (nI (sqn (m3 (mbits D S)) i))), some (.int (nI i)), o10, o11] [.int (nI (mon (sqn (m3 (mbits D S)) i) 12 0))] σ Q
    refine e_aload_n dX2_mostOf_75 rfl rfl ?_
    refine e_getR (q := 2) dX2_mostOf_76 fl_RX2_27 (Ms.s 34 rfl) (Ms.n (by decide)) rfl (Ms.r 34 0 rfl) (by unfold fscr; omega) ?_
    refine e_getI dX2_mostOf_79 fl_RX2_53 (Ms.s 2 rfl) (Ms.n (by decide)) rfl ?_
    refine e_int (nI (dT D 3)) Gr.1.2.2.2.2.1 ?_
    refine e_icmp_gt 96 dX2_mostOf_82 (by decide) (fun c82 => ?_) (fun c82 => ?_)
    · rw [nI_lt' (by omega) (by omega)] at c82
      refine e_ldc2 (-1) dX2_mostOf_96 kc_RX2_51 ?_
      refine e_lstore (L1 := [some (.ref 34), some (.ref k), some (.int (nI 1)), some (.int (nI (m3 (mbits D S)))), some (.int (nI (2 ^ mon (m3 (mbits D S)) 12 0))), some (.int (nI bs)), some (.long (ob b)), none, some (.int (nI (sqn (m3 (mbits D S)) i))), some (.int (nI i)), some (.long ((-1))), none]) dX2_mostOf_99 (by decide) rfl ?_
      refine e_lload dX2_mostOf_101 rfl ?_
      refine e_lload dX2_mostOf_103 rfl ?_
      refine e_lcmp dX2_mostOf_105 ?_
      refine e_if_le 117 dX2_mostOf_106 (by decide) (fun c106 => ?_) (fun c106 => absurd (lc_le.mpr (ob_ge (fun x hx => by have := hb x hx; omega))) c106)
      refine e_iload dX2_mostOf_117 rfl ?_
      refine e_iload_n dX2_mostOf_119 rfl rfl ?_
      refine e_isub dX2_mostOf_120 ?_
      refine e_iload_n dX2_mostOf_121 rfl rfl ?_
      refine e_iand dX2_mostOf_122 ?_
      refine e_int (nI (sqn (m3 (mbits D S)) (i + 1))) (nx_e _ _ (by omega)) ?_
      refine e_istore (L1 := [some (.ref 34), some (.ref k), some (.int (nI 1)), some (.int (nI (m3 (mbits D S)))), some (.int (nI (2 ^ mon (m3 (mbits D S)) 12 0))), some (.int (nI bs)), some (.long (ob b)), none, some (.int (nI (sqn (m3 (mbits D S)) (i + 1)))), some (.int (nI i)), some (.long ((-1))), none]) dX2_mostOf_123 (by decide) rfl ?_
      refine e_iinc (v := nI (i + 1)) (L1 := [some (.ref 34), some (.ref k), some (.int (nI 1)), some (.int (nI (m3 (mbits D S)))), some (.int (nI (2 ^ mon (m3 (mbits D S)) 12 0))), some (.int (nI bs)), some (.long (ob b)), none, some (.int (nI (sqn (m3 (mbits D S)) (i + 1)))), some (.int (nI (i + 1))), some (.long ((-1))), none]) dX2_mostOf_125 rfl (show nI i + Int32.ofInt 1 = nI (i + 1) from nI_add i 1) (by decide) rfl ?_
      refine e_goto 63 dX2_mostOf_128 (by decide) ?_
      rw [mfo_n (cF_n (by omega))] at h
      exact ih (i + 1) b bs _ _ σ (by omega) Ms Gr Yr Yt Wx hb h
    · rw [nI_lt' (by omega) (by omega)] at c82
      have cs9 := cF_s (D := D) (S := S) (i := i) (by omega)
      rw [cs9] at ce
      have me := mset_e hD (by omega) ce.symm
      have mh := mset_hi ce.symm
      have gl := mG_le (lf := (lf0 D (S 151))) (B := 891) hD hW hC hn mh.1 me.2.2.1 (fun S9 hR => by have := mend_p hD hR.1 hR.2.1; unfold lf0; rw [hR.2.2.2.1] at this; omega)
      have cg := cSum_G (D := D) (lf := (lf0 D (S 151))) (S := S) me.2.2.1
      refine e_aload_n dX2_mostOf_85 rfl rfl ?_
      refine e_aload_n dX2_mostOf_86 rfl rfl ?_
      refine e_iload dX2_mostOf_87 rfl ?_
      refine e_iload_n dX2_mostOf_89 rfl rfl ?_
      refine e_callV (k := 34) [.ref k, .int (nI (sqn (m3 (mbits D S)) i)), .int (nI 1)] dX2_mostOf_90 cc_X2_sumOf lk_RX2_58 im_X2_sumOf se_X2_sumOf (by decide) (Ms.s 34 rfl) (Ms.n (by decide)) rfl (Nat.le_of_ble_eq_true rfl) (Nat.le_of_ble_eq_true rfl) ?_
      refine t_X2_sumOf1 Ms hY hkA Gr hD Yr Yt hW hC9 hn mh.1 (by omega) (by omega) Wx (fun σ1 Smx1 Wx1 => ?_)
      show fEv g _ mX2_mostOf 93 [some (.ref 34), some (.ref k), some (.int (nI 1)), some (.int (nI (m3 (mbits D S)))), some (.int (nI (2 ^ mon (m3 (mbits D S)) 12 0))), some (.int (nI bs)), some (.long (ob b)), none, some (.int (nI (sqn (m3 (mbits D S)) i))), some (.int (nI i)), o10, o11] [.long (nL (cSum D (lf0 D (S 151)) S (sqn (m3 (mbits D S)) i)))] σ1 Q
      have Sm1 := (Smx1.to (B := fF1) (fun a q => by unfold fF1 at q; unfold fF1; omega))
      have Ms1 := Ms.sm Sm1
      have en1 : fnx σ1 = fnx σ := Sm1.n
      have Gs1 := Ms1.ground (k := 2) (by decide)
      have Ys1 := Ms1.yard hY
      have Gr1 := Gr.sm Sm1 (fun i hi => by unfold fF1; omega)
      have Yr1 := Yr.sm Sm1 hkA
      have Yt1 := Yt.sm Sm1 hkA
      have hW1 := hW
      refine e_goto 99 dX2_mostOf_93 (by decide) ?_
      refine e_lstore (L1 := [some (.ref 34), some (.ref k), some (.int (nI 1)), some (.int (nI (m3 (mbits D S)))), some (.int (nI (2 ^ mon (m3 (mbits D S)) 12 0))), some (.int (nI bs)), some (.long (ob b)), none, some (.int (nI (sqn (m3 (mbits D S)) i))), some (.int (nI i)), some (.long (nL (cSum D (lf0 D (S 151)) S (sqn (m3 (mbits D S)) i)))), none]) dX2_mostOf_99 (by decide) rfl ?_
      refine e_lload dX2_mostOf_101 rfl ?_
      refine e_lload dX2_mostOf_103 rfl ?_
      refine e_lcmp dX2_mostOf_105 ?_
      refine e_if_le 117 dX2_mostOf_106 (by decide) (fun c106 => ?_) (fun c106 => ?_)
      · have c106 : mbt b (cSum D (lf0 D (S 151)) S (sqn (m3 (mbits D S)) i)) = false := by
          cases q : mbt b (cSum D (lf0 D (S 151)) S (sqn (m3 (mbits D S)) i))
          · rfl
          · exact absurd ((ob_lt (by omega) (fun x hx => by have := hb x hx; omega)).mpr q) (lc_le.mp c106)
        refine e_iload dX2_mostOf_117 rfl ?_
        refine e_iload_n dX2_mostOf_119 rfl rfl ?_
        refine e_isub dX2_mostOf_120 ?_
        refine e_iload_n dX2_mostOf_121 rfl rfl ?_
        refine e_iand dX2_mostOf_122 ?_
        refine e_int (nI (sqn (m3 (mbits D S)) (i + 1))) (nx_e _ _ (by omega)) ?_
        refine e_istore (L1 := [some (.ref 34), some (.ref k), some (.int (nI 1)), some (.int (nI (m3 (mbits D S)))), some (.int (nI (2 ^ mon (m3 (mbits D S)) 12 0))), some (.int (nI bs)), some (.long (ob b)), none, some (.int (nI (sqn (m3 (mbits D S)) (i + 1)))), some (.int (nI i)), some (.long (nL (cSum D (lf0 D (S 151)) S (sqn (m3 (mbits D S)) i)))), none]) dX2_mostOf_123 (by decide) rfl ?_
        refine e_iinc (v := nI (i + 1)) (L1 := [some (.ref 34), some (.ref k), some (.int (nI 1)), some (.int (nI (m3 (mbits D S)))), some (.int (nI (2 ^ mon (m3 (mbits D S)) 12 0))), some (.int (nI bs)), some (.long (ob b)), none, some (.int (nI (sqn (m3 (mbits D S)) (i + 1)))), some (.int (nI (i + 1))), some (.long (nL (cSum D (lf0 D (S 151)) S (sqn (m3 (mbits D S)) i)))), none]) dX2_mostOf_125 rfl (show nI i + Int32.ofInt 1 = nI (i + 1) from nI_add i 1) (by decide) rfl ?_
        refine e_goto 63 dX2_mostOf_128 (by decide) ?_
        rw [mfo_f cs9 c106] at h
        exact ih (i + 1) b bs _ _ σ1 (by omega) Ms1 Gr1 Yr1 Yt1 Wx1 hb (fun σ' Sm' Wx' h3 => h σ' (Sm1.tr Sm') Wx' h3)
      · have c106 := (ob_lt (b := b) (v := cSum D (lf0 D (S 151)) S (sqn (m3 (mbits D S)) i)) (by omega) (fun x hx => by have := hb x hx; omega)).mp (by by_cases q : ob b < nL (cSum D (lf0 D (S 151)) S (sqn (m3 (mbits D S)) i)); exact q; exact absurd (lc_le.mpr q) c106)
        refine e_lload dX2_mostOf_109 rfl ?_
        refine e_lstore (L1 := [some (.ref 34), some (.ref k), some (.int (nI 1)), some (.int (nI (m3 (mbits D S)))), some (.int (nI (2 ^ mon (m3 (mbits D S)) 12 0))), some (.int (nI bs)), some (.long (nL (cSum D (lf0 D (S 151)) S (sqn (m3 (mbits D S)) i)))), none, some (.int (nI (sqn (m3 (mbits D S)) i))), some (.int (nI i)), some (.long (nL (cSum D (lf0 D (S 151)) S (sqn (m3 (mbits D S)) i)))), none]) dX2_mostOf_111 (by decide) rfl ?_
        refine e_iload dX2_mostOf_113 rfl ?_
        refine e_istore (L1 := [some (.ref 34), some (.ref k), some (.int (nI 1)), some (.int (nI (m3 (mbits D S)))), some (.int (nI (2 ^ mon (m3 (mbits D S)) 12 0))), some (.int (nI (sqn (m3 (mbits D S)) i))), some (.long (nL (cSum D (lf0 D (S 151)) S (sqn (m3 (mbits D S)) i)))), none, some (.int (nI (sqn (m3 (mbits D S)) i))), some (.int (nI i)), some (.long (nL (cSum D (lf0 D (S 151)) S (sqn (m3 (mbits D S)) i)))), none]) dX2_mostOf_115 (by decide) rfl ?_
        refine e_iload dX2_mostOf_117 rfl ?_
        refine e_iload_n dX2_mostOf_119 rfl rfl ?_
        refine e_isub dX2_mostOf_120 ?_
        refine e_iload_n dX2_mostOf_121 rfl rfl ?_
        refine e_iand dX2_mostOf_122 ?_
        refine e_int (nI (sqn (m3 (mbits D S)) (i + 1))) (nx_e _ _ (by omega)) ?_
        refine e_istore (L1 := [some (.ref 34), some (.ref k), some (.int (nI 1)), some (.int (nI (m3 (mbits D S)))), some (.int (nI (2 ^ mon (m3 (mbits D S)) 12 0))), some (.int (nI (sqn (m3 (mbits D S)) i))), some (.long (nL (cSum D (lf0 D (S 151)) S (sqn (m3 (mbits D S)) i)))), none, some (.int (nI (sqn (m3 (mbits D S)) (i + 1)))), some (.int (nI i)), some (.long (nL (cSum D (lf0 D (S 151)) S (sqn (m3 (mbits D S)) i)))), none]) dX2_mostOf_123 (by decide) rfl ?_
        refine e_iinc (v := nI (i + 1)) (L1 := [some (.ref 34), some (.ref k), some (.int (nI 1)), some (.int (nI (m3 (mbits D S)))), some (.int (nI (2 ^ mon (m3 (mbits D S)) 12 0))), some (.int (nI (sqn (m3 (mbits D S)) i))), some (.long (nL (cSum D (lf0 D (S 151)) S (sqn (m3 (mbits D S)) i)))), none, some (.int (nI (sqn (m3 (mbits D S)) (i + 1)))), some (.int (nI (i + 1))), some (.long (nL (cSum D (lf0 D (S 151)) S (sqn (m3 (mbits D S)) i)))), none]) dX2_mostOf_125 rfl (show nI i + Int32.ofInt 1 = nI (i + 1) from nI_add i 1) (by decide) rfl ?_
        refine e_goto 63 dX2_mostOf_128 (by decide) ?_
        rw [mfo_t cs9 c106] at h
        exact ih (i + 1) (some (cSum D (lf0 D (S 151)) S (sqn (m3 (mbits D S)) i))) (sqn (m3 (mbits D S)) i) _ _ σ1 (by omega) Ms1 Gr1 Yr1 Yt1 Wx1 (fun x hx => by cases hx; omega) (fun σ' Sm' Wx' h3 => h σ' (Sm1.tr Sm') Wx' h3)
set_option maxRecDepth 20000 in
theorem t_X2_mostOf1 {g : fGP} {d : Nat} {σ : fAH} {Q : fRes → fAH → Prop} {k : Nat} {D : fSD} {S : Nat → Nat} {T : Nat → Int32} {m : Nat} {sd : Int32} (Ms : fMs g σ) (hY : k ∈ [15, 22, 37, 46, 59, 69, 79]) (hkA : ∀ i, i < 7 → ¬ fF1 (k + i)) (Gr : fGr σ 2 D) (hD : fWD D) (Yr : fYr σ k D S m sd) (Yt : fYt σ k S T) (hW : fWS D S) (hC : fWC D S) (Wx : fWx1 σ) (h : ∀ σ', fSm fF1 σ σ' → fWx1 σ' → Q (.inl (some (.long (nL (cM1 D S))))) σ') : fEv g (d + 6) mX2_mostOf 0 (fent [.ref 34, .ref k, .int (nI 1)] 12) [] σ Q := by
  have yl := fyl hY
  have Gs := Ms.ground (k := 2) (by decide)
  have Ys := Ms.yard hY
  have ky := Ys.1.1
  have kn := Ys.2.1.1
  obtain ⟨t0, t1, t2, t3, t4, t5, t6⟩ := id hD.1
  have np := hW.n hD
  have n5 := hW.2.2.2.2
  have ml := m3_at (mbits D S)
  have p8 := p2_8 ml
  have ma := m3_lt (mbits D S)
  show fEv g (d + 6) mX2_mostOf 0 [some (.ref 34), some (.ref k), some (.int (nI 1)), none, none, none, none, none, none, none, none, none] [] σ Q
  refine e_iload_n dX2_mostOf_0 rfl rfl ?_
  refine e_iconst (nI 1) dX2_mostOf_1 (by decide) ?_
  refine e_icmp_lt 19 dX2_mostOf_2 (by decide) (fun c => absurd c (by decide)) (fun _ => ?_)
  refine e_iload_n dX2_mostOf_5 rfl rfl ?_
  refine e_iconst (nI 2) dX2_mostOf_6 (by decide) ?_
  refine e_icmp_gt 19 dX2_mostOf_7 (by decide) (fun c => absurd c (by decide)) (fun _ => ?_)
  refine e_aload_n dX2_mostOf_10 rfl rfl ?_
  refine e_getI dX2_mostOf_11 fl_RX2_35 ky (show k < fnx σ by omega) rfl ?_
  refine e_int (nI (S 155)) Yr.1.2.2.1 ?_
  refine e_bipush (nI 30) dX2_mostOf_14 (by decide) ?_
  refine e_icmp_lt 21 dX2_mostOf_16 (by decide) (fun c16 => ?_) (fun c16 => ?_)
  · rw [nI_lt' (by omega) (by omega)] at c16
    have hm1 : cM1 D S = 64 * mbn D S := if_neg (by omega)
    have hn : S 155 < 30 := by omega
    refine e_iload_n dX2_mostOf_21 rfl rfl ?_
    refine e_iconst (nI 1) dX2_mostOf_22 (by decide) ?_
    refine e_icmp_ne 35 dX2_mostOf_23 (by decide) (fun c => absurd c (by decide)) (fun _ => ?_)
    refine e_aload_n dX2_mostOf_26 rfl rfl ?_
    refine e_callV (k := k) [] dX2_mostOf_27 cc_X8_mayBePaid lk_RX2_38 im_X8_mayBePaid se_X8_mayBePaid (by decide) ky (show k < fnx σ by omega) rfl (Nat.le_of_ble_eq_true rfl) (Nat.le_of_ble_eq_true rfl) ?_
    refine t_X8_mayBePaid Gs Gr hD Ys Yr hW (fK_i ?_)
    show fEv g _ mX2_mostOf 30 [some (.ref 34), some (.ref k), some (.int (nI 1)), none, none, none, none, none, none, none, none, none] [.int (nI (bn (mmp D S)))] σ Q
    refine e_if_ne 35 dX2_mostOf_30 (by decide) (fun c30 => ?_) (fun c30 => ?_)
    · have c30 := bn1 c30
      refine e_aload_n dX2_mostOf_35 rfl rfl ?_
      refine e_iconst (nI 3) dX2_mostOf_36 (by decide) ?_
      refine e_callV (k := k) [.int (nI 3)] dX2_mostOf_37 cc_X8_firstAlive lk_RX2_42 im_X8_firstAlive se_X8_firstAlive (by decide) ky (show k < fnx σ by omega) rfl (Nat.le_of_ble_eq_true rfl) (Nat.le_of_ble_eq_true rfl) ?_
      refine t_X8_firstAlive Gs Gr hD Ys Yr hW (by omega) (fK_i ?_)
      show fEv g _ mX2_mostOf 40 [some (.ref 34), some (.ref k), some (.int (nI 1)), none, none, none, none, none, none, none, none, none] [.int (nI (mfa (mal D S) 3 (dT D 1) 0 0))] σ Q
      refine e_int (nI (m3 (mbits D S))) (by rw [m3_e hD]) ?_
      refine e_istore_n (L1 := [some (.ref 34), some (.ref k), some (.int (nI 1)), some (.int (nI (m3 (mbits D S)))), none, none, none, none, none, none, none, none]) dX2_mostOf_40 rfl (by decide) rfl ?_
      refine e_iconst (nI 1) dX2_mostOf_41 (by decide) ?_
      refine e_iload_n dX2_mostOf_42 rfl rfl ?_
      refine e_callS [.int (nI (m3 (mbits D S)))] dX2_mostOf_43 cc_J6_bitCount_0f7a4 lk_RX2_46 st_J6_bitCount_0f7a4 in_RJ6 rfl (Nat.le_of_ble_eq_true rfl) (Nat.le_of_ble_eq_true rfl) ?_
      refine t_J6_bitCount (by omega) (fK_i ?_)
      show fEv g _ mX2_mostOf 46 [some (.ref 34), some (.ref k), some (.int (nI 1)), some (.int (nI (m3 (mbits D S)))), none, none, none, none, none, none, none, none] [.int (nI (mon (m3 (mbits D S)) 12 0)), .int (nI 1)] σ Q
      refine e_ishl dX2_mostOf_46 ?_
      refine e_int (nI (2 ^ mon (m3 (mbits D S)) 12 0)) (nI_sh1 (by omega)) ?_
      refine e_istore (L1 := [some (.ref 34), some (.ref k), some (.int (nI 1)), some (.int (nI (m3 (mbits D S)))), some (.int (nI (2 ^ mon (m3 (mbits D S)) 12 0))), none, none, none, none, none, none, none]) dX2_mostOf_47 (by decide) rfl ?_
      refine e_iconst (nI 0) dX2_mostOf_49 (by decide) ?_
      refine e_istore (L1 := [some (.ref 34), some (.ref k), some (.int (nI 1)), some (.int (nI (m3 (mbits D S)))), some (.int (nI (2 ^ mon (m3 (mbits D S)) 12 0))), some (.int (nI 0)), none, none, none, none, none, none]) dX2_mostOf_50 (by decide) rfl ?_
      refine e_ldc2 (-1) dX2_mostOf_52 kc_RX2_51 ?_
      refine e_lstore (L1 := [some (.ref 34), some (.ref k), some (.int (nI 1)), some (.int (nI (m3 (mbits D S)))), some (.int (nI (2 ^ mon (m3 (mbits D S)) 12 0))), some (.int (nI 0)), some (.long ((-1))), none, none, none, none, none]) dX2_mostOf_55 (by decide) rfl ?_
      refine e_iconst (nI 0) dX2_mostOf_57 (by decide) ?_
      refine e_istore (L1 := [some (.ref 34), some (.ref k), some (.int (nI 1)), some (.int (nI (m3 (mbits D S)))), some (.int (nI (2 ^ mon (m3 (mbits D S)) 12 0))), some (.int (nI 0)), some (.long ((-1))), none, some (.int (nI 0)), none, none, none]) dX2_mostOf_58 (by decide) rfl ?_
      refine e_iconst (nI 0) dX2_mostOf_60 (by decide) ?_
      refine e_istore (L1 := [some (.ref 34), some (.ref k), some (.int (nI 1)), some (.int (nI (m3 (mbits D S)))), some (.int (nI (2 ^ mon (m3 (mbits D S)) 12 0))), some (.int (nI 0)), some (.long ((-1))), none, some (.int (nI 0)), some (.int (nI 0)), none, none]) dX2_mostOf_61 (by decide) rfl ?_
      obtain ⟨s9, hs9⟩ := cM1_e (S := S) hD
      exact l_X2_mostOf1 hY hkA hD hW hC hn (2 ^ mon (m3 (mbits D S)) 12 0) 0 none 0 none none σ (by omega) Ms Gr Yr Yt Wx (fun x hx => by cases hx) (fun σ' Sm' Wx' _ => by rw [hs9]; rw [hm1] at h; exact h σ' Sm' Wx')
    · have c30 := bn0 c30
      rw [hm1, mbn_no hD hW hC hn c30] at h
      refine e_lconst 0 dX2_mostOf_33 (by decide) ?_
      refine e_long (nL 0) rfl ?_
      exact e_lreturn dX2_mostOf_34 rfl (h _ fSm.rfl' Wx)
  · rw [nI_lt' (by omega) (by omega)] at c16
    have hz : cM1 D S = 0 := if_pos (by omega)
    rw [hz] at h
    refine e_lconst 0 dX2_mostOf_19 (by decide) ?_
    refine e_long (nL 0) rfl ?_
    exact e_lreturn dX2_mostOf_20 rfl (h _ fSm.rfl' Wx)
set_option maxRecDepth 20000 in
theorem l_X2_in20 {g : fGP} {d : Nat} {σ : fAH} {Q : fRes → fAH → Prop} {k fl a e c i : Nat} {o12 o13 : Option Value} (hi : i ≤ 4096) (h : fEv g d mX2_sumOf 216 [some (.ref 34), some (.ref k), some (.int (nI fl)), some (.int (nI 2)), some (.ref 46), some (.ref 53), some (.long (nL a)), none, some (.int (nI e)), some (.int (nI c)), some (.int (nI 0)), some (.int (nI i)), o12, o13] [] σ Q) : fEv g d mX2_sumOf 120 [some (.ref 34), some (.ref k), some (.int (nI fl)), some (.int (nI 2)), some (.ref 46), some (.ref 53), some (.long (nL a)), none, some (.int (nI e)), some (.int (nI c)), some (.int (nI 0)), some (.int (nI i)), o12, o13] [] σ Q := by
  refine e_iload dX2_sumOf_120 rfl ?_
  refine e_sipush (nI 4096) dX2_sumOf_122 (by decide) ?_
  refine e_icmp_ge 216 dX2_sumOf_125 (by decide) (fun c125 => ?_) (fun c125 => ?_)
  · rw [nI_le' (by omega) (by omega)] at c125
    exact h
  · rw [nI_le' (by omega) (by omega)] at c125
    refine e_iload dX2_sumOf_128 rfl ?_
    refine e_if_eq 216 dX2_sumOf_130 (by decide) (fun _ => ?_) (fun c => absurd c (by decide))
    exact h
set_option maxRecDepth 20000 in
theorem l_X2_in2 {g : fGP} {d : Nat} {Q : fRes → fAH → Prop} {k : Nat} {D : fSD} {S : Nat → Nat} {T : Nat → Int32} {m : Nat} {sd : Int32} {fl e c : Nat} (hY : k ∈ [15, 22, 37, 46, 59, 69, 79]) (hkA : ∀ i, i < 7 → ¬ fF2 (k + i)) (hD : fWD D) (hW : fWS D S) (hC : fWC D S) (hn : S 155 < 30) (hf2 : fl < 4096) (he : e ≤ 100) (hc : c < 10) : ∀ (n i a : Nat) (z : fZW) (o12 o13 : Option Value) (σ : fAH), i + n = 4096 → fMs g σ → fGr σ 2 D → fYr σ k D S m sd → fYt σ k S T → fWr σ 53 z → fWx1 σ → (∀ σ' o10 o11 p12 p13, fSm fF2 σ σ' → fWx2 σ' → fEv g (d + 7) mX2_sumOf 216 [some (.ref 34), some (.ref k), some (.int (nI fl)), some (.int (nI 2)), some (.ref 46), some (.ref 53), some (.long (nL (a + e * mlp D (lf2 D (S 151)) fl c S n z))), none, some (.int (nI e)), some (.int (nI c)), o10, o11, p12, p13] [] σ' Q) → fEv g (d + 7) mX2_sumOf 120 [some (.ref 34), some (.ref k), some (.int (nI fl)), some (.int (nI 2)), some (.ref 46), some (.ref 53), some (.long (nL a)), none, some (.int (nI e)), some (.int (nI c)), some (.int (nI 1)), some (.int (nI i)), o12, o13] [] σ Q := by
  intro n
  induction n with
  | zero =>
    intro i a z o12 o13 σ hin Ms Gr Yr Yt Wr Wy h
    refine e_iload dX2_sumOf_120 rfl ?_
    refine e_sipush (nI 4096) dX2_sumOf_122 (by decide) ?_
    refine e_icmp_ge 216 dX2_sumOf_125 (by decide) (fun _ => ?_) (fun q => absurd ((nI_le' (by omega) (by omega)).mpr (by omega)) q)
    have h9 := h σ (some (.int (nI 1))) (some (.int (nI i))) o12 o13 fSm.rfl' ⟨Wy, _, Wr⟩
    exact h9
  | succ n ih =>
    intro i a z o12 o13 σ hin Ms Gr Yr Yt Wr Wy h
    have yl := fyl hY
    have Gs := Ms.ground (k := 2) (by decide)
    have Ys := Ms.yard hY
    have ky := Ys.1.1
    have kn := Ys.2.1.1
    obtain ⟨t0, t1, t2, t3, t4, t5, t6⟩ := id hD.1
    have np := hW.n hD
    have hZ : 46 ∈ [15, 22, 37, 46, 59, 69, 79] := by decide
    have hw : 53 ∈ [44, 53] := by decide
    have kz : k ≠ 46 := fun e9 => hkA 0 (by decide) (by rw [e9]; unfold fF2; decide)
    have hC9 := hC
    have n5 := hW.2.2.2.2
    have hT := mfrz_T wdr D fl c (dT D 1) 0 S T (fun _ => 0) z
    have r9 := mR_frz (dr := wdr) (fill := fl) (cold := c) hD hn (dT D 1) 0 (S, T, z) (by omega) ⟨hW, hC, rfl, rfl, fun _ _ => rfl⟩
    have pp := mend_p hD r9.1 r9.2.1
    rw [r9.2.2.2.1] at pp
    have w9 := fWS_end hD r9.1 r9.2.1 (by rw [r9.2.2.1]; exact hn)
    have hm : mlp D (lf2 D (S 151)) fl c S (n + 1) z = wwt (mfrz wdr D fl c (dT D 1) 0 (S, T, z)).2.2 6 0 * (lf2 D (S 151)) (mfrz wdr D fl c (dT D 1) 0 (S, T, z)).1 + (if (wadv (mfrz wdr D fl c (dT D 1) 0 (S, T, z)).2.2).2 then mlp D (lf2 D (S 151)) fl c S n (wadv (mfrz wdr D fl c (dT D 1) 0 (S, T, z)).2.2).1 else 0) := by rw [hT.1, hT.2]; rfl
    rw [hm] at h
    refine e_iload dX2_sumOf_120 rfl ?_
    refine e_sipush (nI 4096) dX2_sumOf_122 (by decide) ?_
    refine e_icmp_ge 216 dX2_sumOf_125 (by decide) (fun q => absurd ((nI_le' (by omega) (by omega)).mp q) (by omega)) (fun _ => ?_)
    refine e_iload dX2_sumOf_128 rfl ?_
    refine e_if_eq 216 dX2_sumOf_130 (by decide) (fun c => absurd c (by decide)) (fun _ => ?_)
    refine e_aload dX2_sumOf_133 rfl ?_
    refine e_aload_n dX2_sumOf_135 rfl rfl ?_
    refine e_callV (k := 46) [.ref k] dX2_sumOf_136 cc_X8_copyFrom lk_RX2_73 im_X8_copyFrom se_X8_copyFrom (by decide) (Ms.s 46 rfl) (Ms.n (by decide)) rfl (Nat.le_of_ble_eq_true rfl) (Nat.le_of_ble_eq_true rfl) ?_
    refine t_X8_copyFrom Ms hZ hY kz hD Yr Yt hW (fun σ1 Smx1 Yf1z => ?_)
    show fEv g _ mX2_sumOf 139 [some (.ref 34), some (.ref k), some (.int (nI fl)), some (.int (nI 2)), some (.ref 46), some (.ref 53), some (.long (nL a)), none, some (.int (nI e)), some (.int (nI c)), some (.int (nI 1)), some (.int (nI i)), o12, o13] [] σ1 Q
    have Sm1 := (Smx1.to (B := fF2) (fun a q => by unfold fYA at q; unfold fF2; omega))
    have Ms1 := Ms.sm Sm1
    have en1 : fnx σ1 = fnx σ := Sm1.n
    have Gs1 := Ms1.ground (k := 2) (by decide)
    have Ys1 := Ms1.yard hY
    have Gr1 := Gr.sm Sm1 (fun i hi => by unfold fF2; omega)
    have Yr1 := Yr.sm Sm1 hkA
    have Yt1 := Yt.sm Sm1 hkA
    have hW1 := hW
    obtain ⟨⟨m1z, Yr1z⟩, Yt1z⟩ := Yf1z
    have Wr1 := Wr.sm Smx1 (by unfold fYA; omega) (by unfold fYA; omega)
    have Wy1 : fWx1 σ1 := Wy.elim (fun z q => ⟨z, q.sm Smx1 (by unfold fYA; omega) (by unfold fYA; omega)⟩)
    refine e_aload dX2_sumOf_139 rfl ?_
    refine e_iload_n dX2_sumOf_141 rfl rfl ?_
    refine e_iload dX2_sumOf_142 rfl ?_
    refine e_aload dX2_sumOf_144 rfl ?_
    refine e_callV (k := 46) [.int (nI fl), .int (nI c), .ref 53] dX2_sumOf_146 cc_X8_goThrough lk_RX2_77 im_X8_goThrough se_X8_goThrough (by decide) (Ms1.s 46 rfl) (Ms1.n (by decide)) rfl (Nat.le_of_ble_eq_true rfl) (Nat.le_of_ble_eq_true rfl) ?_
    refine t_X8_goThroughW Ms1 hZ Gr1 hD Yr1z Yt1z hW1 hC9 hw Wr1 hf2 (by omega) hn (fun σ2 Smx2 Yf2z Wr2 => ?_)
    show fEv g _ mX2_sumOf 149 [some (.ref 34), some (.ref k), some (.int (nI fl)), some (.int (nI 2)), some (.ref 46), some (.ref 53), some (.long (nL a)), none, some (.int (nI e)), some (.int (nI c)), some (.int (nI 1)), some (.int (nI i)), o12, o13] [.int (nI ((mgo wdr D fl c (S, T, z)).1 152) - nI (S 152))] σ2 Q
    have Sm2 := Sm1.tr (Smx2.to (B := fF2) (fun a q => by unfold fYA fWA at q; unfold fF2; omega))
    have Ms2 := Ms.sm Sm2
    have en2 : fnx σ2 = fnx σ := Sm2.n
    have Gs2 := Ms2.ground (k := 2) (by decide)
    have Ys2 := Ms2.yard hY
    have Gr2 := Gr.sm Sm2 (fun i hi => by unfold fF2; omega)
    have Yr2 := Yr.sm Sm2 hkA
    have Yt2 := Yt.sm Sm2 hkA
    have hW2 := hW
    obtain ⟨⟨m2z, Yr2z⟩, Yt2z⟩ := Yf2z
    have Wy2 : fWx1 σ2 := Wy1.elim (fun z q => ⟨z, q.sm Smx2 (by unfold fYA fWA; omega) (by unfold fYA fWA; omega)⟩)
    refine e_pop dX2_sumOf_149 rfl ?_
    refine e_aload dX2_sumOf_150 rfl ?_
    refine e_getI dX2_sumOf_152 fl_RX2_81 (Ms2.s 46 rfl) (Ms2.n (by decide)) rfl ?_
    refine e_int (nI (mend D (mfrz wdr D fl c (dT D 1) 0 (S, T, z)).1 151)) Yr2z.1.2.2.2.1 ?_
    refine e_aload_n dX2_sumOf_155 rfl rfl ?_
    refine e_getI dX2_sumOf_156 fl_RX2_81 ky (show k < fnx σ2 by omega) rfl ?_
    refine e_int (nI (S 151)) Yr2.1.2.2.2.1 ?_
    refine e_isub dX2_sumOf_159 ?_
    refine e_int (nI ((mend D (mfrz wdr D fl c (dT D 1) 0 (S, T, z)).1 151) - (S 151))) (pk_sub (by omega)) ?_
    refine e_i2l dX2_sumOf_160 ?_
    refine e_long (nL ((mend D (mfrz wdr D fl c (dT D 1) 0 (S, T, z)).1 151) - (S 151))) (nL_i (by omega)) ?_
    refine e_lstore (L1 := [some (.ref 34), some (.ref k), some (.int (nI fl)), some (.int (nI 2)), some (.ref 46), some (.ref 53), some (.long (nL a)), none, some (.int (nI e)), some (.int (nI c)), some (.int (nI 1)), some (.int (nI i)), some (.long (nL ((mend D (mfrz wdr D fl c (dT D 1) 0 (S, T, z)).1 151) - (S 151)))), none]) dX2_sumOf_161 (by decide) rfl ?_
    refine e_iload_n dX2_sumOf_163 rfl rfl ?_
    refine e_iconst (nI 1) dX2_sumOf_164 (by decide) ?_
    refine e_icmp_le 186 dX2_sumOf_165 (by decide) (fun c => absurd c (by decide)) (fun _ => ?_)
    refine e_lload dX2_sumOf_168 rfl ?_
    refine e_ldc2 (32768) dX2_sumOf_170 kc_RX2_84 ?_
    refine e_long (nL 32768) rfl ?_
    refine e_lmul dX2_sumOf_173 ?_
    refine e_long (nL (((mend D (mfrz wdr D fl c (dT D 1) 0 (S, T, z)).1 151) - (S 151)) * 32768)) (nL_mul ((mend D (mfrz wdr D fl c (dT D 1) 0 (S, T, z)).1 151) - (S 151)) 32768) ?_
    refine e_aload_n dX2_sumOf_174 rfl rfl ?_
    refine e_aload dX2_sumOf_175 rfl ?_
    refine e_iload_n dX2_sumOf_177 rfl rfl ?_
    refine e_iconst (nI 1) dX2_sumOf_178 (by decide) ?_
    refine e_isub dX2_sumOf_179 ?_
    refine e_int (nI (2 - 1)) (pk_sub (by omega)) ?_
    refine e_callV (k := 34) [.ref 46, .int (nI (2 - 1))] dX2_sumOf_180 cc_X2_mostOf lk_RX2_86 im_X2_mostOf se_X2_mostOf (by decide) (Ms2.s 34 rfl) (Ms2.n (by decide)) rfl (Nat.le_of_ble_eq_true rfl) (Nat.le_of_ble_eq_true rfl) ?_
    refine t_X2_mostOf1 (k := 46) Ms2 (by decide) (fun i hi => by unfold fF1; omega) Gr2 hD Yr2z Yt2z w9.1 w9.2.1 Wy2 (fun σ3 Smx3 Wy3 => ?_)
    show fEv g _ mX2_sumOf 183 [some (.ref 34), some (.ref k), some (.int (nI fl)), some (.int (nI 2)), some (.ref 46), some (.ref 53), some (.long (nL a)), none, some (.int (nI e)), some (.int (nI c)), some (.int (nI 1)), some (.int (nI i)), some (.long (nL ((mend D (mfrz wdr D fl c (dT D 1) 0 (S, T, z)).1 151) - (S 151)))), none] [.long (nL (cM1 D (mend D (mfrz wdr D fl c (dT D 1) 0 (S, T, z)).1))), .long (nL (((mend D (mfrz wdr D fl c (dT D 1) 0 (S, T, z)).1 151) - (S 151)) * 32768))] σ3 Q
    have Sm3 := Sm2.tr (Smx3.to (B := fF2) (fun a q => by unfold fF1 at q; unfold fF2; omega))
    have Ms3 := Ms.sm Sm3
    have en3 : fnx σ3 = fnx σ := Sm3.n
    have Gs3 := Ms3.ground (k := 2) (by decide)
    have Ys3 := Ms3.yard hY
    have Gr3 := Gr.sm Sm3 (fun i hi => by unfold fF2; omega)
    have Yr3 := Yr.sm Sm3 hkA
    have Yt3 := Yt.sm Sm3 hkA
    have hW3 := hW
    have Wr3 := Wr2.sm Smx3 (by unfold fF1; omega) (by unfold fF1; omega)
    refine e_ladd dX2_sumOf_183 ?_
    refine e_long (nL (((mend D (mfrz wdr D fl c (dT D 1) 0 (S, T, z)).1 151) - (S 151)) * 32768 + (cM1 D (mend D (mfrz wdr D fl c (dT D 1) 0 (S, T, z)).1)))) (nL_add (((mend D (mfrz wdr D fl c (dT D 1) 0 (S, T, z)).1 151) - (S 151)) * 32768) (cM1 D (mend D (mfrz wdr D fl c (dT D 1) 0 (S, T, z)).1))) ?_
    refine e_long (nL (lf2 D (S 151) (mfrz wdr D fl c (dT D 1) 0 (S, T, z)).1)) rfl ?_
    refine e_lstore (L1 := [some (.ref 34), some (.ref k), some (.int (nI fl)), some (.int (nI 2)), some (.ref 46), some (.ref 53), some (.long (nL a)), none, some (.int (nI e)), some (.int (nI c)), some (.int (nI 1)), some (.int (nI i)), some (.long (nL (lf2 D (S 151) (mfrz wdr D fl c (dT D 1) 0 (S, T, z)).1))), none]) dX2_sumOf_184 (by decide) rfl ?_
    refine e_lload dX2_sumOf_186 rfl ?_
    refine e_iload dX2_sumOf_188 rfl ?_
    refine e_i2l dX2_sumOf_190 ?_
    refine e_long (nL e) (nL_i (by omega)) ?_
    refine e_aload dX2_sumOf_191 rfl ?_
    refine e_callV (k := 53) [] dX2_sumOf_193 cc_X7_weight lk_RX2_90 im_X7_weight se_X7_weight (by decide) (Ms3.s 53 rfl) (Ms3.n (by decide)) rfl (Nat.le_of_ble_eq_true rfl) (Nat.le_of_ble_eq_true rfl) ?_
    refine t_X7_weight Ms3 hw Wr3 (fK_i ?_)
    show fEv g _ mX2_sumOf 196 [some (.ref 34), some (.ref k), some (.int (nI fl)), some (.int (nI 2)), some (.ref 46), some (.ref 53), some (.long (nL a)), none, some (.int (nI e)), some (.int (nI c)), some (.int (nI 1)), some (.int (nI i)), some (.long (nL (lf2 D (S 151) (mfrz wdr D fl c (dT D 1) 0 (S, T, z)).1))), none] [.long (nL (wwt (mfrz wdr D fl c (dT D 1) 0 (S, T, z)).2.2 6 0)), .long (nL e), .long (nL a)] σ3 Q
    refine e_lmul dX2_sumOf_196 ?_
    refine e_long (nL (e * (wwt (mfrz wdr D fl c (dT D 1) 0 (S, T, z)).2.2 6 0))) (nL_mul e (wwt (mfrz wdr D fl c (dT D 1) 0 (S, T, z)).2.2 6 0)) ?_
    refine e_lload dX2_sumOf_197 rfl ?_
    refine e_lmul dX2_sumOf_199 ?_
    refine e_long (nL ((e * (wwt (mfrz wdr D fl c (dT D 1) 0 (S, T, z)).2.2 6 0)) * (lf2 D (S 151) (mfrz wdr D fl c (dT D 1) 0 (S, T, z)).1))) (nL_mul (e * (wwt (mfrz wdr D fl c (dT D 1) 0 (S, T, z)).2.2 6 0)) (lf2 D (S 151) (mfrz wdr D fl c (dT D 1) 0 (S, T, z)).1)) ?_
    refine e_ladd dX2_sumOf_200 ?_
    refine e_long (nL (a + ((e * (wwt (mfrz wdr D fl c (dT D 1) 0 (S, T, z)).2.2 6 0)) * (lf2 D (S 151) (mfrz wdr D fl c (dT D 1) 0 (S, T, z)).1)))) (nL_add a ((e * (wwt (mfrz wdr D fl c (dT D 1) 0 (S, T, z)).2.2 6 0)) * (lf2 D (S 151) (mfrz wdr D fl c (dT D 1) 0 (S, T, z)).1))) ?_
    refine e_lstore (L1 := [some (.ref 34), some (.ref k), some (.int (nI fl)), some (.int (nI 2)), some (.ref 46), some (.ref 53), some (.long (nL (a + ((e * (wwt (mfrz wdr D fl c (dT D 1) 0 (S, T, z)).2.2 6 0)) * (lf2 D (S 151) (mfrz wdr D fl c (dT D 1) 0 (S, T, z)).1))))), none, some (.int (nI e)), some (.int (nI c)), some (.int (nI 1)), some (.int (nI i)), some (.long (nL (lf2 D (S 151) (mfrz wdr D fl c (dT D 1) 0 (S, T, z)).1))), none]) dX2_sumOf_201 (by decide) rfl ?_
    refine e_aload dX2_sumOf_203 rfl ?_
    refine e_callV (k := 53) [] dX2_sumOf_205 cc_X7_advance lk_RX2_94 im_X7_advance se_X7_advance (by decide) (Ms3.s 53 rfl) (Ms3.n (by decide)) rfl (Nat.le_of_ble_eq_true rfl) (Nat.le_of_ble_eq_true rfl) ?_
    refine t_X7_advance Ms3 hw Wr3 (fun σ4 Smx4 Wr4 => ?_)
    show fEv g _ mX2_sumOf 208 [some (.ref 34), some (.ref k), some (.int (nI fl)), some (.int (nI 2)), some (.ref 46), some (.ref 53), some (.long (nL (a + ((e * (wwt (mfrz wdr D fl c (dT D 1) 0 (S, T, z)).2.2 6 0)) * (lf2 D (S 151) (mfrz wdr D fl c (dT D 1) 0 (S, T, z)).1))))), none, some (.int (nI e)), some (.int (nI c)), some (.int (nI 1)), some (.int (nI i)), some (.long (nL (lf2 D (S 151) (mfrz wdr D fl c (dT D 1) 0 (S, T, z)).1))), none] [.int (nI (bn (wadv (mfrz wdr D fl c (dT D 1) 0 (S, T, z)).2.2).2))] σ4 Q
    have Sm4 := Sm3.tr (Smx4.to (B := fF2) (fun a q => by unfold fWA at q; unfold fF2; omega))
    have Ms4 := Ms.sm Sm4
    have en4 : fnx σ4 = fnx σ := Sm4.n
    have Gs4 := Ms4.ground (k := 2) (by decide)
    have Ys4 := Ms4.yard hY
    have Gr4 := Gr.sm Sm4 (fun i hi => by unfold fF2; omega)
    have Yr4 := Yr.sm Sm4 hkA
    have Yt4 := Yt.sm Sm4 hkA
    have hW4 := hW
    have Wy4 : fWx1 σ4 := Wy3.elim (fun z q => ⟨z, q.sm Smx4 (by unfold fWA; omega) (by unfold fWA; omega)⟩)
    refine e_istore (L1 := [some (.ref 34), some (.ref k), some (.int (nI fl)), some (.int (nI 2)), some (.ref 46), some (.ref 53), some (.long (nL (a + ((e * (wwt (mfrz wdr D fl c (dT D 1) 0 (S, T, z)).2.2 6 0)) * (lf2 D (S 151) (mfrz wdr D fl c (dT D 1) 0 (S, T, z)).1))))), none, some (.int (nI e)), some (.int (nI c)), some (.int (nI (bn (wadv (mfrz wdr D fl c (dT D 1) 0 (S, T, z)).2.2).2))), some (.int (nI i)), some (.long (nL (lf2 D (S 151) (mfrz wdr D fl c (dT D 1) 0 (S, T, z)).1))), none]) dX2_sumOf_208 (by decide) rfl ?_
    refine e_iinc (v := nI (i + 1)) (L1 := [some (.ref 34), some (.ref k), some (.int (nI fl)), some (.int (nI 2)), some (.ref 46), some (.ref 53), some (.long (nL (a + ((e * (wwt (mfrz wdr D fl c (dT D 1) 0 (S, T, z)).2.2 6 0)) * (lf2 D (S 151) (mfrz wdr D fl c (dT D 1) 0 (S, T, z)).1))))), none, some (.int (nI e)), some (.int (nI c)), some (.int (nI (bn (wadv (mfrz wdr D fl c (dT D 1) 0 (S, T, z)).2.2).2))), some (.int (nI (i + 1))), some (.long (nL (lf2 D (S 151) (mfrz wdr D fl c (dT D 1) 0 (S, T, z)).1))), none]) dX2_sumOf_210 rfl (show nI i + Int32.ofInt 1 = nI (i + 1) from nI_add i 1) (by decide) rfl ?_
    refine e_goto 120 dX2_sumOf_213 (by decide) ?_
    cases hb : (wadv (mfrz wdr D fl c (dT D 1) 0 (S, T, z)).2.2).2
    · rw [hb] at h
      rw [show wwt (mfrz wdr D fl c (dT D 1) 0 (S, T, z)).2.2 6 0 * (lf2 D (S 151)) (mfrz wdr D fl c (dT D 1) 0 (S, T, z)).1 + (if false = true then mlp D (lf2 D (S 151)) fl c S n (wadv (mfrz wdr D fl c (dT D 1) 0 (S, T, z)).2.2).1 else 0) = wwt (mfrz wdr D fl c (dT D 1) 0 (S, T, z)).2.2 6 0 * (lf2 D (S 151)) (mfrz wdr D fl c (dT D 1) 0 (S, T, z)).1 from rfl, ← Nat.mul_assoc] at h
      exact l_X2_in20 (by omega) (h σ4 _ _ _ _ Sm4 ⟨Wy4, _, Wr4⟩)
    · rw [hb] at h
      rw [show (if true = true then mlp D (lf2 D (S 151)) fl c S n (wadv (mfrz wdr D fl c (dT D 1) 0 (S, T, z)).2.2).1 else 0) = mlp D (lf2 D (S 151)) fl c S n (wadv (mfrz wdr D fl c (dT D 1) 0 (S, T, z)).2.2).1 from rfl, Nat.mul_add, ← Nat.add_assoc, ← Nat.mul_assoc] at h
      exact ih (i + 1) _ _ _ _ σ4 (by omega) Ms4 Gr4 Yr4 Yt4 Wr4 Wy4 (fun σ' o10 o11 p12 p13 Sm' Wx' => h σ' o10 o11 p12 p13 (Sm4.tr Sm') Wx')
set_option maxRecDepth 20000 in
theorem l_X2_out2 {g : fGP} {d : Nat} {Q : fRes → fAH → Prop} {k : Nat} {D : fSD} {S : Nat → Nat} {T : Nat → Int32} {m : Nat} {sd : Int32} {fl : Nat} (hY : k ∈ [15, 22, 37, 46, 59, 69, 79]) (hkA : ∀ i, i < 7 → ¬ fF2 (k + i)) (hD : fWD D) (hW : fWS D S) (hC : fWC D S) (hn : S 155 < 30) (hf : ∀ j, dT D 1 ≤ j → fl / 2 ^ j % 2 = 0) (hf2 : fl < 4096) (h6 : mon fl 12 0 ≤ 6) : ∀ (n c e a : Nat) (o10 o11 o12 o13 : Option Value) (σ : fAH), c + n = 10 → fMs g σ → fGr σ 2 D → fYr σ k D S m sd → fYt σ k S T → fWx2 σ → e ≤ 8 * c → (∀ σ', fSm fF2 σ σ' → fWx2 σ' → Q (.inl (some (.long (nL (msm D S fl (fun c => mtr D (lf2 D (S 151)) fl c (dT D 1) 0 0 S) n c e a))))) σ') → fEv g (d + 7) mX2_sumOf 50 [some (.ref 34), some (.ref k), some (.int (nI fl)), some (.int (nI 2)), some (.ref 46), some (.ref 53), some (.long (nL a)), none, some (.int (nI e)), some (.int (nI c)), o10, o11, o12, o13] [] σ Q := by
  intro n
  induction n with
  | zero =>
    intro c e a o10 o11 o12 o13 σ hin Ms Gr Yr Yt Wx he h
    refine e_iload dX2_sumOf_50 rfl ?_
    refine e_bipush (nI 10) dX2_sumOf_52 (by decide) ?_
    refine e_icmp_ge 225 dX2_sumOf_54 (by decide) (fun _ => ?_) (fun q => absurd ((nI_le' (by omega) (by omega)).mpr (by omega)) q)
    refine e_lload dX2_sumOf_225 rfl ?_
    exact e_lreturn dX2_sumOf_227 rfl (h σ fSm.rfl' Wx)
  | succ n ih =>
    intro c e a o10 o11 o12 o13 σ hin Ms Gr Yr Yt Wx he h
    have yl := fyl hY
    have Gs := Ms.ground (k := 2) (by decide)
    have Ys := Ms.yard hY
    have ky := Ys.1.1
    have kn := Ys.2.1.1
    obtain ⟨t0, t1, t2, t3, t4, t5, t6⟩ := id hD.1
    have np := hW.n hD
    have hZ : 46 ∈ [15, 22, 37, 46, 59, 69, 79] := by decide
    have hw : 53 ∈ [44, 53] := by decide
    have kz : k ≠ 46 := fun e9 => hkA 0 (by decide) (by rw [e9]; unfold fF2; decide)
    have hC9 := hC
    have n5 := hW.2.2.2.2
    have pl := mP_le hD (S 155) c
    obtain ⟨Wy, z, Wr⟩ := Wx
    refine e_iload dX2_sumOf_50 rfl ?_
    refine e_bipush (nI 10) dX2_sumOf_52 (by decide) ?_
    refine e_icmp_ge 225 dX2_sumOf_54 (by decide) (fun q => absurd ((nI_le' (by omega) (by omega)).mp q) (by omega)) (fun _ => ?_)
    refine e_iload dX2_sumOf_57 rfl ?_
    refine e_aload_n dX2_sumOf_59 rfl rfl ?_
    refine e_getR (q := 2) dX2_sumOf_60 fl_RX2_27 (Ms.s 34 rfl) (Ms.n (by decide)) rfl (Ms.r 34 0 rfl) (by unfold fscr; omega) ?_
    refine e_getR (q := 7) dX2_sumOf_63 fl_RX2_62 (Ms.s 2 rfl) (Ms.n (by decide)) rfl (Ms.r 2 4 rfl) (by unfold fscr; omega) ?_
    refine e_aload_n dX2_sumOf_66 rfl rfl ?_
    refine e_getI dX2_sumOf_67 fl_RX2_35 ky (show k < fnx σ by omega) rfl ?_
    refine e_int (nI (S 155)) Yr.1.2.2.1 ?_
    refine e_bipush (nI 10) dX2_sumOf_70 (by decide) ?_
    refine e_imul dX2_sumOf_72 ?_
    refine e_int (nI ((S 155) * 10)) (pk_mul (S 155) 10) ?_
    refine e_iload dX2_sumOf_73 rfl ?_
    refine e_iadd dX2_sumOf_75 ?_
    refine e_int (nI ((S 155) * 10 + c)) (nI_add ((S 155) * 10) c) ?_
    refine e_iaload ((S 155) * 10 + c) dX2_sumOf_76 (Ms.s 7 rfl) (Ms.n (by decide)) rfl (by omega) (by decide) ?_
    refine e_int (nI (mP D (S 155) c)) (Gr.P (by omega) (by omega)) ?_
    refine e_iadd dX2_sumOf_77 ?_
    refine e_int (nI (e + mP D (S 155) c)) (nI_add e (mP D (S 155) c)) ?_
    refine e_istore (L1 := [some (.ref 34), some (.ref k), some (.int (nI fl)), some (.int (nI 2)), some (.ref 46), some (.ref 53), some (.long (nL a)), none, some (.int (nI (e + mP D (S 155) c))), some (.int (nI c)), o10, o11, o12, o13]) dX2_sumOf_78 (by decide) rfl ?_
    refine e_iload dX2_sumOf_80 rfl ?_
    refine e_if_eq 219 dX2_sumOf_82 (by decide) (fun c82 => ?_) (fun c82 => ?_)
    · rw [nI_z (by omega)] at c82
      refine e_iinc (v := nI (c + 1)) (L1 := [some (.ref 34), some (.ref k), some (.int (nI fl)), some (.int (nI 2)), some (.ref 46), some (.ref 53), some (.long (nL a)), none, some (.int (nI (e + mP D (S 155) c))), some (.int (nI (c + 1))), o10, o11, o12, o13]) dX2_sumOf_219 rfl (show nI c + Int32.ofInt 1 = nI (c + 1) from nI_add c 1) (by decide) rfl ?_
      refine e_goto 50 dX2_sumOf_222 (by decide) ?_
      have hm : msm D S fl (fun c => mtr D (lf2 D (S 151)) fl c (dT D 1) 0 0 S) (n + 1) c e a = msm D S fl (fun c => mtr D (lf2 D (S 151)) fl c (dT D 1) 0 0 S) n (c + 1) (e + mP D (S 155) c) a := by rw [msm, if_pos (by first | exact Or.inl (by omega) | exact Or.inr ⟨by omega, c103⟩)]
      rw [hm] at h
      exact ih (c + 1) _ a _ _ _ _ σ (by omega) Ms Gr Yr Yt ⟨Wy, _, Wr⟩ (by omega) h
    · rw [nI_z (by omega)] at c82
      refine e_iload dX2_sumOf_85 rfl ?_
      refine e_bipush (nI 9) dX2_sumOf_87 (by decide) ?_
      refine e_icmp_ge 109 dX2_sumOf_89 (by decide) (fun c89 => ?_) (fun c89 => ?_)
      · rw [nI_le' (by omega) (by omega)] at c89
        refine e_aload dX2_sumOf_109 rfl ?_
        refine e_callV (k := 53) [] dX2_sumOf_111 cc_X7_begin lk_RX2_70 im_X7_begin se_X7_begin (by decide) (Ms.s 53 rfl) (Ms.n (by decide)) rfl (Nat.le_of_ble_eq_true rfl) (Nat.le_of_ble_eq_true rfl) ?_
        refine t_X7_begin Ms hw Wr (fun σ1 Smx1 Wr1 => ?_)
        show fEv g _ mX2_sumOf 114 [some (.ref 34), some (.ref k), some (.int (nI fl)), some (.int (nI 2)), some (.ref 46), some (.ref 53), some (.long (nL a)), none, some (.int (nI (e + mP D (S 155) c))), some (.int (nI c)), o10, o11, o12, o13] [] σ1 Q
        have Sm1 := (Smx1.to (B := fF2) (fun a q => by unfold fWA at q; unfold fF2; omega))
        have Ms1 := Ms.sm Sm1
        have en1 : fnx σ1 = fnx σ := Sm1.n
        have Gs1 := Ms1.ground (k := 2) (by decide)
        have Ys1 := Ms1.yard hY
        have Gr1 := Gr.sm Sm1 (fun i hi => by unfold fF2; omega)
        have Yr1 := Yr.sm Sm1 hkA
        have Yt1 := Yt.sm Sm1 hkA
        have hW1 := hW
        have Wy1 : fWx1 σ1 := Wy.elim (fun z q => ⟨z, q.sm Smx1 (by unfold fWA; omega) (by unfold fWA; omega)⟩)
        refine e_iconst (nI 1) dX2_sumOf_114 (by decide) ?_
        refine e_istore (L1 := [some (.ref 34), some (.ref k), some (.int (nI fl)), some (.int (nI 2)), some (.ref 46), some (.ref 53), some (.long (nL a)), none, some (.int (nI (e + mP D (S 155) c))), some (.int (nI c)), some (.int (nI 1)), o11, o12, o13]) dX2_sumOf_115 (by decide) rfl ?_
        refine e_iconst (nI 0) dX2_sumOf_117 (by decide) ?_
        refine e_istore (L1 := [some (.ref 34), some (.ref k), some (.int (nI fl)), some (.int (nI 2)), some (.ref 46), some (.ref 53), some (.long (nL a)), none, some (.int (nI (e + mP D (S 155) c))), some (.int (nI c)), some (.int (nI 1)), some (.int (nI 0)), o12, o13]) dX2_sumOf_118 (by decide) rfl ?_
        have hne : ¬ (e + mP D (S 155) c = 0 ∨ (c < 9 ∧ mak D S fl c (c + 1) (dT D 1) 0 = true)) := fun q => by first | omega | (rcases q with q | q; omega; exact absurd (c103.symm.trans q.2) Bool.false_ne_true)
        have hm : msm D S fl (fun c => mtr D (lf2 D (S 151)) fl c (dT D 1) 0 0 S) (n + 1) c e a = msm D S fl (fun c => mtr D (lf2 D (S 151)) fl c (dT D 1) 0 0 S) n (c + 1) 0 (a + (e + mP D (S 155) c) * mtr D (lf2 D (S 151)) fl c (dT D 1) 0 0 S) := by rw [msm, if_neg hne]
        rw [hm] at h
        refine l_X2_in2 hY hkA hD hW hC hn hf2 (by omega) (by omega) 4096 0 a _ _ _ σ1 (by omega) Ms1 Gr1 Yr1 Yt1 Wr1 Wy1 (fun σ9 q10 q11 q12 q13 Sm9 Wx9 => ?_)
        rw [mlp_tr D (lf2 D (S 151)) fl c S t1 (by rw [mon_e hD hf]; exact h6)]
        refine e_iconst (nI 0) dX2_sumOf_216 (by decide) ?_
        refine e_istore (L1 := [some (.ref 34), some (.ref k), some (.int (nI fl)), some (.int (nI 2)), some (.ref 46), some (.ref 53), some (.long (nL (a + (e + mP D (S 155) c) * mtr D (lf2 D (S 151)) fl c (dT D 1) 0 0 S))), none, some (.int (nI 0)), some (.int (nI c)), q10, q11, q12, q13]) dX2_sumOf_217 (by decide) rfl ?_
        refine e_iinc (v := nI (c + 1)) (L1 := [some (.ref 34), some (.ref k), some (.int (nI fl)), some (.int (nI 2)), some (.ref 46), some (.ref 53), some (.long (nL (a + (e + mP D (S 155) c) * mtr D (lf2 D (S 151)) fl c (dT D 1) 0 0 S))), none, some (.int (nI 0)), some (.int (nI (c + 1))), q10, q11, q12, q13]) dX2_sumOf_219 rfl (show nI c + Int32.ofInt 1 = nI (c + 1) from nI_add c 1) (by decide) rfl ?_
        refine e_goto 50 dX2_sumOf_222 (by decide) ?_
        exact ih (c + 1) 0 _ _ _ _ _ σ9 (by omega) (Ms1.sm Sm9) (Gr1.sm Sm9 (fun i hi => by unfold fF2; omega)) (Yr1.sm Sm9 hkA) (Yt1.sm Sm9 hkA) Wx9 (by omega) (fun σ' Sm' Wx' => h σ' ((Sm1.tr Sm9).tr Sm') Wx')
      · rw [nI_le' (by omega) (by omega)] at c89
        refine e_aload_n dX2_sumOf_92 rfl rfl ?_
        refine e_iload_n dX2_sumOf_93 rfl rfl ?_
        refine e_iload dX2_sumOf_94 rfl ?_
        refine e_iload dX2_sumOf_96 rfl ?_
        refine e_iconst (nI 1) dX2_sumOf_98 (by decide) ?_
        refine e_iadd dX2_sumOf_99 ?_
        refine e_int (nI (c + 1)) (nI_add c 1) ?_
        refine e_callV (k := k) [.int (nI fl), .int (nI c), .int (nI (c + 1))] dX2_sumOf_100 cc_X8_actAlike lk_RX2_66 im_X8_actAlike se_X8_actAlike (by decide) ky (show k < fnx σ by omega) rfl (Nat.le_of_ble_eq_true rfl) (Nat.le_of_ble_eq_true rfl) ?_
        refine t_X8_actAlike Gs Gr hD Ys Yr hW (by omega) (by omega) (by omega) (fK_i ?_)
        show fEv g _ mX2_sumOf 103 [some (.ref 34), some (.ref k), some (.int (nI fl)), some (.int (nI 2)), some (.ref 46), some (.ref 53), some (.long (nL a)), none, some (.int (nI (e + mP D (S 155) c))), some (.int (nI c)), o10, o11, o12, o13] [.int (nI (bn (mak D S fl c (c + 1) (dT D 1) 0)))] σ Q
        refine e_if_eq 109 dX2_sumOf_103 (by decide) (fun c103 => ?_) (fun c103 => ?_)
        · have c103 := bn0 c103
          refine e_aload dX2_sumOf_109 rfl ?_
          refine e_callV (k := 53) [] dX2_sumOf_111 cc_X7_begin lk_RX2_70 im_X7_begin se_X7_begin (by decide) (Ms.s 53 rfl) (Ms.n (by decide)) rfl (Nat.le_of_ble_eq_true rfl) (Nat.le_of_ble_eq_true rfl) ?_
          refine t_X7_begin Ms hw Wr (fun σ2 Smx2 Wr2 => ?_)
          show fEv g _ mX2_sumOf 114 [some (.ref 34), some (.ref k), some (.int (nI fl)), some (.int (nI 2)), some (.ref 46), some (.ref 53), some (.long (nL a)), none, some (.int (nI (e + mP D (S 155) c))), some (.int (nI c)), o10, o11, o12, o13] [] σ2 Q
          have Sm2 := (Smx2.to (B := fF2) (fun a q => by unfold fWA at q; unfold fF2; omega))
          have Ms2 := Ms.sm Sm2
          have en2 : fnx σ2 = fnx σ := Sm2.n
          have Gs2 := Ms2.ground (k := 2) (by decide)
          have Ys2 := Ms2.yard hY
          have Gr2 := Gr.sm Sm2 (fun i hi => by unfold fF2; omega)
          have Yr2 := Yr.sm Sm2 hkA
          have Yt2 := Yt.sm Sm2 hkA
          have hW2 := hW
          have Wy2 : fWx1 σ2 := Wy.elim (fun z q => ⟨z, q.sm Smx2 (by unfold fWA; omega) (by unfold fWA; omega)⟩)
          refine e_iconst (nI 1) dX2_sumOf_114 (by decide) ?_
          refine e_istore (L1 := [some (.ref 34), some (.ref k), some (.int (nI fl)), some (.int (nI 2)), some (.ref 46), some (.ref 53), some (.long (nL a)), none, some (.int (nI (e + mP D (S 155) c))), some (.int (nI c)), some (.int (nI 1)), o11, o12, o13]) dX2_sumOf_115 (by decide) rfl ?_
          refine e_iconst (nI 0) dX2_sumOf_117 (by decide) ?_
          refine e_istore (L1 := [some (.ref 34), some (.ref k), some (.int (nI fl)), some (.int (nI 2)), some (.ref 46), some (.ref 53), some (.long (nL a)), none, some (.int (nI (e + mP D (S 155) c))), some (.int (nI c)), some (.int (nI 1)), some (.int (nI 0)), o12, o13]) dX2_sumOf_118 (by decide) rfl ?_
          have hne : ¬ (e + mP D (S 155) c = 0 ∨ (c < 9 ∧ mak D S fl c (c + 1) (dT D 1) 0 = true)) := fun q => by first | omega | (rcases q with q | q; omega; exact absurd (c103.symm.trans q.2) Bool.false_ne_true)
          have hm : msm D S fl (fun c => mtr D (lf2 D (S 151)) fl c (dT D 1) 0 0 S) (n + 1) c e a = msm D S fl (fun c => mtr D (lf2 D (S 151)) fl c (dT D 1) 0 0 S) n (c + 1) 0 (a + (e + mP D (S 155) c) * mtr D (lf2 D (S 151)) fl c (dT D 1) 0 0 S) := by rw [msm, if_neg hne]
          rw [hm] at h
          refine l_X2_in2 hY hkA hD hW hC hn hf2 (by omega) (by omega) 4096 0 a _ _ _ σ2 (by omega) Ms2 Gr2 Yr2 Yt2 Wr2 Wy2 (fun σ9 q10 q11 q12 q13 Sm9 Wx9 => ?_)
          rw [mlp_tr D (lf2 D (S 151)) fl c S t1 (by rw [mon_e hD hf]; exact h6)]
          refine e_iconst (nI 0) dX2_sumOf_216 (by decide) ?_
          refine e_istore (L1 := [some (.ref 34), some (.ref k), some (.int (nI fl)), some (.int (nI 2)), some (.ref 46), some (.ref 53), some (.long (nL (a + (e + mP D (S 155) c) * mtr D (lf2 D (S 151)) fl c (dT D 1) 0 0 S))), none, some (.int (nI 0)), some (.int (nI c)), q10, q11, q12, q13]) dX2_sumOf_217 (by decide) rfl ?_
          refine e_iinc (v := nI (c + 1)) (L1 := [some (.ref 34), some (.ref k), some (.int (nI fl)), some (.int (nI 2)), some (.ref 46), some (.ref 53), some (.long (nL (a + (e + mP D (S 155) c) * mtr D (lf2 D (S 151)) fl c (dT D 1) 0 0 S))), none, some (.int (nI 0)), some (.int (nI (c + 1))), q10, q11, q12, q13]) dX2_sumOf_219 rfl (show nI c + Int32.ofInt 1 = nI (c + 1) from nI_add c 1) (by decide) rfl ?_
          refine e_goto 50 dX2_sumOf_222 (by decide) ?_
          exact ih (c + 1) 0 _ _ _ _ _ σ9 (by omega) (Ms2.sm Sm9) (Gr2.sm Sm9 (fun i hi => by unfold fF2; omega)) (Yr2.sm Sm9 hkA) (Yt2.sm Sm9 hkA) Wx9 (by omega) (fun σ' Sm' Wx' => h σ' ((Sm2.tr Sm9).tr Sm') Wx')
        · have c103 := bn1 c103
          refine e_goto 219 dX2_sumOf_106 (by decide) ?_
          refine e_iinc (v := nI (c + 1)) (L1 := [some (.ref 34), some (.ref k), some (.int (nI fl)), some (.int (nI 2)), some (.ref 46), some (.ref 53), some (.long (nL a)), none, some (.int (nI (e + mP D (S 155) c))), some (.int (nI (c + 1))), o10, o11, o12, o13]) dX2_sumOf_219 rfl (show nI c + Int32.ofInt 1 = nI (c + 1) from nI_add c 1) (by decide) rfl ?_
          refine e_goto 50 dX2_sumOf_222 (by decide) ?_
          have hm : msm D S fl (fun c => mtr D (lf2 D (S 151)) fl c (dT D 1) 0 0 S) (n + 1) c e a = msm D S fl (fun c => mtr D (lf2 D (S 151)) fl c (dT D 1) 0 0 S) n (c + 1) (e + mP D (S 155) c) a := by rw [msm, if_pos (by first | exact Or.inl (by omega) | exact Or.inr ⟨by omega, c103⟩)]
          rw [hm] at h
          exact ih (c + 1) _ a _ _ _ _ σ (by omega) Ms Gr Yr Yt ⟨Wy, _, Wr⟩ (by omega) h
set_option maxRecDepth 20000 in
theorem t_X2_sumOf2 {g : fGP} {d : Nat} {σ : fAH} {Q : fRes → fAH → Prop} {k : Nat} {D : fSD} {S : Nat → Nat} {T : Nat → Int32} {m : Nat} {sd : Int32} {fl : Nat} (Ms : fMs g σ) (hY : k ∈ [15, 22, 37, 46, 59, 69, 79]) (hkA : ∀ i, i < 7 → ¬ fF2 (k + i)) (Gr : fGr σ 2 D) (hD : fWD D) (Yr : fYr σ k D S m sd) (Yt : fYt σ k S T) (hW : fWS D S) (hC : fWC D S) (hn : S 155 < 30) (hf : ∀ j, dT D 1 ≤ j → fl / 2 ^ j % 2 = 0) (hf2 : fl < 4096) (h6 : mon fl 12 0 ≤ 6) (Wx : fWx2 σ) (h : ∀ σ', fSm fF2 σ σ' → fWx2 σ' → Q (.inl (some (.long (nL (cSum D (lf2 D (S 151)) S fl))))) σ') : fEv g (d + 7) mX2_sumOf 0 (fent [.ref 34, .ref k, .int (nI fl), .int (nI 2)] 14) [] σ Q := by
  have yl := fyl hY
  have Gs := Ms.ground (k := 2) (by decide)
  have Ys := Ms.yard hY
  have ky := Ys.1.1
  have kn := Ys.2.1.1
  obtain ⟨t0, t1, t2, t3, t4, t5, t6⟩ := id hD.1
  have np := hW.n hD
  show fEv g (d + 7) mX2_sumOf 0 [some (.ref 34), some (.ref k), some (.int (nI fl)), some (.int (nI 2)), none, none, none, none, none, none, none, none, none, none] [] σ Q
  refine e_iload_n dX2_sumOf_0 rfl rfl ?_
  refine e_iconst (nI 1) dX2_sumOf_1 (by decide) ?_
  refine e_icmp_lt 19 dX2_sumOf_2 (by decide) (fun c => absurd c (by decide)) (fun _ => ?_)
  refine e_iload_n dX2_sumOf_5 rfl rfl ?_
  refine e_iconst (nI 2) dX2_sumOf_6 (by decide) ?_
  refine e_icmp_gt 19 dX2_sumOf_7 (by decide) (fun c => absurd c (by decide)) (fun _ => ?_)
  refine e_aload_n dX2_sumOf_10 rfl rfl ?_
  refine e_getI dX2_sumOf_11 fl_RX2_35 ky (show k < fnx σ by omega) rfl ?_
  refine e_int (nI (S 155)) Yr.1.2.2.1 ?_
  refine e_bipush (nI 30) dX2_sumOf_14 (by decide) ?_
  refine e_icmp_lt 21 dX2_sumOf_16 (by decide) (fun _ => ?_) (fun q => absurd ((nI_lt' (by omega) (by omega)).mpr (by omega)) q)
  refine e_aload_n dX2_sumOf_21 rfl rfl ?_
  refine e_getR (q := 35) dX2_sumOf_22 fl_RX2_13 (Ms.s 34 rfl) (Ms.n (by decide)) rfl (Ms.r 34 1 rfl) (by unfold fscr; omega) ?_
  refine e_iload_n dX2_sumOf_25 rfl rfl ?_
  refine e_iconst (nI 1) dX2_sumOf_26 (by decide) ?_
  refine e_isub dX2_sumOf_27 ?_
  refine e_int (nI 1) (by decide) ?_
  refine e_aaload (q := 46) 1 dX2_sumOf_28 (Ms.s 35 rfl) (by decide) (Ms.n (by decide)) rfl (by omega) (by decide) (Ms.r 35 1 rfl) (by unfold fscr; omega) ?_
  refine e_astore (L1 := [some (.ref 34), some (.ref k), some (.int (nI fl)), some (.int (nI 2)), some (.ref 46), none, none, none, none, none, none, none, none, none]) dX2_sumOf_29 (by decide) rfl ?_
  refine e_aload_n dX2_sumOf_31 rfl rfl ?_
  refine e_getR (q := 36) dX2_sumOf_32 fl_RX2_19 (Ms.s 34 rfl) (Ms.n (by decide)) rfl (Ms.r 34 2 rfl) (by unfold fscr; omega) ?_
  refine e_iload_n dX2_sumOf_35 rfl rfl ?_
  refine e_iconst (nI 1) dX2_sumOf_36 (by decide) ?_
  refine e_isub dX2_sumOf_37 ?_
  refine e_int (nI 1) (by decide) ?_
  refine e_aaload (q := 53) 1 dX2_sumOf_38 (Ms.s 36 rfl) (by decide) (Ms.n (by decide)) rfl (by omega) (by decide) (Ms.r 36 1 rfl) (by unfold fscr; omega) ?_
  refine e_astore (L1 := [some (.ref 34), some (.ref k), some (.int (nI fl)), some (.int (nI 2)), some (.ref 46), some (.ref 53), none, none, none, none, none, none, none, none]) dX2_sumOf_39 (by decide) rfl ?_
  refine e_lconst 0 dX2_sumOf_41 (by decide) ?_
  refine e_long (nL 0) rfl ?_
  refine e_lstore (L1 := [some (.ref 34), some (.ref k), some (.int (nI fl)), some (.int (nI 2)), some (.ref 46), some (.ref 53), some (.long (nL 0)), none, none, none, none, none, none, none]) dX2_sumOf_42 (by decide) rfl ?_
  refine e_iconst (nI 0) dX2_sumOf_44 (by decide) ?_
  refine e_istore (L1 := [some (.ref 34), some (.ref k), some (.int (nI fl)), some (.int (nI 2)), some (.ref 46), some (.ref 53), some (.long (nL 0)), none, some (.int (nI 0)), none, none, none, none, none]) dX2_sumOf_45 (by decide) rfl ?_
  refine e_iconst (nI 0) dX2_sumOf_47 (by decide) ?_
  refine e_istore (L1 := [some (.ref 34), some (.ref k), some (.int (nI fl)), some (.int (nI 2)), some (.ref 46), some (.ref 53), some (.long (nL 0)), none, some (.int (nI 0)), some (.int (nI 0)), none, none, none, none]) dX2_sumOf_48 (by decide) rfl ?_
  exact l_X2_out2 hY hkA hD hW hC hn hf hf2 h6 10 0 0 0 _ _ _ _ σ (by omega) Ms Gr Yr Yt Wx (by omega) (fun σ' Sm' Wx' => by rw [cs_e hD hW hC hn hf h6]; exact h σ' Sm' Wx')
set_option maxRecDepth 20000 in
theorem l_X2_mostOf2 {g : fGP} {d : Nat} {Q : fRes → fAH → Prop} {k : Nat} {D : fSD} {S : Nat → Nat} {T : Nat → Int32} {m : Nat} {sd : Int32} (hY : k ∈ [15, 22, 37, 46, 59, 69, 79]) (hkA : ∀ i, i < 7 → ¬ fF2 (k + i)) (hD : fWD D) (hW : fWS D S) (hC : fWC D S) (hn : S 155 < 30) : ∀ (n i : Nat) (b : Option Nat) (bs : Nat) (o10 o11 : Option Value) (σ : fAH), i + n = 2 ^ mon (m3 (mbits D S)) 12 0 → fMs g σ → fGr σ 2 D → fYr σ k D S m sd → fYt σ k S T → fWx2 σ → (∀ x, b = some x → x ≤ 64 * (512 * (64 * (512 * 891 + 512 * 891)))) → (∀ σ', fSm fF2 σ σ' → fWx2 σ' → fI σ' 34 3 = nI (mfo (cF D S) (cSum D (lf2 D (S 151)) S) n i b bs).2 → Q (.inl (some (.long (ob (mfo (cF D S) (cSum D (lf2 D (S 151)) S) n i b bs).1)))) σ') → fEv g (d + 8) mX2_mostOf 63 [some (.ref 34), some (.ref k), some (.int (nI 2)), some (.int (nI (m3 (mbits D S)))), some (.int (nI (2 ^ mon (m3 (mbits D S)) 12 0))), some (.int (nI bs)), some (.long (ob b)), none, some (.int (nI (sqn (m3 (mbits D S)) i))), some (.int (nI i)), o10, o11] [] σ Q := by
  intro n
  induction n with
  | zero =>
    intro i b bs o10 o11 σ hin Ms Gr Yr Yt Wx hb h
    have yl := fyl hY
    have Gs := Ms.ground (k := 2) (by decide)
    have Ys := Ms.yard hY
    have ky := Ys.1.1
    have kn := Ys.2.1.1
    obtain ⟨t0, t1, t2, t3, t4, t5, t6⟩ := id hD.1
    have np := hW.n hD
    have hC9 := hC
    have ml := m3_at (mbits D S)
    have p8 := p2_8 ml
    have ma := m3_lt (mbits D S)
    refine e_iload dX2_mostOf_63 rfl ?_
    refine e_iload dX2_mostOf_65 rfl ?_
    refine e_icmp_ge 131 dX2_mostOf_67 (by decide) (fun _ => ?_) (fun q => absurd ((nI_le' (by omega) (by omega)).mpr (by omega)) q)
    refine e_aload_n dX2_mostOf_131 rfl rfl ?_
    refine e_iload dX2_mostOf_132 rfl ?_
    refine e_putI dX2_mostOf_134 fl_RX2_23 (Ms.s 34 rfl) (Ms.n (by decide)) rfl rfl ?_
    refine e_lload dX2_mostOf_137 rfl ?_
    exact e_lreturn dX2_mostOf_139 rfl (h _ (fSm_I (by unfold fF2; decide)) ⟨Wx.1.elim (fun z q => ⟨z, q.sm (A := fun a => a = 34) (fSm_I rfl) (by decide) (by decide)⟩), Wx.2.elim (fun z q => ⟨z, q.sm (A := fun a => a = 34) (fSm_I rfl) (by decide) (by decide)⟩)⟩ (by rw [fI_I, if_pos ⟨rfl, rfl⟩]; rfl))
  | succ n ih =>
    intro i b bs o10 o11 σ hin Ms Gr Yr Yt Wx hb h
    have yl := fyl hY
    have Gs := Ms.ground (k := 2) (by decide)
    have Ys := Ms.yard hY
    have ky := Ys.1.1
    have kn := Ys.2.1.1
    obtain ⟨t0, t1, t2, t3, t4, t5, t6⟩ := id hD.1
    have np := hW.n hD
    have hC9 := hC
    have ml := m3_at (mbits D S)
    have p8 := p2_8 ml
    have ma := m3_lt (mbits D S)
    have sl := sqn_le (m3 (mbits D S)) i
    have ce := (cF_e (S := S) hD (w := i) (by omega)).1 (by omega)
    have mo9 := mon_le (b := sqn (m3 (mbits D S)) i) 12 0
    refine e_iload dX2_mostOf_63 rfl ?_
    refine e_iload dX2_mostOf_65 rfl ?_
    refine e_icmp_ge 131 dX2_mostOf_67 (by decide) (fun q => absurd ((nI_le' (by omega) (by omega)).mp q) (by omega)) (fun _ => ?_)
    refine e_iload dX2_mostOf_70 rfl ?_
    refine e_callS [.int (nI (sqn (m3 (mbits D S)) i))] dX2_mostOf_72 cc_J6_bitCount_0f7a4 lk_RX2_46 st_J6_bitCount_0f7a4 in_RJ6 rfl (Nat.le_of_ble_eq_true rfl) (Nat.le_of_ble_eq_true rfl) ?_
    refine t_J6_bitCount (by omega) (fK_i ?_)
    show fEv g _ mX2_mostOf 75 [some (.ref 34), some (.ref k), some (.int (nI 2)), some (.int (nI (m3 (mbits D S)))), some (.int (nI (2 ^ mon (m3 (mbits D S)) 12 0))), some (.int (nI bs)), some (.long (ob b)), none, some (.int (nI (sqn (m3 (mbits D S)) i))), some (.int (nI i)), o10, o11] [.int (nI (mon (sqn (m3 (mbits D S)) i) 12 0))] σ Q
    refine e_aload_n dX2_mostOf_75 rfl rfl ?_
    refine e_getR (q := 2) dX2_mostOf_76 fl_RX2_27 (Ms.s 34 rfl) (Ms.n (by decide)) rfl (Ms.r 34 0 rfl) (by unfold fscr; omega) ?_
    refine e_getI dX2_mostOf_79 fl_RX2_53 (Ms.s 2 rfl) (Ms.n (by decide)) rfl ?_
    refine e_int (nI (dT D 3)) Gr.1.2.2.2.2.1 ?_
    refine e_icmp_gt 96 dX2_mostOf_82 (by decide) (fun c82 => ?_) (fun c82 => ?_)
    · rw [nI_lt' (by omega) (by omega)] at c82
      refine e_ldc2 (-1) dX2_mostOf_96 kc_RX2_51 ?_
      refine e_lstore (L1 := [some (.ref 34), some (.ref k), some (.int (nI 2)), some (.int (nI (m3 (mbits D S)))), some (.int (nI (2 ^ mon (m3 (mbits D S)) 12 0))), some (.int (nI bs)), some (.long (ob b)), none, some (.int (nI (sqn (m3 (mbits D S)) i))), some (.int (nI i)), some (.long ((-1))), none]) dX2_mostOf_99 (by decide) rfl ?_
      refine e_lload dX2_mostOf_101 rfl ?_
      refine e_lload dX2_mostOf_103 rfl ?_
      refine e_lcmp dX2_mostOf_105 ?_
      refine e_if_le 117 dX2_mostOf_106 (by decide) (fun c106 => ?_) (fun c106 => absurd (lc_le.mpr (ob_ge (fun x hx => by have := hb x hx; omega))) c106)
      refine e_iload dX2_mostOf_117 rfl ?_
      refine e_iload_n dX2_mostOf_119 rfl rfl ?_
      refine e_isub dX2_mostOf_120 ?_
      refine e_iload_n dX2_mostOf_121 rfl rfl ?_
      refine e_iand dX2_mostOf_122 ?_
      refine e_int (nI (sqn (m3 (mbits D S)) (i + 1))) (nx_e _ _ (by omega)) ?_
      refine e_istore (L1 := [some (.ref 34), some (.ref k), some (.int (nI 2)), some (.int (nI (m3 (mbits D S)))), some (.int (nI (2 ^ mon (m3 (mbits D S)) 12 0))), some (.int (nI bs)), some (.long (ob b)), none, some (.int (nI (sqn (m3 (mbits D S)) (i + 1)))), some (.int (nI i)), some (.long ((-1))), none]) dX2_mostOf_123 (by decide) rfl ?_
      refine e_iinc (v := nI (i + 1)) (L1 := [some (.ref 34), some (.ref k), some (.int (nI 2)), some (.int (nI (m3 (mbits D S)))), some (.int (nI (2 ^ mon (m3 (mbits D S)) 12 0))), some (.int (nI bs)), some (.long (ob b)), none, some (.int (nI (sqn (m3 (mbits D S)) (i + 1)))), some (.int (nI (i + 1))), some (.long ((-1))), none]) dX2_mostOf_125 rfl (show nI i + Int32.ofInt 1 = nI (i + 1) from nI_add i 1) (by decide) rfl ?_
      refine e_goto 63 dX2_mostOf_128 (by decide) ?_
      rw [mfo_n (cF_n (by omega))] at h
      exact ih (i + 1) b bs _ _ σ (by omega) Ms Gr Yr Yt Wx hb h
    · rw [nI_lt' (by omega) (by omega)] at c82
      have cs9 := cF_s (D := D) (S := S) (i := i) (by omega)
      rw [cs9] at ce
      have me := mset_e hD (by omega) ce.symm
      have mh := mset_hi ce.symm
      have gl := mG_le (lf := (lf2 D (S 151))) (B := (64 * (512 * 891 + 512 * 891))) hD hW hC hn mh.1 me.2.2.1 (fun S9 hR => by have := lf1_le hD hn hR; rw [lf2_e]; show 64 * _ ≤ _; omega)
      have cg := cSum_G (D := D) (lf := (lf2 D (S 151))) (S := S) me.2.2.1
      refine e_aload_n dX2_mostOf_85 rfl rfl ?_
      refine e_aload_n dX2_mostOf_86 rfl rfl ?_
      refine e_iload dX2_mostOf_87 rfl ?_
      refine e_iload_n dX2_mostOf_89 rfl rfl ?_
      refine e_callV (k := 34) [.ref k, .int (nI (sqn (m3 (mbits D S)) i)), .int (nI 2)] dX2_mostOf_90 cc_X2_sumOf lk_RX2_58 im_X2_sumOf se_X2_sumOf (by decide) (Ms.s 34 rfl) (Ms.n (by decide)) rfl (Nat.le_of_ble_eq_true rfl) (Nat.le_of_ble_eq_true rfl) ?_
      refine t_X2_sumOf2 Ms hY hkA Gr hD Yr Yt hW hC9 hn mh.1 (by omega) (by omega) Wx (fun σ1 Smx1 Wx1 => ?_)
      show fEv g _ mX2_mostOf 93 [some (.ref 34), some (.ref k), some (.int (nI 2)), some (.int (nI (m3 (mbits D S)))), some (.int (nI (2 ^ mon (m3 (mbits D S)) 12 0))), some (.int (nI bs)), some (.long (ob b)), none, some (.int (nI (sqn (m3 (mbits D S)) i))), some (.int (nI i)), o10, o11] [.long (nL (cSum D (lf2 D (S 151)) S (sqn (m3 (mbits D S)) i)))] σ1 Q
      have Sm1 := (Smx1.to (B := fF2) (fun a q => by unfold fF2 at q; unfold fF2; omega))
      have Ms1 := Ms.sm Sm1
      have en1 : fnx σ1 = fnx σ := Sm1.n
      have Gs1 := Ms1.ground (k := 2) (by decide)
      have Ys1 := Ms1.yard hY
      have Gr1 := Gr.sm Sm1 (fun i hi => by unfold fF2; omega)
      have Yr1 := Yr.sm Sm1 hkA
      have Yt1 := Yt.sm Sm1 hkA
      have hW1 := hW
      refine e_goto 99 dX2_mostOf_93 (by decide) ?_
      refine e_lstore (L1 := [some (.ref 34), some (.ref k), some (.int (nI 2)), some (.int (nI (m3 (mbits D S)))), some (.int (nI (2 ^ mon (m3 (mbits D S)) 12 0))), some (.int (nI bs)), some (.long (ob b)), none, some (.int (nI (sqn (m3 (mbits D S)) i))), some (.int (nI i)), some (.long (nL (cSum D (lf2 D (S 151)) S (sqn (m3 (mbits D S)) i)))), none]) dX2_mostOf_99 (by decide) rfl ?_
      refine e_lload dX2_mostOf_101 rfl ?_
      refine e_lload dX2_mostOf_103 rfl ?_
      refine e_lcmp dX2_mostOf_105 ?_
      refine e_if_le 117 dX2_mostOf_106 (by decide) (fun c106 => ?_) (fun c106 => ?_)
      · have c106 : mbt b (cSum D (lf2 D (S 151)) S (sqn (m3 (mbits D S)) i)) = false := by
          cases q : mbt b (cSum D (lf2 D (S 151)) S (sqn (m3 (mbits D S)) i))
          · rfl
          · exact absurd ((ob_lt (by omega) (fun x hx => by have := hb x hx; omega)).mpr q) (lc_le.mp c106)
        refine e_iload dX2_mostOf_117 rfl ?_
        refine e_iload_n dX2_mostOf_119 rfl rfl ?_
        refine e_isub dX2_mostOf_120 ?_
        refine e_iload_n dX2_mostOf_121 rfl rfl ?_
        refine e_iand dX2_mostOf_122 ?_
        refine e_int (nI (sqn (m3 (mbits D S)) (i + 1))) (nx_e _ _ (by omega)) ?_
        refine e_istore (L1 := [some (.ref 34), some (.ref k), some (.int (nI 2)), some (.int (nI (m3 (mbits D S)))), some (.int (nI (2 ^ mon (m3 (mbits D S)) 12 0))), some (.int (nI bs)), some (.long (ob b)), none, some (.int (nI (sqn (m3 (mbits D S)) (i + 1)))), some (.int (nI i)), some (.long (nL (cSum D (lf2 D (S 151)) S (sqn (m3 (mbits D S)) i)))), none]) dX2_mostOf_123 (by decide) rfl ?_
        refine e_iinc (v := nI (i + 1)) (L1 := [some (.ref 34), some (.ref k), some (.int (nI 2)), some (.int (nI (m3 (mbits D S)))), some (.int (nI (2 ^ mon (m3 (mbits D S)) 12 0))), some (.int (nI bs)), some (.long (ob b)), none, some (.int (nI (sqn (m3 (mbits D S)) (i + 1)))), some (.int (nI (i + 1))), some (.long (nL (cSum D (lf2 D (S 151)) S (sqn (m3 (mbits D S)) i)))), none]) dX2_mostOf_125 rfl (show nI i + Int32.ofInt 1 = nI (i + 1) from nI_add i 1) (by decide) rfl ?_
        refine e_goto 63 dX2_mostOf_128 (by decide) ?_
        rw [mfo_f cs9 c106] at h
        exact ih (i + 1) b bs _ _ σ1 (by omega) Ms1 Gr1 Yr1 Yt1 Wx1 hb (fun σ' Sm' Wx' h3 => h σ' (Sm1.tr Sm') Wx' h3)
      · have c106 := (ob_lt (b := b) (v := cSum D (lf2 D (S 151)) S (sqn (m3 (mbits D S)) i)) (by omega) (fun x hx => by have := hb x hx; omega)).mp (by by_cases q : ob b < nL (cSum D (lf2 D (S 151)) S (sqn (m3 (mbits D S)) i)); exact q; exact absurd (lc_le.mpr q) c106)
        refine e_lload dX2_mostOf_109 rfl ?_
        refine e_lstore (L1 := [some (.ref 34), some (.ref k), some (.int (nI 2)), some (.int (nI (m3 (mbits D S)))), some (.int (nI (2 ^ mon (m3 (mbits D S)) 12 0))), some (.int (nI bs)), some (.long (nL (cSum D (lf2 D (S 151)) S (sqn (m3 (mbits D S)) i)))), none, some (.int (nI (sqn (m3 (mbits D S)) i))), some (.int (nI i)), some (.long (nL (cSum D (lf2 D (S 151)) S (sqn (m3 (mbits D S)) i)))), none]) dX2_mostOf_111 (by decide) rfl ?_
        refine e_iload dX2_mostOf_113 rfl ?_
        refine e_istore (L1 := [some (.ref 34), some (.ref k), some (.int (nI 2)), some (.int (nI (m3 (mbits D S)))), some (.int (nI (2 ^ mon (m3 (mbits D S)) 12 0))), some (.int (nI (sqn (m3 (mbits D S)) i))), some (.long (nL (cSum D (lf2 D (S 151)) S (sqn (m3 (mbits D S)) i)))), none, some (.int (nI (sqn (m3 (mbits D S)) i))), some (.int (nI i)), some (.long (nL (cSum D (lf2 D (S 151)) S (sqn (m3 (mbits D S)) i)))), none]) dX2_mostOf_115 (by decide) rfl ?_
        refine e_iload dX2_mostOf_117 rfl ?_
        refine e_iload_n dX2_mostOf_119 rfl rfl ?_
        refine e_isub dX2_mostOf_120 ?_
        refine e_iload_n dX2_mostOf_121 rfl rfl ?_
        refine e_iand dX2_mostOf_122 ?_
        refine e_int (nI (sqn (m3 (mbits D S)) (i + 1))) (nx_e _ _ (by omega)) ?_
        refine e_istore (L1 := [some (.ref 34), some (.ref k), some (.int (nI 2)), some (.int (nI (m3 (mbits D S)))), some (.int (nI (2 ^ mon (m3 (mbits D S)) 12 0))), some (.int (nI (sqn (m3 (mbits D S)) i))), some (.long (nL (cSum D (lf2 D (S 151)) S (sqn (m3 (mbits D S)) i)))), none, some (.int (nI (sqn (m3 (mbits D S)) (i + 1)))), some (.int (nI i)), some (.long (nL (cSum D (lf2 D (S 151)) S (sqn (m3 (mbits D S)) i)))), none]) dX2_mostOf_123 (by decide) rfl ?_
        refine e_iinc (v := nI (i + 1)) (L1 := [some (.ref 34), some (.ref k), some (.int (nI 2)), some (.int (nI (m3 (mbits D S)))), some (.int (nI (2 ^ mon (m3 (mbits D S)) 12 0))), some (.int (nI (sqn (m3 (mbits D S)) i))), some (.long (nL (cSum D (lf2 D (S 151)) S (sqn (m3 (mbits D S)) i)))), none, some (.int (nI (sqn (m3 (mbits D S)) (i + 1)))), some (.int (nI (i + 1))), some (.long (nL (cSum D (lf2 D (S 151)) S (sqn (m3 (mbits D S)) i)))), none]) dX2_mostOf_125 rfl (show nI i + Int32.ofInt 1 = nI (i + 1) from nI_add i 1) (by decide) rfl ?_
        refine e_goto 63 dX2_mostOf_128 (by decide) ?_
        rw [mfo_t cs9 c106] at h
        exact ih (i + 1) (some (cSum D (lf2 D (S 151)) S (sqn (m3 (mbits D S)) i))) (sqn (m3 (mbits D S)) i) _ _ σ1 (by omega) Ms1 Gr1 Yr1 Yt1 Wx1 (fun x hx => by cases hx; omega) (fun σ' Sm' Wx' h3 => h σ' (Sm1.tr Sm') Wx' h3)
set_option maxRecDepth 20000 in
theorem t_X2_mostOf2 {g : fGP} {d : Nat} {σ : fAH} {Q : fRes → fAH → Prop} {k : Nat} {D : fSD} {S : Nat → Nat} {T : Nat → Int32} {m : Nat} {sd : Int32} (Ms : fMs g σ) (hY : k ∈ [15, 22, 37, 46, 59, 69, 79]) (hkA : ∀ i, i < 7 → ¬ fF2 (k + i)) (Gr : fGr σ 2 D) (hD : fWD D) (Yr : fYr σ k D S m sd) (Yt : fYt σ k S T) (hW : fWS D S) (hC : fWC D S) (hn : S 155 < 30) (Wx : fWx2 σ) (h : ∀ σ', fSm fF2 σ σ' → fWx2 σ' → fI σ' 34 3 = nI (mft D S).2 → Q (.inl (some (.long (ob ((mft D S).1.map (4096 * ·)))))) σ') : fEv g (d + 8) mX2_mostOf 0 (fent [.ref 34, .ref k, .int (nI 2)] 12) [] σ Q := by
  have yl := fyl hY
  have Gs := Ms.ground (k := 2) (by decide)
  have Ys := Ms.yard hY
  have ky := Ys.1.1
  have kn := Ys.2.1.1
  obtain ⟨t0, t1, t2, t3, t4, t5, t6⟩ := id hD.1
  have np := hW.n hD
  have n5 := hW.2.2.2.2
  have ml := m3_at (mbits D S)
  have p8 := p2_8 ml
  have ma := m3_lt (mbits D S)
  show fEv g (d + 8) mX2_mostOf 0 [some (.ref 34), some (.ref k), some (.int (nI 2)), none, none, none, none, none, none, none, none, none] [] σ Q
  refine e_iload_n dX2_mostOf_0 rfl rfl ?_
  refine e_iconst (nI 1) dX2_mostOf_1 (by decide) ?_
  refine e_icmp_lt 19 dX2_mostOf_2 (by decide) (fun c => absurd c (by decide)) (fun _ => ?_)
  refine e_iload_n dX2_mostOf_5 rfl rfl ?_
  refine e_iconst (nI 2) dX2_mostOf_6 (by decide) ?_
  refine e_icmp_gt 19 dX2_mostOf_7 (by decide) (fun c => absurd c (by decide)) (fun _ => ?_)
  refine e_aload_n dX2_mostOf_10 rfl rfl ?_
  refine e_getI dX2_mostOf_11 fl_RX2_35 ky (show k < fnx σ by omega) rfl ?_
  refine e_int (nI (S 155)) Yr.1.2.2.1 ?_
  refine e_bipush (nI 30) dX2_mostOf_14 (by decide) ?_
  refine e_icmp_lt 21 dX2_mostOf_16 (by decide) (fun _ => ?_) (fun q => absurd ((nI_lt' (by omega) (by omega)).mpr (by omega)) q)
  refine e_iload_n dX2_mostOf_21 rfl rfl ?_
  refine e_iconst (nI 1) dX2_mostOf_22 (by decide) ?_
  refine e_icmp_ne 35 dX2_mostOf_23 (by decide) (fun _ => ?_) (fun c => absurd c (by decide))
  refine e_aload_n dX2_mostOf_35 rfl rfl ?_
  refine e_iconst (nI 3) dX2_mostOf_36 (by decide) ?_
  refine e_callV (k := k) [.int (nI 3)] dX2_mostOf_37 cc_X8_firstAlive lk_RX2_42 im_X8_firstAlive se_X8_firstAlive (by decide) ky (show k < fnx σ by omega) rfl (Nat.le_of_ble_eq_true rfl) (Nat.le_of_ble_eq_true rfl) ?_
  refine t_X8_firstAlive Gs Gr hD Ys Yr hW (by omega) (fK_i ?_)
  show fEv g _ mX2_mostOf 40 [some (.ref 34), some (.ref k), some (.int (nI 2)), none, none, none, none, none, none, none, none, none] [.int (nI (mfa (mal D S) 3 (dT D 1) 0 0))] σ Q
  refine e_int (nI (m3 (mbits D S))) (by rw [m3_e hD]) ?_
  refine e_istore_n (L1 := [some (.ref 34), some (.ref k), some (.int (nI 2)), some (.int (nI (m3 (mbits D S)))), none, none, none, none, none, none, none, none]) dX2_mostOf_40 rfl (by decide) rfl ?_
  refine e_iconst (nI 1) dX2_mostOf_41 (by decide) ?_
  refine e_iload_n dX2_mostOf_42 rfl rfl ?_
  refine e_callS [.int (nI (m3 (mbits D S)))] dX2_mostOf_43 cc_J6_bitCount_0f7a4 lk_RX2_46 st_J6_bitCount_0f7a4 in_RJ6 rfl (Nat.le_of_ble_eq_true rfl) (Nat.le_of_ble_eq_true rfl) ?_
  refine t_J6_bitCount (by omega) (fK_i ?_)
  show fEv g _ mX2_mostOf 46 [some (.ref 34), some (.ref k), some (.int (nI 2)), some (.int (nI (m3 (mbits D S)))), none, none, none, none, none, none, none, none] [.int (nI (mon (m3 (mbits D S)) 12 0)), .int (nI 1)] σ Q
  refine e_ishl dX2_mostOf_46 ?_
  refine e_int (nI (2 ^ mon (m3 (mbits D S)) 12 0)) (nI_sh1 (by omega)) ?_
  refine e_istore (L1 := [some (.ref 34), some (.ref k), some (.int (nI 2)), some (.int (nI (m3 (mbits D S)))), some (.int (nI (2 ^ mon (m3 (mbits D S)) 12 0))), none, none, none, none, none, none, none]) dX2_mostOf_47 (by decide) rfl ?_
  refine e_iconst (nI 0) dX2_mostOf_49 (by decide) ?_
  refine e_istore (L1 := [some (.ref 34), some (.ref k), some (.int (nI 2)), some (.int (nI (m3 (mbits D S)))), some (.int (nI (2 ^ mon (m3 (mbits D S)) 12 0))), some (.int (nI 0)), none, none, none, none, none, none]) dX2_mostOf_50 (by decide) rfl ?_
  refine e_ldc2 (-1) dX2_mostOf_52 kc_RX2_51 ?_
  refine e_lstore (L1 := [some (.ref 34), some (.ref k), some (.int (nI 2)), some (.int (nI (m3 (mbits D S)))), some (.int (nI (2 ^ mon (m3 (mbits D S)) 12 0))), some (.int (nI 0)), some (.long ((-1))), none, none, none, none, none]) dX2_mostOf_55 (by decide) rfl ?_
  refine e_iconst (nI 0) dX2_mostOf_57 (by decide) ?_
  refine e_istore (L1 := [some (.ref 34), some (.ref k), some (.int (nI 2)), some (.int (nI (m3 (mbits D S)))), some (.int (nI (2 ^ mon (m3 (mbits D S)) 12 0))), some (.int (nI 0)), some (.long ((-1))), none, some (.int (nI 0)), none, none, none]) dX2_mostOf_58 (by decide) rfl ?_
  refine e_iconst (nI 0) dX2_mostOf_60 (by decide) ?_
  refine e_istore (L1 := [some (.ref 34), some (.ref k), some (.int (nI 2)), some (.int (nI (m3 (mbits D S)))), some (.int (nI (2 ^ mon (m3 (mbits D S)) 12 0))), some (.int (nI 0)), some (.long ((-1))), none, some (.int (nI 0)), some (.int (nI 0)), none, none]) dX2_mostOf_61 (by decide) rfl ?_
  exact l_X2_mostOf2 hY hkA hD hW hC hn (2 ^ mon (m3 (mbits D S)) 12 0) 0 none 0 none none σ (by omega) Ms Gr Yr Yt Wx (fun x hx => by cases hx) (fun σ' Sm' Wx' h3 => by rw [cM2_e hD] at h3 ⊢; exact h σ' Sm' Wx' h3)
