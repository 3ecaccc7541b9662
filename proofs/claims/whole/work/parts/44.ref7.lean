def mlq (D : fSD) (S : Nat → Nat) (i : Nat) : Nat := msum (fun j => if dZ D j 0 = S 155 then dZ D j 2 else 0) i
def mpv (D : fSD) (lf : (Nat → Nat) → Nat) (f : Nat) (S : Nat → Nat) (i : Nat) : Nat := msum (fun j => if dZ D j 0 = S 155 then dZ D j 2 * mbr D lf f (dZ D j 1) (dT D 1) 0 S else 0) i
theorem mlq_t {D : fSD} {S : Nat → Nat} {i : Nat} (h : dZ D i 0 = S 155) : mlq D S (i + 1) = mlq D S i + dZ D i 2 := by
  show msum _ i + (if _ then _ else _) = _
  rw [if_pos h]
  rfl
theorem mlq_f {D : fSD} {S : Nat → Nat} {i : Nat} (h : ¬ dZ D i 0 = S 155) : mlq D S (i + 1) = mlq D S i := by
  show msum _ i + (if _ then _ else _) = _
  rw [if_neg h]
  rfl
theorem mpv_t {D : fSD} {lf : (Nat → Nat) → Nat} {f : Nat} {S : Nat → Nat} {i : Nat} (h : dZ D i 0 = S 155) : mpv D lf f S (i + 1) = mpv D lf f S i + dZ D i 2 * mbr D lf f (dZ D i 1) (dT D 1) 0 S := by
  show msum _ i + (if _ then _ else _) = _
  rw [if_pos h]
  rfl
theorem mpv_f {D : fSD} {lf : (Nat → Nat) → Nat} {f : Nat} {S : Nat → Nat} {i : Nat} (h : ¬ dZ D i 0 = S 155) : mpv D lf f S (i + 1) = mpv D lf f S i := by
  show msum _ i + (if _ then _ else _) = _
  rw [if_neg h]
  rfl
theorem mlq_le {D : fSD} (hD : fWD D) (S : Nat → Nat) {i : Nat} (h : i ≤ dT D 6) : mlq D S i ≤ 8 := Nat.le_trans (msum_mono h) (hD.2.2.2.2.2 (S 155))
theorem mby_v {D : fSD} {lf : (Nat → Nat) → Nat} {f : Nat} {S : Nat → Nat} : mby D lf f S = mpv D lf f S (dT D 6) + (8 - mlq D S (dT D 6)) * mbr D lf f 0 (dT D 1) 0 S := rfl
set_option maxRecDepth 20000 in
theorem t_X10_br0 {g : fGP} {d : Nat} {σ : fAH} {Q : fRes → fAH → Prop} {D : fSD} {S : Nat → Nat} {sd : Int32} {fl c9 a w s0 dp : Nat} (Ms : fMs g σ) (Mr : fMr σ D S sd) (hD : fWD D) (hW : fWS D S) (hC : fWC D S) (hn : S 155 < 30) (hN : fWN S 0 0) (ha : a = S 151) (htr : fI σ 89 31 = nI (bn false)) (hdp : fI σ 89 21 = nI dp) (hdeep : dp + mon fl (dT D 1) 0 + 1 ≤ 20) (hsm : fJ σ 89 32 = nL s0) (htn : fI σ 89 33 = nI 0) (hf : fl < 4096) (hc9 : c9 < 100) (h : ∀ σ', fSm (fBA dp) σ σ' → fMr σ' D S sd → fI σ' 89 = fI σ 89 → fJ σ' 89 32 = nL (s0 + w * mbr D (lf0 D a) fl c9 (dT D 1) 0 S) → Q (.inl none) σ') : fEv g (d + 16) mX10_branches 0 (fent [.ref 89, .int (nI fl), .int (nI c9), .int (nI 0), .long (nL w), .int (nI a)] 10) [] σ Q := by
  show fEv g (d + 16) mX10_branches 0 [some (.ref 89), some (.int (nI fl)), some (.int (nI c9)), some (.int (nI 0)), some (.long (nL w)), none, some (.int (nI a)), none, none, none] [] σ Q
  refine e_iload_n dX10_branches_0 rfl rfl ?_
  refine e_istore (L1 := [some (.ref 89), some (.int (nI fl)), some (.int (nI c9)), some (.int (nI 0)), some (.long (nL w)), none, some (.int (nI a)), some (.int (nI 0)), none, none]) dX10_branches_1 (by decide) rfl ?_
  have t1 := hD.1.2.1
  have e : d + 16 = (d + (12 - dT D 1)) + dT D 1 + 4 := by omega
  rw [e]
  exact l_X10_br0 hD hn ha hf hc9 (dT D 1) 0 Q (d + (12 - dT D 1)) (nI 0) none none w s0 dp σ S sd (by omega) Ms Mr ⟨hW, hC, rfl, rfl, fun _ _ => rfl⟩ hN htr hdp hdeep hsm htn h
set_option maxRecDepth 20000 in
theorem l_X10_by0 {g : fGP} {d : Nat} {Q : fRes → fAH → Prop} {D : fSD} {S : Nat → Nat} {sd : Int32} {fl dp : Nat} {hd : Int64} (hD : fWD D) (hW : fWS D S) (hC : fWC D S) (hn : S 155 < 30) (hN : fWN S 0 0) (hdeep : dp + mon fl (dT D 1) 0 + 1 ≤ 20) (hf : fl < 4096) : ∀ (n i : Nat) (o8 : Option Value) (σ : fAH), i + n = dT D 6 → fMs g σ → fMr σ D S sd → fI σ 89 31 = nI (bn false) → fI σ 89 21 = nI dp → fJ σ 89 32 = nL (mpv D (lf0 D (S 151)) fl S i) → fI σ 89 33 = nI 0 → (∀ σ', fSm (fBA dp) σ σ' → fMr σ' D S sd → fI σ' 89 = fI σ 89 → fJ σ' 89 32 = hd → Q (.inl (some (.long (nL (mby D (lf0 D (S 151)) fl S))))) σ') → fEv g (d + 17) mX10_byOdds 16 [some (.ref 89), some (.int (nI fl)), some (.int (nI (8 - mlq D S i))), some (.long hd), none, none, none, some (.int (nI i)), o8] [] σ Q := by
  intro n
  induction n with
  | zero =>
    intro i o8 σ hin Ms Mr htr hdp hsm htn h
    obtain ⟨t0, t1, t2, t3, t4, t5, t6⟩ := id hD.1
    have n5 := hW.2.2.2.2
    have e9 : i = dT D 6 := by omega
    have ml := mlq_le hD S (i := i) (by omega)
    have pb := Mr.b (i := 151) (by decide)
    refine e_iload dX10_byOdds_16 rfl ?_
    refine e_aload_n dX10_byOdds_18 rfl rfl ?_
    refine e_getR (q := 92) dX10_byOdds_19 fl_RX10_20 (Ms.s 89 rfl) (Ms.n (by decide)) rfl (Ms.r 89 10 rfl) (by unfold fscr; omega) ?_
    refine e_bipush (nI 6) dX10_byOdds_22 (by decide) ?_
    refine e_iaload 6 dX10_byOdds_24 (Ms.s 92 rfl) (Ms.n (by decide)) rfl (by omega) (by decide) ?_
    refine e_int (nI (dT D 6)) (Mr.t 6 (by omega)) ?_
    refine e_icmp_gt 148 dX10_byOdds_25 (by decide) (fun cz => absurd ((nI_lt' (by omega) (by omega)).mp cz) (by omega)) (fun cz => ?_)
    refine e_iload dX10_byOdds_28 rfl ?_
    refine e_aload_n dX10_byOdds_30 rfl rfl ?_
    refine e_getR (q := 92) dX10_byOdds_31 fl_RX10_20 (Ms.s 89 rfl) (Ms.n (by decide)) rfl (Ms.r 89 10 rfl) (by unfold fscr; omega) ?_
    refine e_bipush (nI 6) dX10_byOdds_34 (by decide) ?_
    refine e_iaload 6 dX10_byOdds_36 (Ms.s 92 rfl) (Ms.n (by decide)) rfl (by omega) (by decide) ?_
    refine e_int (nI (dT D 6)) (Mr.t 6 (by omega)) ?_
    refine e_icmp_ge 63 dX10_byOdds_37 (by decide) (fun cz => ?_) (fun cz => absurd ((nI_le' (by omega) (by omega)).mpr (by omega)) cz)
    refine e_iload dX10_byOdds_63 rfl ?_
    refine e_aload_n dX10_byOdds_65 rfl rfl ?_
    refine e_getR (q := 92) dX10_byOdds_66 fl_RX10_20 (Ms.s 89 rfl) (Ms.n (by decide)) rfl (Ms.r 89 10 rfl) (by unfold fscr; omega) ?_
    refine e_bipush (nI 6) dX10_byOdds_69 (by decide) ?_
    refine e_iaload 6 dX10_byOdds_71 (Ms.s 92 rfl) (Ms.n (by decide)) rfl (by omega) (by decide) ?_
    refine e_int (nI (dT D 6)) (Mr.t 6 (by omega)) ?_
    refine e_icmp_ge 87 dX10_byOdds_72 (by decide) (fun cz => ?_) (fun cz => absurd ((nI_le' (by omega) (by omega)).mpr (by omega)) cz)
    refine e_iload_n dX10_byOdds_87 rfl rfl ?_
    refine e_istore (L1 := [some (.ref 89), some (.int (nI fl)), some (.int (nI (8 - mlq D S i))), some (.long hd), none, none, none, some (.int (nI i)), some (.int (nI (8 - mlq D S i)))]) dX10_byOdds_88 (by decide) rfl ?_
    refine e_iload_n dX10_byOdds_90 rfl rfl ?_
    refine e_iload dX10_byOdds_91 rfl ?_
    refine e_isub dX10_byOdds_93 ?_
    refine e_int (nI ((8 - mlq D S i) - (8 - mlq D S i))) (pk_sub (by omega)) ?_
    refine e_istore_n (L1 := [some (.ref 89), some (.int (nI fl)), some (.int (nI ((8 - mlq D S i) - (8 - mlq D S i)))), some (.long hd), none, none, none, some (.int (nI i)), some (.int (nI (8 - mlq D S i)))]) dX10_byOdds_94 rfl (by decide) rfl ?_
    refine e_iload dX10_byOdds_95 rfl ?_
    refine e_if_le 142 dX10_byOdds_97 (by decide) (fun c97 => ?_) (fun c97 => ?_)
    · rw [nI_zle (by omega)] at c97
      refine e_iinc (v := nI (i + 1)) (L1 := [some (.ref 89), some (.int (nI fl)), some (.int (nI ((8 - mlq D S i) - (8 - mlq D S i)))), some (.long hd), none, none, none, some (.int (nI (i + 1))), some (.int (nI (8 - mlq D S i)))]) dX10_byOdds_142 rfl (show nI i + Int32.ofInt 1 = nI (i + 1) from nI_add i 1) (by decide) rfl ?_
      refine e_goto 16 dX10_byOdds_145 (by decide) ?_
      refine e_iload dX10_byOdds_16 rfl ?_
      refine e_aload_n dX10_byOdds_18 rfl rfl ?_
      refine e_getR (q := 92) dX10_byOdds_19 fl_RX10_20 (Ms.s 89 rfl) (Ms.n (by decide)) rfl (Ms.r 89 10 rfl) (by unfold fscr; omega) ?_
      refine e_bipush (nI 6) dX10_byOdds_22 (by decide) ?_
      refine e_iaload 6 dX10_byOdds_24 (Ms.s 92 rfl) (Ms.n (by decide)) rfl (by omega) (by decide) ?_
      refine e_int (nI (dT D 6)) (Mr.t 6 (by omega)) ?_
      refine e_icmp_gt 148 dX10_byOdds_25 (by decide) (fun cz => ?_) (fun cz => absurd ((nI_lt' (by omega) (by omega)).mpr (by omega)) cz)
      refine e_aload_n dX10_byOdds_148 rfl rfl ?_
      refine e_getL dX10_byOdds_149 fl_RX10_271 (Ms.s 89 rfl) (Ms.n (by decide)) rfl ?_
      refine e_long (nL (mpv D (lf0 D (S 151)) fl S i)) hsm ?_
      refine e_lstore (L1 := [some (.ref 89), some (.int (nI fl)), some (.int (nI ((8 - mlq D S i) - (8 - mlq D S i)))), some (.long hd), none, some (.long (nL (mpv D (lf0 D (S 151)) fl S i))), none, some (.int (nI (i + 1))), some (.int (nI (8 - mlq D S i)))]) dX10_byOdds_152 (by decide) rfl ?_
      refine e_aload_n dX10_byOdds_154 rfl rfl ?_
      refine e_lload_n dX10_byOdds_155 rfl rfl ?_
      refine e_putL dX10_byOdds_156 fl_RX10_271 (Ms.s 89 rfl) (Ms.n (by decide)) rfl rfl ?_
      refine e_lload dX10_byOdds_159 rfl ?_
      have hm : mby D (lf0 D (S 151)) fl S = mpv D (lf0 D (S 151)) fl S i := by rw [mby_v, ← e9, show 8 - mlq D S i = 0 by omega, Nat.zero_mul, Nat.add_zero]
      rw [hm] at h
      exact e_lreturn dX10_byOdds_161 rfl (h _ ((fSm_J (Or.inl rfl))) Mr rfl (by rw [fJ_J, if_pos ⟨rfl, rfl⟩]))
    · rw [nI_zle (by omega)] at c97
      refine e_aload_n dX10_byOdds_100 rfl rfl ?_
      refine e_iload_n dX10_byOdds_101 rfl rfl ?_
      refine e_iload dX10_byOdds_102 rfl ?_
      refine e_aload_n dX10_byOdds_104 rfl rfl ?_
      refine e_getR (q := 92) dX10_byOdds_105 fl_RX10_20 (Ms.s 89 rfl) (Ms.n (by decide)) rfl (Ms.r 89 10 rfl) (by unfold fscr; omega) ?_
      refine e_bipush (nI 6) dX10_byOdds_108 (by decide) ?_
      refine e_iaload 6 dX10_byOdds_110 (Ms.s 92 rfl) (Ms.n (by decide)) rfl (by omega) (by decide) ?_
      refine e_int (nI (dT D 6)) (Mr.t 6 (by omega)) ?_
      refine e_icmp_ge 126 dX10_byOdds_111 (by decide) (fun cz => ?_) (fun cz => absurd ((nI_le' (by omega) (by omega)).mpr (by omega)) cz)
      refine e_iconst (nI 0) dX10_byOdds_126 (by decide) ?_
      refine e_iconst (nI 0) dX10_byOdds_127 (by decide) ?_
      refine e_iload dX10_byOdds_128 rfl ?_
      refine e_i2l dX10_byOdds_130 ?_
      refine e_long (nL (8 - mlq D S i)) (nL_i (by omega)) ?_
      refine e_aload_n dX10_byOdds_131 rfl rfl ?_
      refine e_getR (q := 197) dX10_byOdds_132 fl_RX10_49 (Ms.s 89 rfl) (Ms.n (by decide)) rfl (Ms.r 89 19 rfl) (by unfold fscr; omega) ?_
      refine e_sipush (nI 151) dX10_byOdds_135 (by decide) ?_
      refine e_iaload 151 dX10_byOdds_138 (Ms.s 197 rfl) (Ms.n (by decide)) rfl (by omega) (by decide) ?_
      refine e_int (nI (S 151)) (Mr.s 151 (by omega)) ?_
      refine e_callV (k := 89) [.int (nI fl), .int (nI 0), .int (nI 0), .long (nL (8 - mlq D S i)), .int (nI (S 151))] dX10_byOdds_139 cc_X10_branches lk_RX10_277 im_X10_branches se_X10_branches (by decide) (Ms.s 89 rfl) (Ms.n (by decide)) rfl (Nat.le_of_ble_eq_true rfl) (Nat.le_of_ble_eq_true rfl) ?_
      refine t_X10_br0 (dp := dp) Ms Mr hD hW hC hn hN rfl htr hdp hdeep hsm htn hf (by omega) (fun σ1 Smx1 Mr1 hI1 hJ1 => ?_)
      show fEv g _ mX10_byOdds 142 [some (.ref 89), some (.int (nI fl)), some (.int (nI ((8 - mlq D S i) - (8 - mlq D S i)))), some (.long hd), none, none, none, some (.int (nI i)), some (.int (nI (8 - mlq D S i)))] [] σ1 Q
      have Sm1 := (Smx1.to (B := fBA dp) (fun a q => by unfold fBA at q; unfold fBA; omega))
      have Ms1 := Ms.sm Sm1
      have hX1 : ∀ q, q ≠ 21 → fI σ1 89 q = fI σ 89 q := fun q hq => (congrFun hI1 q)
      have hdp1 := (congrFun hI1 21).trans hdp
      have hsm1 := hJ1
      have hW1 := hW
      refine e_iinc (v := nI (i + 1)) (L1 := [some (.ref 89), some (.int (nI fl)), some (.int (nI ((8 - mlq D S i) - (8 - mlq D S i)))), some (.long hd), none, none, none, some (.int (nI (i + 1))), some (.int (nI (8 - mlq D S i)))]) dX10_byOdds_142 rfl (show nI i + Int32.ofInt 1 = nI (i + 1) from nI_add i 1) (by decide) rfl ?_
      refine e_goto 16 dX10_byOdds_145 (by decide) ?_
      refine e_iload dX10_byOdds_16 rfl ?_
      refine e_aload_n dX10_byOdds_18 rfl rfl ?_
      refine e_getR (q := 92) dX10_byOdds_19 fl_RX10_20 (Ms1.s 89 rfl) (Ms1.n (by decide)) rfl (Ms1.r 89 10 rfl) (by unfold fscr; omega) ?_
      refine e_bipush (nI 6) dX10_byOdds_22 (by decide) ?_
      refine e_iaload 6 dX10_byOdds_24 (Ms1.s 92 rfl) (Ms1.n (by decide)) rfl (by omega) (by decide) ?_
      refine e_int (nI (dT D 6)) (Mr1.t 6 (by omega)) ?_
      refine e_icmp_gt 148 dX10_byOdds_25 (by decide) (fun cz => ?_) (fun cz => absurd ((nI_lt' (by omega) (by omega)).mpr (by omega)) cz)
      refine e_aload_n dX10_byOdds_148 rfl rfl ?_
      refine e_getL dX10_byOdds_149 fl_RX10_271 (Ms1.s 89 rfl) (Ms1.n (by decide)) rfl ?_
      refine e_long (nL (mpv D (lf0 D (S 151)) fl S i + (8 - mlq D S i) * mbr D (lf0 D (S 151)) fl 0 (dT D 1) 0 S)) hsm1 ?_
      refine e_lstore (L1 := [some (.ref 89), some (.int (nI fl)), some (.int (nI ((8 - mlq D S i) - (8 - mlq D S i)))), some (.long hd), none, some (.long (nL (mpv D (lf0 D (S 151)) fl S i + (8 - mlq D S i) * mbr D (lf0 D (S 151)) fl 0 (dT D 1) 0 S))), none, some (.int (nI (i + 1))), some (.int (nI (8 - mlq D S i)))]) dX10_byOdds_152 (by decide) rfl ?_
      refine e_aload_n dX10_byOdds_154 rfl rfl ?_
      refine e_lload_n dX10_byOdds_155 rfl rfl ?_
      refine e_putL dX10_byOdds_156 fl_RX10_271 (Ms1.s 89 rfl) (Ms1.n (by decide)) rfl rfl ?_
      refine e_lload dX10_byOdds_159 rfl ?_
      have hm : mby D (lf0 D (S 151)) fl S = mpv D (lf0 D (S 151)) fl S i + (8 - mlq D S i) * mbr D (lf0 D (S 151)) fl 0 (dT D 1) 0 S := by rw [mby_v, ← e9]
      rw [hm] at h
      exact e_lreturn dX10_byOdds_161 rfl (h _ (Sm1.tr (fSm_J (Or.inl rfl))) Mr1 (show fI σ1 89 = fI σ 89 from hI1) (by rw [fJ_J, if_pos ⟨rfl, rfl⟩]))
  | succ n ih =>
    intro i o8 σ hin Ms Mr htr hdp hsm htn h
    obtain ⟨t0, t1, t2, t3, t4, t5, t6⟩ := id hD.1
    have n5 := hW.2.2.2.2
    have hi : i < dT D 6 := by omega
    have z := hD.2.2.2.2.1 i hi
    have ml := mlq_le hD S (i := i) (by omega)
    have ml1 := mlq_le hD S (i := i + 1) (by omega)
    have pb := Mr.b (i := 151) (by decide)
    refine e_iload dX10_byOdds_16 rfl ?_
    refine e_aload_n dX10_byOdds_18 rfl rfl ?_
    refine e_getR (q := 92) dX10_byOdds_19 fl_RX10_20 (Ms.s 89 rfl) (Ms.n (by decide)) rfl (Ms.r 89 10 rfl) (by unfold fscr; omega) ?_
    refine e_bipush (nI 6) dX10_byOdds_22 (by decide) ?_
    refine e_iaload 6 dX10_byOdds_24 (Ms.s 92 rfl) (Ms.n (by decide)) rfl (by omega) (by decide) ?_
    refine e_int (nI (dT D 6)) (Mr.t 6 (by omega)) ?_
    refine e_icmp_gt 148 dX10_byOdds_25 (by decide) (fun cz => absurd ((nI_lt' (by omega) (by omega)).mp cz) (by omega)) (fun cz => ?_)
    refine e_iload dX10_byOdds_28 rfl ?_
    refine e_aload_n dX10_byOdds_30 rfl rfl ?_
    refine e_getR (q := 92) dX10_byOdds_31 fl_RX10_20 (Ms.s 89 rfl) (Ms.n (by decide)) rfl (Ms.r 89 10 rfl) (by unfold fscr; omega) ?_
    refine e_bipush (nI 6) dX10_byOdds_34 (by decide) ?_
    refine e_iaload 6 dX10_byOdds_36 (Ms.s 92 rfl) (Ms.n (by decide)) rfl (by omega) (by decide) ?_
    refine e_int (nI (dT D 6)) (Mr.t 6 (by omega)) ?_
    refine e_icmp_ge 63 dX10_byOdds_37 (by decide) (fun cz => absurd ((nI_le' (by omega) (by omega)).mp cz) (by omega)) (fun cz => ?_)
    refine e_aload_n dX10_byOdds_40 rfl rfl ?_
    refine e_getR (q := 172) dX10_byOdds_41 fl_RX10_46 (Ms.s 89 rfl) (Ms.n (by decide)) rfl (Ms.r 89 18 rfl) (by unfold fscr; omega) ?_
    refine e_iload dX10_byOdds_44 rfl ?_
    refine e_aaload (q := 173 + i) i dX10_byOdds_46 (Ms.s 172 rfl) (by decide) (Ms.n (by decide)) rfl (by omega) (by decide) (Ms.r 172 _ (frf_odds _ (by omega))) (by unfold fscr; omega) ?_
    refine e_iconst (nI 0) dX10_byOdds_47 (by decide) ?_
    refine e_iaload 0 dX10_byOdds_48 (Ms.s _ (fsh_odds _ (by omega))) (Ms.n (by omega)) rfl (by omega) (by decide) ?_
    refine e_int (nI (dZ D i 0)) (Mr.odds i (by omega) 0 (by omega)) ?_
    refine e_aload_n dX10_byOdds_49 rfl rfl ?_
    refine e_getR (q := 197) dX10_byOdds_50 fl_RX10_49 (Ms.s 89 rfl) (Ms.n (by decide)) rfl (Ms.r 89 19 rfl) (by unfold fscr; omega) ?_
    refine e_sipush (nI 155) dX10_byOdds_53 (by decide) ?_
    refine e_iaload 155 dX10_byOdds_56 (Ms.s 197 rfl) (Ms.n (by decide)) rfl (by omega) (by decide) ?_
    refine e_int (nI (S 155)) (Mr.s 155 (by omega)) ?_
    refine e_icmp_eq 63 dX10_byOdds_57 (by decide) (fun c57 => ?_) (fun c57 => ?_)
    · rw [nI_inj (by omega) (by omega)] at c57
      have mt := mlq_t c57
      refine e_iload dX10_byOdds_63 rfl ?_
      refine e_aload_n dX10_byOdds_65 rfl rfl ?_
      refine e_getR (q := 92) dX10_byOdds_66 fl_RX10_20 (Ms.s 89 rfl) (Ms.n (by decide)) rfl (Ms.r 89 10 rfl) (by unfold fscr; omega) ?_
      refine e_bipush (nI 6) dX10_byOdds_69 (by decide) ?_
      refine e_iaload 6 dX10_byOdds_71 (Ms.s 92 rfl) (Ms.n (by decide)) rfl (by omega) (by decide) ?_
      refine e_int (nI (dT D 6)) (Mr.t 6 (by omega)) ?_
      refine e_icmp_ge 87 dX10_byOdds_72 (by decide) (fun cz => absurd ((nI_le' (by omega) (by omega)).mp cz) (by omega)) (fun cz => ?_)
      refine e_aload_n dX10_byOdds_75 rfl rfl ?_
      refine e_getR (q := 172) dX10_byOdds_76 fl_RX10_46 (Ms.s 89 rfl) (Ms.n (by decide)) rfl (Ms.r 89 18 rfl) (by unfold fscr; omega) ?_
      refine e_iload dX10_byOdds_79 rfl ?_
      refine e_aaload (q := 173 + i) i dX10_byOdds_81 (Ms.s 172 rfl) (by decide) (Ms.n (by decide)) rfl (by omega) (by decide) (Ms.r 172 _ (frf_odds _ (by omega))) (by unfold fscr; omega) ?_
      refine e_iconst (nI 2) dX10_byOdds_82 (by decide) ?_
      refine e_iaload 2 dX10_byOdds_83 (Ms.s _ (fsh_odds _ (by omega))) (Ms.n (by omega)) rfl (by omega) (by decide) ?_
      refine e_int (nI (dZ D i 2)) (Mr.odds i (by omega) 2 (by omega)) ?_
      refine e_goto 88 dX10_byOdds_84 (by decide) ?_
      refine e_istore (L1 := [some (.ref 89), some (.int (nI fl)), some (.int (nI (8 - mlq D S i))), some (.long hd), none, none, none, some (.int (nI i)), some (.int (nI (dZ D i 2)))]) dX10_byOdds_88 (by decide) rfl ?_
      refine e_iload_n dX10_byOdds_90 rfl rfl ?_
      refine e_iload dX10_byOdds_91 rfl ?_
      refine e_isub dX10_byOdds_93 ?_
      refine e_int (nI ((8 - mlq D S i) - (dZ D i 2))) (pk_sub (by omega)) ?_
      refine e_istore_n (L1 := [some (.ref 89), some (.int (nI fl)), some (.int (nI ((8 - mlq D S i) - (dZ D i 2)))), some (.long hd), none, none, none, some (.int (nI i)), some (.int (nI (dZ D i 2)))]) dX10_byOdds_94 rfl (by decide) rfl ?_
      refine e_iload dX10_byOdds_95 rfl ?_
      refine e_if_le 142 dX10_byOdds_97 (by decide) (fun cz => absurd ((nI_zle (by omega)).mp cz) (by omega)) (fun cz => ?_)
      refine e_aload_n dX10_byOdds_100 rfl rfl ?_
      refine e_iload_n dX10_byOdds_101 rfl rfl ?_
      refine e_iload dX10_byOdds_102 rfl ?_
      refine e_aload_n dX10_byOdds_104 rfl rfl ?_
      refine e_getR (q := 92) dX10_byOdds_105 fl_RX10_20 (Ms.s 89 rfl) (Ms.n (by decide)) rfl (Ms.r 89 10 rfl) (by unfold fscr; omega) ?_
      refine e_bipush (nI 6) dX10_byOdds_108 (by decide) ?_
      refine e_iaload 6 dX10_byOdds_110 (Ms.s 92 rfl) (Ms.n (by decide)) rfl (by omega) (by decide) ?_
      refine e_int (nI (dT D 6)) (Mr.t 6 (by omega)) ?_
      refine e_icmp_ge 126 dX10_byOdds_111 (by decide) (fun cz => absurd ((nI_le' (by omega) (by omega)).mp cz) (by omega)) (fun cz => ?_)
      refine e_aload_n dX10_byOdds_114 rfl rfl ?_
      refine e_getR (q := 172) dX10_byOdds_115 fl_RX10_46 (Ms.s 89 rfl) (Ms.n (by decide)) rfl (Ms.r 89 18 rfl) (by unfold fscr; omega) ?_
      refine e_iload dX10_byOdds_118 rfl ?_
      refine e_aaload (q := 173 + i) i dX10_byOdds_120 (Ms.s 172 rfl) (by decide) (Ms.n (by decide)) rfl (by omega) (by decide) (Ms.r 172 _ (frf_odds _ (by omega))) (by unfold fscr; omega) ?_
      refine e_iconst (nI 1) dX10_byOdds_121 (by decide) ?_
      refine e_iaload 1 dX10_byOdds_122 (Ms.s _ (fsh_odds _ (by omega))) (Ms.n (by omega)) rfl (by omega) (by decide) ?_
      refine e_int (nI (dZ D i 1)) (Mr.odds i (by omega) 1 (by omega)) ?_
      refine e_goto 127 dX10_byOdds_123 (by decide) ?_
      refine e_iconst (nI 0) dX10_byOdds_127 (by decide) ?_
      refine e_iload dX10_byOdds_128 rfl ?_
      refine e_i2l dX10_byOdds_130 ?_
      refine e_long (nL (dZ D i 2)) (nL_i (by omega)) ?_
      refine e_aload_n dX10_byOdds_131 rfl rfl ?_
      refine e_getR (q := 197) dX10_byOdds_132 fl_RX10_49 (Ms.s 89 rfl) (Ms.n (by decide)) rfl (Ms.r 89 19 rfl) (by unfold fscr; omega) ?_
      refine e_sipush (nI 151) dX10_byOdds_135 (by decide) ?_
      refine e_iaload 151 dX10_byOdds_138 (Ms.s 197 rfl) (Ms.n (by decide)) rfl (by omega) (by decide) ?_
      refine e_int (nI (S 151)) (Mr.s 151 (by omega)) ?_
      refine e_callV (k := 89) [.int (nI fl), .int (nI (dZ D i 1)), .int (nI 0), .long (nL (dZ D i 2)), .int (nI (S 151))] dX10_byOdds_139 cc_X10_branches lk_RX10_277 im_X10_branches se_X10_branches (by decide) (Ms.s 89 rfl) (Ms.n (by decide)) rfl (Nat.le_of_ble_eq_true rfl) (Nat.le_of_ble_eq_true rfl) ?_
      refine t_X10_br0 (dp := dp) Ms Mr hD hW hC hn hN rfl htr hdp hdeep hsm htn hf (by omega) (fun σ1 Smx1 Mr1 hI1 hJ1 => ?_)
      show fEv g _ mX10_byOdds 142 [some (.ref 89), some (.int (nI fl)), some (.int (nI ((8 - mlq D S i) - (dZ D i 2)))), some (.long hd), none, none, none, some (.int (nI i)), some (.int (nI (dZ D i 2)))] [] σ1 Q
      have Sm1 := (Smx1.to (B := fBA dp) (fun a q => by unfold fBA at q; unfold fBA; omega))
      have Ms1 := Ms.sm Sm1
      have hX1 : ∀ q, q ≠ 21 → fI σ1 89 q = fI σ 89 q := fun q hq => (congrFun hI1 q)
      have hdp1 := (congrFun hI1 21).trans hdp
      have hsm1 := hJ1
      have hW1 := hW
      refine e_iinc (v := nI (i + 1)) (L1 := [some (.ref 89), some (.int (nI fl)), some (.int (nI ((8 - mlq D S i) - (dZ D i 2)))), some (.long hd), none, none, none, some (.int (nI (i + 1))), some (.int (nI (dZ D i 2)))]) dX10_byOdds_142 rfl (show nI i + Int32.ofInt 1 = nI (i + 1) from nI_add i 1) (by decide) rfl ?_
      refine e_goto 16 dX10_byOdds_145 (by decide) ?_
      rw [show 8 - mlq D S i - dZ D i 2 = 8 - mlq D S (i + 1) by omega]
      rw [← mpv_t (show dZ D i 0 = S 155 by omega)] at hsm1
      exact ih (i + 1) _ σ1 (by omega) Ms1 Mr1 ((hX1 31 (by decide)).trans htr) hdp1 hsm1 ((hX1 33 (by decide)).trans htn) (fun σ' Sm' Mr' hI' hJ' => h σ' (Sm1.tr Sm') Mr' (hI'.trans hI1) hJ')
    · rw [nI_inj (by omega) (by omega)] at c57
      refine e_goto 142 dX10_byOdds_60 (by decide) ?_
      refine e_iinc (v := nI (i + 1)) (L1 := [some (.ref 89), some (.int (nI fl)), some (.int (nI (8 - mlq D S i))), some (.long hd), none, none, none, some (.int (nI (i + 1))), o8]) dX10_byOdds_142 rfl (show nI i + Int32.ofInt 1 = nI (i + 1) from nI_add i 1) (by decide) rfl ?_
      refine e_goto 16 dX10_byOdds_145 (by decide) ?_
      rw [← mlq_f (show ¬ dZ D i 0 = S 155 by omega)]
      rw [← mpv_f (show ¬ dZ D i 0 = S 155 by omega)] at hsm
      exact ih (i + 1) _ σ (by omega) Ms Mr htr hdp hsm htn h
set_option maxRecDepth 20000 in
theorem t_X10_by0 {g : fGP} {d : Nat} {σ : fAH} {Q : fRes → fAH → Prop} {D : fSD} {S : Nat → Nat} {sd : Int32} {fl dp : Nat} (Ms : fMs g σ) (Mr : fMr σ D S sd) (hD : fWD D) (hW : fWS D S) (hC : fWC D S) (hn : S 155 < 30) (hN : fWN S 0 0) (htr : fI σ 89 31 = nI (bn false)) (hdp : fI σ 89 21 = nI dp) (hdeep : dp + mon fl (dT D 1) 0 + 1 ≤ 20) (htn : fI σ 89 33 = nI 0) (hf : fl < 4096) (h : ∀ σ', fSm (fBA dp) σ σ' → fMr σ' D S sd → fI σ' 89 = fI σ 89 → fJ σ' 89 32 = fJ σ 89 32 → Q (.inl (some (.long (nL (mby D (lf0 D (S 151)) fl S))))) σ') : fEv g (d + 17) mX10_byOdds 0 (fent [.ref 89, .int (nI fl)] 9) [] σ Q := by
  obtain ⟨hd, hsm⟩ : ∃ hd, fJ σ 89 32 = hd := ⟨_, rfl⟩
  show fEv g (d + 17) mX10_byOdds 0 [some (.ref 89), some (.int (nI fl)), none, none, none, none, none, none, none] [] σ Q
  refine e_bipush (nI 8) dX10_byOdds_0 (by decide) ?_
  refine e_istore_n (L1 := [some (.ref 89), some (.int (nI fl)), some (.int (nI 8)), none, none, none, none, none, none]) dX10_byOdds_2 rfl (by decide) rfl ?_
  refine e_aload_n dX10_byOdds_3 rfl rfl ?_
  refine e_getL dX10_byOdds_4 fl_RX10_271 (Ms.s 89 rfl) (Ms.n (by decide)) rfl ?_
  refine e_long (hd) hsm ?_
  refine e_lstore_n (L1 := [some (.ref 89), some (.int (nI fl)), some (.int (nI 8)), some (.long hd), none, none, none, none, none]) dX10_byOdds_7 rfl (by decide) rfl ?_
  refine e_aload_n dX10_byOdds_8 rfl rfl ?_
  refine e_lconst 0 dX10_byOdds_9 (by decide) ?_
  refine e_long (nL 0) rfl ?_
  refine e_putL dX10_byOdds_10 fl_RX10_271 (Ms.s 89 rfl) (Ms.n (by decide)) rfl rfl ?_
  refine e_iconst (nI 0) dX10_byOdds_13 (by decide) ?_
  refine e_istore (L1 := [some (.ref 89), some (.int (nI fl)), some (.int (nI 8)), some (.long hd), none, none, none, some (.int (nI 0)), none]) dX10_byOdds_14 (by decide) rfl ?_
  have Sm1 : fSm (fBA dp) σ (fsJ σ 89 32 (nL 0)) := fSm_J (Or.inl rfl)
  have Mr1 : fMr (fsJ σ 89 32 (nL 0)) D S sd := Mr
  have hI1 : fI (fsJ σ 89 32 (nL 0)) 89 = fI σ 89 := rfl
  have hJ1 : fJ (fsJ σ 89 32 (nL 0)) 89 32 = nL 0 := by rw [fJ_J, if_pos ⟨rfl, rfl⟩]
  generalize fsJ σ 89 32 (nL 0) = σ1 at Sm1 Mr1 hI1 hJ1 ⊢
  exact l_X10_by0 hD hW hC hn hN hdeep hf (dT D 6) 0 none σ1 (by omega) (Ms.sm Sm1) Mr1 ((congrFun hI1 31).trans htr) ((congrFun hI1 21).trans hdp) hJ1 ((congrFun hI1 33).trans htn) (fun σ' Sm' Mr' hI' hJ' => h σ' (Sm1.tr Sm') Mr' (hI'.trans hI1) (hJ'.trans hsm.symm))
set_option maxRecDepth 20000 in
theorem l_X10_bestNext {g : fGP} {d : Nat} {Q : fRes → fAH → Prop} {D : fSD} {S : Nat → Nat} {sd : Int32} {dp : Nat} {tn : Bool} (hD : fWD D) (hW : fWS D S) (hC : fWC D S) (hn : S 155 < 30) (hN : fWN S 0 0) (hdeep : dp + 4 ≤ 20) : ∀ (n i : Nat) (b : Nat) (o5 o6 o7 : Option Value) (σ : fAH), i + n = 8 → fMs g σ → fMr σ D S sd → fI σ 89 31 = nI (bn false) → fI σ 89 21 = nI dp → fI σ 89 33 = nI 0 → b ≤ 512 * 891 → (∀ σ', fSm (fBA dp) σ σ' → fMr σ' D S sd → (∀ q, q ≠ 33 → fI σ' 89 q = fI σ 89 q) → fI σ' 89 33 = nI (bn tn) → fJ σ' 89 32 = fJ σ 89 32 → Q (.inl (some (.long (nL ((mfo (mset D S) (mG D (lf0 D (S 151)) S) n i (some b) 0).1.getD 0))))) σ') → fEv g (d + 18) mX10_bestNext 15 [some (.ref 89), some (.long (nL b)), none, some (.int (nI (bn tn))), some (.int (nI i)), o5, o6, o7] [] σ Q := by
  intro n
  induction n with
  | zero =>
    intro i b o5 o6 o7 σ hin Ms Mr htr hdp htn hb h
    obtain ⟨t0, t1, t2, t3, t4, t5, t6⟩ := id hD.1
    have n5 := hW.2.2.2.2
    refine e_iload dX10_bestNext_15 rfl ?_
    refine e_bipush (nI 8) dX10_bestNext_17 (by decide) ?_
    refine e_icmp_ge 78 dX10_bestNext_19 (by decide) (fun cz => ?_) (fun cz => absurd ((nI_le' (by omega) (by omega)).mpr (by omega)) cz)
    refine e_aload_n dX10_bestNext_78 rfl rfl ?_
    refine e_iload_n dX10_bestNext_79 rfl rfl ?_
    refine e_putZ dX10_bestNext_80 fl_RX10_262 (Ms.s 89 rfl) (Ms.n (by decide)) rfl rfl (by cases tn; exact Or.inl rfl; exact Or.inr rfl) ?_
    refine e_lload_n dX10_bestNext_83 rfl rfl ?_
    exact e_lreturn dX10_bestNext_84 rfl (h _ (fSm_I (Or.inl rfl)) (Mr.smm (A := fun a => a = 89) (fSm_I rfl) hD (fun i h1 h2 => by omega)) (fun q hq => by rw [fI_I, if_neg (by omega)]) (by rw [fI_I, if_pos ⟨rfl, rfl⟩]) rfl)
  | succ n ih =>
    intro i b o5 o6 o7 σ hin Ms Mr htr hdp htn hb h
    obtain ⟨t0, t1, t2, t3, t4, t5, t6⟩ := id hD.1
    have n5 := hW.2.2.2.2
    refine e_iload dX10_bestNext_15 rfl ?_
    refine e_bipush (nI 8) dX10_bestNext_17 (by decide) ?_
    refine e_icmp_ge 78 dX10_bestNext_19 (by decide) (fun cz => absurd ((nI_le' (by omega) (by omega)).mp cz) (by omega)) (fun cz => ?_)
    refine e_aload_n dX10_bestNext_22 rfl rfl ?_
    refine e_iload dX10_bestNext_23 rfl ?_
    refine e_callV (k := 89) [.int (nI i)] dX10_bestNext_25 cc_X10_setOf lk_RX10_283 im_X10_setOf se_X10_setOf (by decide) (Ms.s 89 rfl) (Ms.n (by decide)) rfl (Nat.le_of_ble_eq_true rfl) (Nat.le_of_ble_eq_true rfl) ?_
    refine t_X10_setOf Ms Mr hD hW (by omega) (fK_i ?_)
    show fEv g _ mX10_bestNext 28 [some (.ref 89), some (.long (nL b)), none, some (.int (nI (bn tn))), some (.int (nI i)), o5, o6, o7] [.int (mo (mset D S i))] σ Q
    cases hs : mset D S i with
    | none =>
      refine e_int (-1) rfl ?_
      rw [mfo_n hs] at h
      refine e_istore (L1 := [some (.ref 89), some (.long (nL b)), none, some (.int (nI (bn tn))), some (.int (nI i)), some (.int ((-1))), o6, o7]) dX10_bestNext_28 (by decide) rfl ?_
      refine e_iload dX10_bestNext_30 rfl ?_
      refine e_iconst (-1) dX10_bestNext_32 (by decide) ?_
      refine e_icmp_ne 39 dX10_bestNext_33 (by decide) (fun c => absurd rfl c) (fun _ => ?_)
      refine e_goto 72 dX10_bestNext_36 (by decide) ?_
      refine e_iinc (v := nI (i + 1)) (L1 := [some (.ref 89), some (.long (nL b)), none, some (.int (nI (bn tn))), some (.int (nI (i + 1))), some (.int ((-1))), o6, o7]) dX10_bestNext_72 rfl (show nI i + Int32.ofInt 1 = nI (i + 1) from nI_add i 1) (by decide) rfl ?_
      refine e_goto 15 dX10_bestNext_75 (by decide) ?_
      exact ih (i + 1) b _ _ _ σ (by omega) Ms Mr htr hdp htn hb h
    | some f =>
      refine e_int (nI f) rfl ?_
      have me := mset_e hD (by omega) hs
      have mh := mset_hi hs
      have f12 : f < 4096 := Nat.lt_of_lt_of_le mh.2 (Nat.pow_le_pow_right (n := 2) (by decide) t1)
      have gl := mG_le (lf := (lf0 D (S 151))) (B := 891) hD hW hC hn mh.1 me.2.2.1 (fun S9 hR => by have := mend_p hD hR.1 hR.2.1; unfold lf0; rw [hR.2.2.2.1] at this; omega)
      refine e_istore (L1 := [some (.ref 89), some (.long (nL b)), none, some (.int (nI (bn tn))), some (.int (nI i)), some (.int (nI f)), o6, o7]) dX10_bestNext_28 (by decide) rfl ?_
      refine e_iload dX10_bestNext_30 rfl ?_
      refine e_iconst (-1) dX10_bestNext_32 (by decide) ?_
      refine e_icmp_ne 39 dX10_bestNext_33 (by decide) (fun _ => ?_) (fun c => absurd c (nI_m1 (by omega)))
      refine e_aload_n dX10_bestNext_39 rfl rfl ?_
      refine e_iload dX10_bestNext_40 rfl ?_
      refine e_callV (k := 89) [.int (nI f)] dX10_bestNext_42 cc_X10_byOdds lk_RX10_286 im_X10_byOdds se_X10_byOdds (by decide) (Ms.s 89 rfl) (Ms.n (by decide)) rfl (Nat.le_of_ble_eq_true rfl) (Nat.le_of_ble_eq_true rfl) ?_
      refine t_X10_by0 (dp := dp) Ms Mr hD hW hC hn hN htr hdp (by rw [mon_e hD mh.1]; omega) htn (by omega) (fun σ1 Smx1 Mr1 hI1 hJ1 => ?_)
      show fEv g _ mX10_bestNext 45 [some (.ref 89), some (.long (nL b)), none, some (.int (nI (bn tn))), some (.int (nI i)), some (.int (nI f)), o6, o7] [.long (nL (mby D (lf0 D (S 151)) f S))] σ1 Q
      have Sm1 := (Smx1.to (B := fBA dp) (fun a q => by unfold fBA at q; unfold fBA; omega))
      have Ms1 := Ms.sm Sm1
      have hX1 : ∀ q, q ≠ 21 → fI σ1 89 q = fI σ 89 q := fun q hq => congrFun hI1 q
      have hdp1 := (congrFun hI1 21).trans hdp
      skip
      have hW1 := hW
      refine e_iconst (nI 3) dX10_bestNext_45 (by decide) ?_
      refine e_iload dX10_bestNext_46 rfl ?_
      refine e_callS [.int (nI f)] dX10_bestNext_48 cc_X10_ones lk_RX10_218 st_X10_ones in_RX10 rfl (Nat.le_of_ble_eq_true rfl) (Nat.le_of_ble_eq_true rfl) ?_
      refine t_X10_ones (by omega) (fK_i ?_)
      show fEv g _ mX10_bestNext 51 [some (.ref 89), some (.long (nL b)), none, some (.int (nI (bn tn))), some (.int (nI i)), some (.int (nI f)), o6, o7] [.int (nI (mon f 12 0)), .int (nI 3), .long (nL (mby D (lf0 D (S 151)) f S))] σ1 Q
      refine e_isub dX10_bestNext_51 ?_
      refine e_int (nI (3 - mon f 12 0)) (pk_sub (by omega)) ?_
      refine e_callS [.int (nI (3 - mon f 12 0))] dX10_bestNext_52 cc_X10_fours lk_RX10_290 st_X10_fours in_RX10 rfl (Nat.le_of_ble_eq_true rfl) (Nat.le_of_ble_eq_true rfl) ?_
      refine t_X10_fours (by omega) (fK_i ?_)
      show fEv g _ mX10_bestNext 55 [some (.ref 89), some (.long (nL b)), none, some (.int (nI (bn tn))), some (.int (nI i)), some (.int (nI f)), o6, o7] [.long (nL (4 ^ (3 - mon f 12 0))), .long (nL (mby D (lf0 D (S 151)) f S))] σ1 Q
      refine e_lmul dX10_bestNext_55 ?_
      refine e_long (nL ((mby D (lf0 D (S 151)) f S) * (4 ^ (3 - mon f 12 0)))) (nL_mul (mby D (lf0 D (S 151)) f S) (4 ^ (3 - mon f 12 0))) ?_
      refine e_long (nL (mG D (lf0 D (S 151)) S f)) rfl ?_
      refine e_lstore (L1 := [some (.ref 89), some (.long (nL b)), none, some (.int (nI (bn tn))), some (.int (nI i)), some (.int (nI f)), some (.long (nL (mG D (lf0 D (S 151)) S f))), none]) dX10_bestNext_56 (by decide) rfl ?_
      refine e_lload dX10_bestNext_58 rfl ?_
      refine e_lload_n dX10_bestNext_60 rfl rfl ?_
      refine e_lcmp dX10_bestNext_61 ?_
      refine e_if_le 70 dX10_bestNext_62 (by decide) (fun c62 => ?_) (fun c62 => ?_)
      · rw [lc_le, nL_lt (by omega) (by omega)] at c62
        refine e_lload_n dX10_bestNext_70 rfl rfl ?_
        refine e_lstore_n (L1 := [some (.ref 89), some (.long (nL b)), none, some (.int (nI (bn tn))), some (.int (nI i)), some (.int (nI f)), some (.long (nL (mG D (lf0 D (S 151)) S f))), none]) dX10_bestNext_71 rfl (by decide) rfl ?_
        refine e_iinc (v := nI (i + 1)) (L1 := [some (.ref 89), some (.long (nL b)), none, some (.int (nI (bn tn))), some (.int (nI (i + 1))), some (.int (nI f)), some (.long (nL (mG D (lf0 D (S 151)) S f))), none]) dX10_bestNext_72 rfl (show nI i + Int32.ofInt 1 = nI (i + 1) from nI_add i 1) (by decide) rfl ?_
        refine e_goto 15 dX10_bestNext_75 (by decide) ?_
        have hbt : mbt (some b) ((mG D (lf0 D (S 151)) S) f) = false := decide_eq_false (by omega)
        rw [mfo_f hs hbt] at h
        exact ih (i + 1) b _ _ _ σ1 (by omega) Ms1 Mr1 ((congrFun hI1 31).trans htr) hdp1 ((congrFun hI1 33).trans htn) (by omega) (fun σ' Sm' Mr' hq h33 hJ' => h σ' (Sm1.tr Sm') Mr' (fun q h9 => (hq q h9).trans (congrFun hI1 q)) h33 (hJ'.trans hJ1))
      · rw [lc_le, nL_lt (by omega) (by omega)] at c62
        refine e_lload dX10_bestNext_65 rfl ?_
        refine e_goto 71 dX10_bestNext_67 (by decide) ?_
        refine e_lstore_n (L1 := [some (.ref 89), some (.long (nL (mG D (lf0 D (S 151)) S f))), none, some (.int (nI (bn tn))), some (.int (nI i)), some (.int (nI f)), some (.long (nL (mG D (lf0 D (S 151)) S f))), none]) dX10_bestNext_71 rfl (by decide) rfl ?_
        refine e_iinc (v := nI (i + 1)) (L1 := [some (.ref 89), some (.long (nL (mG D (lf0 D (S 151)) S f))), none, some (.int (nI (bn tn))), some (.int (nI (i + 1))), some (.int (nI f)), some (.long (nL (mG D (lf0 D (S 151)) S f))), none]) dX10_bestNext_72 rfl (show nI i + Int32.ofInt 1 = nI (i + 1) from nI_add i 1) (by decide) rfl ?_
        refine e_goto 15 dX10_bestNext_75 (by decide) ?_
        have hbt : mbt (some b) ((mG D (lf0 D (S 151)) S) f) = true := decide_eq_true (by omega)
        rw [mfo_t hs hbt] at h
        rw [mfo_s _ _ _ f 0] at h
        exact ih (i + 1) (mG D (lf0 D (S 151)) S f) _ _ _ σ1 (by omega) Ms1 Mr1 ((congrFun hI1 31).trans htr) hdp1 ((congrFun hI1 33).trans htn) (by omega) (fun σ' Sm' Mr' hq h33 hJ' => h σ' (Sm1.tr Sm') Mr' (fun q h9 => (hq q h9).trans (congrFun hI1 q)) h33 (hJ'.trans hJ1))
set_option maxRecDepth 20000 in
theorem t_X10_bestNext {g : fGP} {d : Nat} {σ : fAH} {Q : fRes → fAH → Prop} {D : fSD} {S : Nat → Nat} {sd : Int32} {dp : Nat} {tn : Bool} (Ms : fMs g σ) (Mr : fMr σ D S sd) (hD : fWD D) (hW : fWS D S) (hC : fWC D S) (hn : S 155 < 30) (hN : fWN S 0 0) (htr : fI σ 89 31 = nI (bn false)) (hdp : fI σ 89 21 = nI dp) (hdeep : dp + 4 ≤ 20) (htn : fI σ 89 33 = nI (bn tn)) (h : ∀ σ', fSm (fBA dp) σ σ' → fMr σ' D S sd → fI σ' 89 = fI σ 89 → fJ σ' 89 32 = fJ σ 89 32 → Q (.inl (some (.long (nL (mbn D S))))) σ') : fEv g (d + 18) mX10_bestNext 0 (fent [.ref 89] 8) [] σ Q := by
  show fEv g (d + 18) mX10_bestNext 0 [some (.ref 89), none, none, none, none, none, none, none] [] σ Q
  refine e_lconst 0 dX10_bestNext_0 (by decide) ?_
  refine e_long (nL 0) rfl ?_
  refine e_lstore_n (L1 := [some (.ref 89), some (.long (nL 0)), none, none, none, none, none, none]) dX10_bestNext_1 rfl (by decide) rfl ?_
  refine e_aload_n dX10_bestNext_2 rfl rfl ?_
  refine e_getZ dX10_bestNext_3 fl_RX10_262 (Ms.s 89 rfl) (Ms.n (by decide)) rfl ?_
  refine e_int (nI (bn tn)) htn ?_
  refine e_istore_n (L1 := [some (.ref 89), some (.long (nL 0)), none, some (.int (nI (bn tn))), none, none, none, none]) dX10_bestNext_6 rfl (by decide) rfl ?_
  refine e_aload_n dX10_bestNext_7 rfl rfl ?_
  refine e_iconst (nI 0) dX10_bestNext_8 (by decide) ?_
  refine e_putZ dX10_bestNext_9 fl_RX10_262 (Ms.s 89 rfl) (Ms.n (by decide)) rfl rfl (by decide) ?_
  refine e_iconst (nI 0) dX10_bestNext_12 (by decide) ?_
  refine e_istore (L1 := [some (.ref 89), some (.long (nL 0)), none, some (.int (nI (bn tn))), some (.int (nI 0)), none, none, none]) dX10_bestNext_13 (by decide) rfl ?_
  have Sm1 : fSm (fBA dp) σ (fsI σ 89 33 (nI 0)) := fSm_I (Or.inl rfl)
  have Mr1 : fMr (fsI σ 89 33 (nI 0)) D S sd := Mr.smm (A := fun a => a = 89) (fSm_I rfl) hD (fun i h1 h2 => by omega)
  have hI1 : ∀ q, q ≠ 33 → fI (fsI σ 89 33 (nI 0)) 89 q = fI σ 89 q := fun q hq => by rw [fI_I, if_neg (by omega)]
  have h33 : fI (fsI σ 89 33 (nI 0)) 89 33 = nI 0 := by rw [fI_I, if_pos ⟨rfl, rfl⟩]
  have hJ1 : fJ (fsI σ 89 33 (nI 0)) 89 32 = fJ σ 89 32 := rfl
  generalize fsI σ 89 33 (nI 0) = σ1 at Sm1 Mr1 hI1 h33 hJ1 ⊢
  exact l_X10_bestNext (tn := tn) hD hW hC hn hN hdeep 8 0 0 none none none σ1 (by omega) (Ms.sm Sm1) Mr1 ((hI1 31 (by decide)).trans htr) ((hI1 21 (by decide)).trans hdp) h33 (by omega) (fun σ' Sm' Mr' hq h9 hJ' => h σ' (Sm1.tr Sm') Mr' (by funext q; by_cases e : q = 33; rw [e, h9, htn]; exact (hq q e).trans (hI1 q e)) (hJ'.trans hJ1))
set_option maxRecDepth 20000 in
theorem l_X10_br1 {g : fGP} {D : fSD} {S0 : Nat → Nat} {fl c9 a : Nat} (hD : fWD D) (hn0 : S0 155 < 30) (ha : a = S0 151) (hf : fl < 4096) (hc9 : c9 < 100) : ∀ (n i : Nat) (Q : fRes → fAH → Prop) (d : Nat) (x3 : Int32) (o8 o9 : Option Value) (w s0 dp : Nat) (σ : fAH) (S : Nat → Nat) (sd : Int32), i + n = dT D 1 → fMs g σ → fMr σ D S sd → mR D S0 S → fWN S 0 i → fI σ 89 31 = nI (bn false) → fI σ 89 21 = nI dp → dp + mon fl n i + 5 ≤ 20 → fJ σ 89 32 = nL s0 → fI σ 89 33 = nI 1 → (∀ σ', fSm (fBA dp) σ σ' → fMr σ' D S sd → fI σ' 89 = fI σ 89 → fJ σ' 89 32 = nL (s0 + w * (mbr D (lf1 D a) fl c9 n i S)) → Q (.inl none) σ') → fEv g (d + n + 24) mX10_branches 3 [some (.ref 89), some (.int (nI fl)), some (.int (nI c9)), some (.int x3), some (.long (nL w)), none, some (.int (nI a)), some (.int (nI i)), o8, o9] [] σ Q := by
  intro n
  induction n with
  | zero =>
    intro i Q d x3 o8 o9 w s0 dp σ S sd hin Ms Mr hR0 hN htr hdp hdeep hsm htn h
    obtain ⟨t0, t1, t2, t3, t4, t5, t6⟩ := id hD.1
    obtain ⟨hW, hC, h5, h1, ho9⟩ := id hR0
    have kW := hW
    have kC := hC
    have kN := hN
    have hn : S 155 < 30 := by omega
    have n5 := hW.2.2.2.2
    have hdeep : dp + 5 ≤ 20 := hdeep
    refine e_iload dX10_branches_3 rfl ?_
    refine e_aload_n dX10_branches_5 rfl rfl ?_
    refine e_getR (q := 92) dX10_branches_6 fl_RX10_20 (Ms.s 89 rfl) (Ms.n (by decide)) rfl (Ms.r 89 10 rfl) (by unfold fscr; omega) ?_
    refine e_iconst (nI 1) dX10_branches_9 (by decide) ?_
    refine e_iaload 1 dX10_branches_10 (Ms.s 92 rfl) (Ms.n (by decide)) rfl (by omega) (by decide) ?_
    refine e_int (nI (dT D 1)) (Mr.t 1 (by omega)) ?_
    refine e_icmp_ge 29 dX10_branches_11 (by decide) (fun cz => ?_) (fun cz => absurd ((nI_le' (by omega) (by omega)).mpr (by omega)) cz)
    refine e_iload dX10_branches_29 rfl ?_
    refine e_aload_n dX10_branches_31 rfl rfl ?_
    refine e_getR (q := 92) dX10_branches_32 fl_RX10_20 (Ms.s 89 rfl) (Ms.n (by decide)) rfl (Ms.r 89 10 rfl) (by unfold fscr; omega) ?_
    refine e_iconst (nI 1) dX10_branches_35 (by decide) ?_
    refine e_iaload 1 dX10_branches_36 (Ms.s 92 rfl) (Ms.n (by decide)) rfl (by omega) (by decide) ?_
    refine e_int (nI (dT D 1)) (Mr.t 1 (by omega)) ?_
    refine e_icmp_ne 112 dX10_branches_37 (by decide) (fun cz => absurd ((nI_inj (by omega) (by omega)).mpr (by omega)) cz) (fun cz => ?_)
    refine e_aload_n dX10_branches_40 rfl rfl ?_
    refine e_callV (k := 89) [] dX10_branches_41 cc_X10_puts lk_RX10_253 im_X10_puts se_X10_puts (by decide) (Ms.s 89 rfl) (Ms.n (by decide)) rfl (Nat.le_of_ble_eq_true rfl) (Nat.le_of_ble_eq_true rfl) ?_
    refine t_X10_puts Ms Mr hD (by omega) hdp (fun σ1 Smx1 Mr1 hR1 hdp1 m91 => ?_)
    show fEv g _ mX10_branches 44 [some (.ref 89), some (.int (nI fl)), some (.int (nI c9)), some (.int x3), some (.long (nL w)), none, some (.int (nI a)), some (.int (nI i)), o8, o9] [] σ1 Q
    have Sm1 := (Smx1.to (B := fBA dp) (fun a q => by unfold fPA at q; unfold fBA; omega))
    have Ms1 := Ms.sm Sm1
    have hX1 : ∀ q, q ≠ 21 → fI σ1 89 q = fI σ 89 q := m91.1
    skip
    have hsm1 := (congrFun m91.2 32).trans hsm
    have hW1 := hW
    have hC1 := hC
    have hN1 := hN
    refine e_aload_n dX10_branches_44 rfl rfl ?_
    refine e_callV (k := 89) [] dX10_branches_45 cc_X10_sledges lk_RX10_234 im_X10_sledges se_X10_sledges (by decide) (Ms1.s 89 rfl) (Ms1.n (by decide)) rfl (Nat.le_of_ble_eq_true rfl) (Nat.le_of_ble_eq_true rfl) ?_
    refine t_X10_sledges Ms1 Mr1 hD hW1 hC1 (hN1.mono (Nat.le_refl _) (by omega)) (fun σ2 Smx2 Mr2 => ?_)
    show fEv g _ mX10_branches 48 [some (.ref 89), some (.int (nI fl)), some (.int (nI c9)), some (.int x3), some (.long (nL w)), none, some (.int (nI a)), some (.int (nI i)), o8, o9] [] σ2 Q
    have Sm2 := Sm1.tr (Smx2.to (B := fBA dp) (fun a q => by unfold fRA9 at q; unfold fBA; omega))
    have Ms2 := Ms.sm Sm2
    have hX2 : ∀ q, q ≠ 21 → fI σ2 89 q = fI σ 89 q := fun q hq => (Smx2.i (by unfold fRA9; omega) q).trans (hX1 q hq)
    have hdp2 := (Smx2.i (by unfold fRA9; omega) 21).trans hdp1
    have hsm2 := (Smx2.j (by unfold fRA9; omega) 32).trans hsm1
    have hR2 := hR1.sm Smx2 (by unfold fRA9; omega)
    have w9 := fWS_end hD hW hC hn
    have hW2 := w9.1
    have hC2 := w9.2.1
    have pp := mend_p hD hW hC
    refine e_aload_n dX10_branches_48 rfl rfl ?_
    refine e_getR (q := 197) dX10_branches_49 fl_RX10_49 (Ms2.s 89 rfl) (Ms2.n (by decide)) rfl (Ms2.r 89 19 rfl) (by unfold fscr; omega) ?_
    refine e_sipush (nI 151) dX10_branches_52 (by decide) ?_
    refine e_iaload 151 dX10_branches_55 (Ms2.s 197 rfl) (Ms2.n (by decide)) rfl (by omega) (by decide) ?_
    refine e_int (nI ((mend D S) 151)) (Mr2.s 151 (by omega)) ?_
    refine e_iload dX10_branches_56 rfl ?_
    refine e_isub dX10_branches_58 ?_
    refine e_int (nI (((mend D S) 151) - a)) (pk_sub (by omega)) ?_
    refine e_i2l dX10_branches_59 ?_
    refine e_long (nL (((mend D S) 151) - a)) (nL_i (by omega)) ?_
    refine e_lstore (L1 := [some (.ref 89), some (.int (nI fl)), some (.int (nI c9)), some (.int x3), some (.long (nL w)), none, some (.int (nI a)), some (.int (nI i)), some (.long (nL (((mend D S) 151) - a))), none]) dX10_branches_60 (by decide) rfl ?_
    refine e_aload_n dX10_branches_62 rfl rfl ?_
    refine e_getZ dX10_branches_63 fl_RX10_262 (Ms2.s 89 rfl) (Ms2.n (by decide)) rfl ?_
    refine e_int (nI 1) ((hX2 33 (by decide)).trans htn) ?_
    refine e_if_eq 93 dX10_branches_66 (by decide) (fun c => absurd c (by decide)) (fun _ => ?_)
    refine e_ldc2 (512) dX10_branches_69 kc_RX10_265 ?_
    refine e_long (nL 512) rfl ?_
    refine e_lload dX10_branches_72 rfl ?_
    refine e_lmul dX10_branches_74 ?_
    refine e_long (nL (512 * (((mend D S) 151) - a))) (nL_mul 512 (((mend D S) 151) - a)) ?_
    refine e_aload_n dX10_branches_75 rfl rfl ?_
    refine e_callV (k := 89) [] dX10_branches_76 cc_X10_isOver lk_RX10_224 im_X10_isOver se_X10_isOver (by decide) (Ms2.s 89 rfl) (Ms2.n (by decide)) rfl (Nat.le_of_ble_eq_true rfl) (Nat.le_of_ble_eq_true rfl) ?_
    refine t_X10_isOver Ms2 Mr2 hD hW2 (fK_i ?_)
    show fEv g _ mX10_branches 79 [some (.ref 89), some (.int (nI fl)), some (.int (nI c9)), some (.int x3), some (.long (nL w)), none, some (.int (nI a)), some (.int (nI i)), some (.long (nL (((mend D S) 151) - a))), none] [.int (nI (bn (decide ((mend D S) 155 = 30)))), .long (nL (512 * (((mend D S) 151) - a)))] σ2 Q
    refine e_if_eq 86 dX10_branches_79 (by decide) (fun c79 => ?_) (fun c79 => ?_)
    · have c79 := bn0 c79
      refine e_aload_n dX10_branches_86 rfl rfl ?_
      refine e_callV (k := 89) [] dX10_branches_87 cc_X10_bestNext lk_RX10_267 im_X10_bestNext se_X10_bestNext (by decide) (Ms2.s 89 rfl) (Ms2.n (by decide)) rfl (Nat.le_of_ble_eq_true rfl) (Nat.le_of_ble_eq_true rfl) ?_
      refine t_X10_bestNext (dp := dp + 1) (tn := true) Ms2 Mr2 hD hW2 hC2 (by have := w9.1.2.2.2.2; have := of_decide_eq_false c79; omega) (fWN_end hD kW kC (kN.mono (Nat.le_refl _) (by omega))) ((hX2 31 (by decide)).trans htr) hdp2 (by omega) ((hX2 33 (by decide)).trans htn) (fun σ3 Smx3 Mr3 hI3 hJ3 => ?_)
      show fEv g _ mX10_branches 90 [some (.ref 89), some (.int (nI fl)), some (.int (nI c9)), some (.int x3), some (.long (nL w)), none, some (.int (nI a)), some (.int (nI i)), some (.long (nL (((mend D S) 151) - a))), none] [.long (nL (mbn D (mend D S))), .long (nL (512 * (((mend D S) 151) - a)))] σ3 Q
      have Sm3 := Sm2.tr (Smx3.to (B := fBA dp) (fun a q => by unfold fBA at q; unfold fBA; omega))
      have Ms3 := Ms.sm Sm3
      have hX3 : ∀ q, q ≠ 21 → fI σ3 89 q = fI σ 89 q := fun q hq => (congrFun hI3 q).trans (hX2 q hq)
      have hdp3 := (congrFun hI3 21).trans hdp2
      have hsm3 := hJ3.trans hsm2
      have hR3 := hR2.sm Smx3 (by unfold fBA; omega)
      refine e_ladd dX10_branches_90 ?_
      refine e_long (nL (512 * (((mend D S) 151) - a) + (mbn D (mend D S)))) (nL_add (512 * (((mend D S) 151) - a)) (mbn D (mend D S))) ?_
      refine e_lstore (L1 := [some (.ref 89), some (.int (nI fl)), some (.int (nI c9)), some (.int x3), some (.long (nL w)), none, some (.int (nI a)), some (.int (nI i)), some (.long (nL (512 * (((mend D S) 151) - a) + (mbn D (mend D S))))), none]) dX10_branches_91 (by decide) rfl ?_
      refine e_aload_n dX10_branches_93 rfl rfl ?_
      refine e_dup dX10_branches_94 rfl ?_
      refine e_getL dX10_branches_95 fl_RX10_271 (Ms3.s 89 rfl) (Ms3.n (by decide)) rfl ?_
      refine e_long (nL s0) hsm3 ?_
      refine e_lload dX10_branches_98 rfl ?_
      refine e_lload dX10_branches_100 rfl ?_
      refine e_lmul dX10_branches_102 ?_
      refine e_long (nL (w * (512 * (((mend D S) 151) - a) + (mbn D (mend D S))))) (nL_mul w (512 * (((mend D S) 151) - a) + (mbn D (mend D S)))) ?_
      refine e_ladd dX10_branches_103 ?_
      refine e_long (nL (s0 + (w * (512 * (((mend D S) 151) - a) + (mbn D (mend D S)))))) (nL_add s0 (w * (512 * (((mend D S) 151) - a) + (mbn D (mend D S))))) ?_
      refine e_putL dX10_branches_104 fl_RX10_271 (Ms3.s 89 rfl) (Ms3.n (by decide)) rfl rfl ?_
      have Smx4 : fSm fTA σ3 (fsJ σ3 89 32 (nL (s0 + (w * (512 * (((mend D S) 151) - a) + (mbn D (mend D S))))))) := fSm_J (Or.inl rfl)
      have Mr4 : fMr (fsJ σ3 89 32 (nL (s0 + (w * (512 * (((mend D S) 151) - a) + (mbn D (mend D S))))))) D (mend D S) sd := Mr3
      have hR4 : fRow (fsJ σ3 89 32 (nL (s0 + (w * (512 * (((mend D S) 151) - a) + (mbn D (mend D S))))))) dp S sd := hR3
      have hXy4 : fI (fsJ σ3 89 32 (nL (s0 + (w * (512 * (((mend D S) 151) - a) + (mbn D (mend D S))))))) 89 = fI σ3 89 := rfl
      have hJy4 : fJ (fsJ σ3 89 32 (nL (s0 + (w * (512 * (((mend D S) 151) - a) + (mbn D (mend D S))))))) 89 32 = nL (s0 + (w * (512 * (((mend D S) 151) - a) + (mbn D (mend D S))))) := by rw [fJ_J, if_pos ⟨rfl, rfl⟩]
      generalize fsJ σ3 89 32 (nL (s0 + (w * (512 * (((mend D S) 151) - a) + (mbn D (mend D S)))))) = σ4 at Smx4 Mr4 hR4 hXy4 hJy4 ⊢
      have Sm4 := Sm3.tr (Smx4.to (B := fBA dp) (fun a q => by unfold fTA at q; unfold fBA; omega))
      have Ms4 := Ms.sm Sm4
      have hX4 : ∀ q, q ≠ 21 → fI σ4 89 q = fI σ 89 q := fun q hq => (congrFun hXy4 q).trans (hX3 q hq)
      have hdp4 := (congrFun hXy4 21).trans hdp3
      have hsm4 := hJy4
      refine e_aload_n dX10_branches_107 rfl rfl ?_
      refine e_callV (k := 89) [] dX10_branches_108 cc_X10_takes lk_RX10_259 im_X10_takes se_X10_takes (by decide) (Ms4.s 89 rfl) (Ms4.n (by decide)) rfl (Nat.le_of_ble_eq_true rfl) (Nat.le_of_ble_eq_true rfl) ?_
      refine t_X10_takes Ms4 Mr4 hD (by omega) hdp4 hR4 (fun σ5 Smx5 Mr5 hdp5 m95 => ?_)
      show fEv g _ mX10_branches 111 [some (.ref 89), some (.int (nI fl)), some (.int (nI c9)), some (.int x3), some (.long (nL w)), none, some (.int (nI a)), some (.int (nI i)), some (.long (nL (512 * (((mend D S) 151) - a) + (mbn D (mend D S))))), none] [] σ5 Q
      have Sm5 := Sm4.tr (Smx5.to (B := fBA dp) (fun a q => by unfold fTA at q; unfold fBA; omega))
      have Ms5 := Ms.sm Sm5
      have hX5 : ∀ q, q ≠ 21 → fI σ5 89 q = fI σ 89 q := fun q hq => (m95.1 q hq).trans (hX4 q hq)
      skip
      have hsm5 := (congrFun m95.2 32).trans hsm4
      have hW5 := hW
      have hC5 := hC
      have hN5 := hN
      have hI9 : fI σ5 89 = fI σ 89 := by funext q; by_cases e : q = 21; rw [e, hdp5, hdp]; exact hX5 q e
      have hl9 : lf1 D a S = 512 * (mend D S 151 - a) + mbn D (mend D S) := by unfold lf1; rw [if_neg (of_decide_eq_false c79)]
      have h9 : _ := h σ5 Sm5 Mr5 hI9
      rw [show mbr D (lf1 D a) fl c9 0 i S = lf1 D a S from rfl, hl9] at h9
      exact e_return dX10_branches_111 rfl (h9 hsm5)
    · have c79 := bn1 c79
      refine e_lconst 0 dX10_branches_82 (by decide) ?_
      refine e_long (nL 0) rfl ?_
      refine e_goto 90 dX10_branches_83 (by decide) ?_
      refine e_ladd dX10_branches_90 ?_
      refine e_long (nL (512 * (((mend D S) 151) - a) + 0)) (nL_add (512 * (((mend D S) 151) - a)) 0) ?_
      refine e_lstore (L1 := [some (.ref 89), some (.int (nI fl)), some (.int (nI c9)), some (.int x3), some (.long (nL w)), none, some (.int (nI a)), some (.int (nI i)), some (.long (nL (512 * (((mend D S) 151) - a) + 0))), none]) dX10_branches_91 (by decide) rfl ?_
      refine e_aload_n dX10_branches_93 rfl rfl ?_
      refine e_dup dX10_branches_94 rfl ?_
      refine e_getL dX10_branches_95 fl_RX10_271 (Ms2.s 89 rfl) (Ms2.n (by decide)) rfl ?_
      refine e_long (nL s0) hsm2 ?_
      refine e_lload dX10_branches_98 rfl ?_
      refine e_lload dX10_branches_100 rfl ?_
      refine e_lmul dX10_branches_102 ?_
      refine e_long (nL (w * (512 * (((mend D S) 151) - a) + 0))) (nL_mul w (512 * (((mend D S) 151) - a) + 0)) ?_
      refine e_ladd dX10_branches_103 ?_
      refine e_long (nL (s0 + (w * (512 * (((mend D S) 151) - a) + 0)))) (nL_add s0 (w * (512 * (((mend D S) 151) - a) + 0))) ?_
      refine e_putL dX10_branches_104 fl_RX10_271 (Ms2.s 89 rfl) (Ms2.n (by decide)) rfl rfl ?_
      have Smx6 : fSm fTA σ2 (fsJ σ2 89 32 (nL (s0 + (w * (512 * (((mend D S) 151) - a) + 0))))) := fSm_J (Or.inl rfl)
      have Mr6 : fMr (fsJ σ2 89 32 (nL (s0 + (w * (512 * (((mend D S) 151) - a) + 0))))) D (mend D S) sd := Mr2
      have hR6 : fRow (fsJ σ2 89 32 (nL (s0 + (w * (512 * (((mend D S) 151) - a) + 0))))) dp S sd := hR2
      have hXy6 : fI (fsJ σ2 89 32 (nL (s0 + (w * (512 * (((mend D S) 151) - a) + 0))))) 89 = fI σ2 89 := rfl
      have hJy6 : fJ (fsJ σ2 89 32 (nL (s0 + (w * (512 * (((mend D S) 151) - a) + 0))))) 89 32 = nL (s0 + (w * (512 * (((mend D S) 151) - a) + 0))) := by rw [fJ_J, if_pos ⟨rfl, rfl⟩]
      generalize fsJ σ2 89 32 (nL (s0 + (w * (512 * (((mend D S) 151) - a) + 0)))) = σ6 at Smx6 Mr6 hR6 hXy6 hJy6 ⊢
      have Sm6 := Sm2.tr (Smx6.to (B := fBA dp) (fun a q => by unfold fTA at q; unfold fBA; omega))
      have Ms6 := Ms.sm Sm6
      have hX6 : ∀ q, q ≠ 21 → fI σ6 89 q = fI σ 89 q := fun q hq => (congrFun hXy6 q).trans (hX2 q hq)
      have hdp6 := (congrFun hXy6 21).trans hdp2
      have hsm6 := hJy6
      refine e_aload_n dX10_branches_107 rfl rfl ?_
      refine e_callV (k := 89) [] dX10_branches_108 cc_X10_takes lk_RX10_259 im_X10_takes se_X10_takes (by decide) (Ms6.s 89 rfl) (Ms6.n (by decide)) rfl (Nat.le_of_ble_eq_true rfl) (Nat.le_of_ble_eq_true rfl) ?_
      refine t_X10_takes Ms6 Mr6 hD (by omega) hdp6 hR6 (fun σ7 Smx7 Mr7 hdp7 m97 => ?_)
      show fEv g _ mX10_branches 111 [some (.ref 89), some (.int (nI fl)), some (.int (nI c9)), some (.int x3), some (.long (nL w)), none, some (.int (nI a)), some (.int (nI i)), some (.long (nL (512 * (((mend D S) 151) - a) + 0))), none] [] σ7 Q
      have Sm7 := Sm6.tr (Smx7.to (B := fBA dp) (fun a q => by unfold fTA at q; unfold fBA; omega))
      have Ms7 := Ms.sm Sm7
      have hX7 : ∀ q, q ≠ 21 → fI σ7 89 q = fI σ 89 q := fun q hq => (m97.1 q hq).trans (hX6 q hq)
      skip
      have hsm7 := (congrFun m97.2 32).trans hsm6
      have hW7 := hW
      have hC7 := hC
      have hN7 := hN
      have hI9 : fI σ7 89 = fI σ 89 := by funext q; by_cases e : q = 21; rw [e, hdp7, hdp]; exact hX7 q e
      have hl9 : lf1 D a S = 512 * (mend D S 151 - a) + 0 := by unfold lf1; rw [if_pos (of_decide_eq_true c79)]
      have h9 : _ := h σ7 Sm7 Mr7 hI9
      rw [show mbr D (lf1 D a) fl c9 0 i S = lf1 D a S from rfl, hl9] at h9
      exact e_return dX10_branches_111 rfl (h9 hsm7)
  | succ n ih =>
    intro i Q d x3 o8 o9 w s0 dp σ S sd hin Ms Mr hR0 hN htr hdp hdeep hsm htn h
    obtain ⟨t0, t1, t2, t3, t4, t5, t6⟩ := id hD.1
    obtain ⟨hW, hC, h5, h1, ho9⟩ := id hR0
    have kW := hW
    have kC := hC
    have kN := hN
    have hn : S 155 < 30 := by omega
    have n5 := hW.2.2.2.2
    have hi : i < dT D 1 := by omega
    have dv : fl / 2 ^ i < 4096 := Nat.lt_of_le_of_lt (Nat.div_le_self _ _) (by omega)
    have dl := d2 (b := fl) (i := i)
    have nd := mneed_le D S i
    have sb := hD.s2 hi
    have hm9 : mon fl (n + 1) i = fl / 2 ^ i % 2 + mon fl n (i + 1) := rfl
    rw [hm9] at hdeep
    have k209 : fl / 2 ^ i % 2 = 1 → mdrw D S fl c9 i = false → fEv g (d + (n + 1) + 24) mX10_branches 209 [some (.ref 89), some (.int (nI fl)), some (.int (nI c9)), some (.int x3), some (.long (nL w)), none, some (.int (nI a)), some (.int (nI i)), o8, o9] [] σ Q := by
      intro hbit hdw
      rw [hbit] at hdeep
      have hV : mbr D (lf1 D a) fl c9 (n + 1) i S = 4 * mbr D (lf1 D a) fl c9 n (i + 1) (mq D S c9 i) := by rw [mbr, if_pos hbit, if_neg (by rw [hdw]; exact Bool.false_ne_true)]
      rw [hV] at h
      refine e_aload_n dX10_branches_209 rfl rfl ?_
      refine e_callV (k := 89) [] dX10_branches_210 cc_X10_puts lk_RX10_253 im_X10_puts se_X10_puts (by decide) (Ms.s 89 rfl) (Ms.n (by decide)) rfl (Nat.le_of_ble_eq_true rfl) (Nat.le_of_ble_eq_true rfl) ?_
      refine t_X10_puts Ms Mr hD (by omega) hdp (fun σ1 Smx1 Mr1 hR1 hdp1 m91 => ?_)
      show fEv g _ mX10_branches 213 [some (.ref 89), some (.int (nI fl)), some (.int (nI c9)), some (.int x3), some (.long (nL w)), none, some (.int (nI a)), some (.int (nI i)), o8, o9] [] σ1 Q
      have Sm1 := (Smx1.to (B := fBA dp) (fun a q => by unfold fPA at q; unfold fBA; omega))
      have Ms1 := Ms.sm Sm1
      have hX1 : ∀ q, q ≠ 21 → fI σ1 89 q = fI σ 89 q := m91.1
      skip
      have hsm1 := (congrFun m91.2 32).trans hsm
      have hW1 := hW
      have hC1 := hC
      have hN1 := hN
      refine e_aload_n dX10_branches_213 rfl rfl ?_
      refine e_iload dX10_branches_214 rfl ?_
      refine e_callV (k := 89) [.int (nI i)] dX10_branches_216 cc_X10_isAlive lk_RX10_183 im_X10_isAlive se_X10_isAlive (by decide) (Ms1.s 89 rfl) (Ms1.n (by decide)) rfl (Nat.le_of_ble_eq_true rfl) (Nat.le_of_ble_eq_true rfl) ?_
      refine t_X10_isAlive Ms1 Mr1 hD hW1 (by omega) (fK_i ?_)
      show fEv g _ mX10_branches 219 [some (.ref 89), some (.int (nI fl)), some (.int (nI c9)), some (.int x3), some (.long (nL w)), none, some (.int (nI a)), some (.int (nI i)), o8, o9] [.int (nI (bn (mal D S i)))] σ1 Q
      refine e_if_eq 251 dX10_branches_219 (by decide) (fun c219 => ?_) (fun c219 => ?_)
      · have c219 := bn0 c219
        refine e_aload_n dX10_branches_251 rfl rfl ?_
        refine e_iload dX10_branches_252 rfl ?_
        refine e_callV (k := 89) [.int (nI i)] dX10_branches_254 cc_X10_isAlive lk_RX10_183 im_X10_isAlive se_X10_isAlive (by decide) (Ms1.s 89 rfl) (Ms1.n (by decide)) rfl (Nat.le_of_ble_eq_true rfl) (Nat.le_of_ble_eq_true rfl) ?_
        refine t_X10_isAlive Ms1 Mr1 hD hW1 (by omega) (fK_i ?_)
        show fEv g _ mX10_branches 257 [some (.ref 89), some (.int (nI fl)), some (.int (nI c9)), some (.int x3), some (.long (nL w)), none, some (.int (nI a)), some (.int (nI i)), o8, o9] [.int (nI (bn (mal D S i)))] σ1 Q
        refine e_if_eq 270 dX10_branches_257 (by decide) (fun c257 => ?_) (fun c257 => ?_)
        · have c257 := bn0 c257
          have hq : mq D S c9 i = S := by unfold mq; rw [if_neg (fun q => by have q1 := q.1; have q2 := q.2; first | omega | exact absurd (c219.symm.trans q1) Bool.false_ne_true | exact absurd (c257.symm.trans q1) Bool.false_ne_true), if_neg (fun q => by have q1 := q.1; have q2 := q.2; first | omega | exact absurd (c219.symm.trans q1) Bool.false_ne_true | exact absurd (c257.symm.trans q1) Bool.false_ne_true)]
          rw [hq] at h
          refine e_aload_n dX10_branches_270 rfl rfl ?_
          refine e_iload_n dX10_branches_271 rfl rfl ?_
          refine e_iload_n dX10_branches_272 rfl rfl ?_
          refine e_iload dX10_branches_273 rfl ?_
          refine e_iconst (nI 1) dX10_branches_275 (by decide) ?_
          refine e_iadd dX10_branches_276 ?_
          refine e_int (nI (i + 1)) (nI_add i 1) ?_
          refine e_ldc2 (4) dX10_branches_277 kc_RX10_281 ?_
          refine e_long (nL 4) rfl ?_
          refine e_lload dX10_branches_280 rfl ?_
          refine e_lmul dX10_branches_282 ?_
          refine e_long (nL (4 * w)) (nL_mul 4 w) ?_
          refine e_iload dX10_branches_283 rfl ?_
          refine e_callV (k := 89) [.int (nI fl), .int (nI c9), .int (nI (i + 1)), .long (nL (4 * w)), .int (nI a)] dX10_branches_285 cc_X10_branches lk_RX10_277 im_X10_branches se_X10_branches (by decide) (Ms1.s 89 rfl) (Ms1.n (by decide)) rfl (Nat.le_of_ble_eq_true rfl) (Nat.le_of_ble_eq_true rfl) ?_
          show fEv g _ mX10_branches 0 [some (.ref 89), some (.int (nI fl)), some (.int (nI c9)), some (.int (nI (i + 1))), some (.long (nL (4 * w))), none, some (.int (nI a)), none, none, none] [] σ1 _
          refine e_iload_n dX10_branches_0 rfl rfl ?_
          refine e_istore (L1 := [some (.ref 89), some (.int (nI fl)), some (.int (nI c9)), some (.int (nI (i + 1))), some (.long (nL (4 * w))), none, some (.int (nI a)), some (.int (nI (i + 1))), none, none]) dX10_branches_1 (by decide) rfl ?_
          refine ih (i + 1) _ d _ _ _ (4 * w) (s0) (dp + 1) σ1 S sd (by omega) Ms1 Mr1 hR0 (hN.mono (Nat.le_refl _) (by omega)) ((hX1 31 (by decide)).trans htr) hdp1 (by omega) hsm1 ((hX1 33 (by decide)).trans htn) (fun σ2 Smx2 Mr2 hI2 hJ2 => ?_)
          show fEv g _ mX10_branches 288 [some (.ref 89), some (.int (nI fl)), some (.int (nI c9)), some (.int x3), some (.long (nL w)), none, some (.int (nI a)), some (.int (nI i)), o8, o9] [] σ2 Q
          have Sm2 := Sm1.tr (Smx2.to (B := fBA dp) (fun a q => by unfold fBA at q; unfold fBA; omega))
          have Ms2 := Ms.sm Sm2
          have hX2 : ∀ q, q ≠ 21 → fI σ2 89 q = fI σ 89 q := fun q hq => (congrFun hI2 q).trans (hX1 q hq)
          have hdp2 := (congrFun hI2 21).trans hdp1
          have hsm2 := hJ2
          have hR2 := hR1.sm Smx2 (by unfold fBA; omega)
          refine e_aload_n dX10_branches_288 rfl rfl ?_
          refine e_callV (k := 89) [] dX10_branches_289 cc_X10_takes lk_RX10_259 im_X10_takes se_X10_takes (by decide) (Ms2.s 89 rfl) (Ms2.n (by decide)) rfl (Nat.le_of_ble_eq_true rfl) (Nat.le_of_ble_eq_true rfl) ?_
          refine t_X10_takes Ms2 Mr2 hD (by omega) hdp2 hR2 (fun σ3 Smx3 Mr3 hdp3 m93 => ?_)
          show fEv g _ mX10_branches 292 [some (.ref 89), some (.int (nI fl)), some (.int (nI c9)), some (.int x3), some (.long (nL w)), none, some (.int (nI a)), some (.int (nI i)), o8, o9] [] σ3 Q
          have Sm3 := Sm2.tr (Smx3.to (B := fBA dp) (fun a q => by unfold fTA at q; unfold fBA; omega))
          have Ms3 := Ms.sm Sm3
          have hX3 : ∀ q, q ≠ 21 → fI σ3 89 q = fI σ 89 q := fun q hq => (m93.1 q hq).trans (hX2 q hq)
          skip
          have hsm3 := (congrFun m93.2 32).trans hsm2
          have hW3 := hW
          have hC3 := hC
          have hN3 := hN
          have hI9 : fI σ3 89 = fI σ 89 := by funext q; by_cases e : q = 21; rw [e, hdp3, hdp]; exact hX3 q e
          refine e_return dX10_branches_292 rfl (h σ3 Sm3 Mr3 hI9 (hsm3.trans ?_))
          rw [Nat.mul_comm 4 w, Nat.mul_assoc]
        · have c257 := bn1 c257
          have hal := c257
          refine e_iload_n dX10_branches_260 rfl rfl ?_
          refine e_if_le 270 dX10_branches_261 (by decide) (fun c261 => ?_) (fun c261 => ?_)
          · rw [nI_zle (by omega)] at c261
            have hq : mq D S c9 i = S := by unfold mq; rw [if_neg (fun q => by have q1 := q.1; have q2 := q.2; first | omega | exact absurd (c219.symm.trans q1) Bool.false_ne_true | exact absurd (c257.symm.trans q1) Bool.false_ne_true), if_neg (fun q => by have q1 := q.1; have q2 := q.2; first | omega | exact absurd (c219.symm.trans q1) Bool.false_ne_true | exact absurd (c257.symm.trans q1) Bool.false_ne_true)]
            rw [hq] at h
            refine e_aload_n dX10_branches_270 rfl rfl ?_
            refine e_iload_n dX10_branches_271 rfl rfl ?_
            refine e_iload_n dX10_branches_272 rfl rfl ?_
            refine e_iload dX10_branches_273 rfl ?_
            refine e_iconst (nI 1) dX10_branches_275 (by decide) ?_
            refine e_iadd dX10_branches_276 ?_
            refine e_int (nI (i + 1)) (nI_add i 1) ?_
            refine e_ldc2 (4) dX10_branches_277 kc_RX10_281 ?_
            refine e_long (nL 4) rfl ?_
            refine e_lload dX10_branches_280 rfl ?_
            refine e_lmul dX10_branches_282 ?_
            refine e_long (nL (4 * w)) (nL_mul 4 w) ?_
            refine e_iload dX10_branches_283 rfl ?_
            refine e_callV (k := 89) [.int (nI fl), .int (nI c9), .int (nI (i + 1)), .long (nL (4 * w)), .int (nI a)] dX10_branches_285 cc_X10_branches lk_RX10_277 im_X10_branches se_X10_branches (by decide) (Ms1.s 89 rfl) (Ms1.n (by decide)) rfl (Nat.le_of_ble_eq_true rfl) (Nat.le_of_ble_eq_true rfl) ?_
            show fEv g _ mX10_branches 0 [some (.ref 89), some (.int (nI fl)), some (.int (nI c9)), some (.int (nI (i + 1))), some (.long (nL (4 * w))), none, some (.int (nI a)), none, none, none] [] σ1 _
            refine e_iload_n dX10_branches_0 rfl rfl ?_
            refine e_istore (L1 := [some (.ref 89), some (.int (nI fl)), some (.int (nI c9)), some (.int (nI (i + 1))), some (.long (nL (4 * w))), none, some (.int (nI a)), some (.int (nI (i + 1))), none, none]) dX10_branches_1 (by decide) rfl ?_
            refine ih (i + 1) _ d _ _ _ (4 * w) (s0) (dp + 1) σ1 S sd (by omega) Ms1 Mr1 hR0 (hN.mono (Nat.le_refl _) (by omega)) ((hX1 31 (by decide)).trans htr) hdp1 (by omega) hsm1 ((hX1 33 (by decide)).trans htn) (fun σ4 Smx4 Mr4 hI4 hJ4 => ?_)
            show fEv g _ mX10_branches 288 [some (.ref 89), some (.int (nI fl)), some (.int (nI c9)), some (.int x3), some (.long (nL w)), none, some (.int (nI a)), some (.int (nI i)), o8, o9] [] σ4 Q
            have Sm4 := Sm1.tr (Smx4.to (B := fBA dp) (fun a q => by unfold fBA at q; unfold fBA; omega))
            have Ms4 := Ms.sm Sm4
            have hX4 : ∀ q, q ≠ 21 → fI σ4 89 q = fI σ 89 q := fun q hq => (congrFun hI4 q).trans (hX1 q hq)
            have hdp4 := (congrFun hI4 21).trans hdp1
            have hsm4 := hJ4
            have hR4 := hR1.sm Smx4 (by unfold fBA; omega)
            refine e_aload_n dX10_branches_288 rfl rfl ?_
            refine e_callV (k := 89) [] dX10_branches_289 cc_X10_takes lk_RX10_259 im_X10_takes se_X10_takes (by decide) (Ms4.s 89 rfl) (Ms4.n (by decide)) rfl (Nat.le_of_ble_eq_true rfl) (Nat.le_of_ble_eq_true rfl) ?_
            refine t_X10_takes Ms4 Mr4 hD (by omega) hdp4 hR4 (fun σ5 Smx5 Mr5 hdp5 m95 => ?_)
            show fEv g _ mX10_branches 292 [some (.ref 89), some (.int (nI fl)), some (.int (nI c9)), some (.int x3), some (.long (nL w)), none, some (.int (nI a)), some (.int (nI i)), o8, o9] [] σ5 Q
            have Sm5 := Sm4.tr (Smx5.to (B := fBA dp) (fun a q => by unfold fTA at q; unfold fBA; omega))
            have Ms5 := Ms.sm Sm5
            have hX5 : ∀ q, q ≠ 21 → fI σ5 89 q = fI σ 89 q := fun q hq => (m95.1 q hq).trans (hX4 q hq)
            skip
            have hsm5 := (congrFun m95.2 32).trans hsm4
            have hW5 := hW
            have hC5 := hC
            have hN5 := hN
            have hI9 : fI σ5 89 = fI σ 89 := by funext q; by_cases e : q = 21; rw [e, hdp5, hdp]; exact hX5 q e
            refine e_return dX10_branches_292 rfl (h σ5 Sm5 Mr5 hI9 (hsm5.trans ?_))
            rw [Nat.mul_comm 4 w, Nat.mul_assoc]
          · rw [nI_zle (by omega)] at c261
            refine e_aload_n dX10_branches_264 rfl rfl ?_
            refine e_iload dX10_branches_265 rfl ?_
            refine e_callV (k := 89) [.int (nI i)] dX10_branches_267 cc_X10_bruises lk_RX10_208 im_X10_bruises se_X10_bruises (by decide) (Ms1.s 89 rfl) (Ms1.n (by decide)) rfl (Nat.le_of_ble_eq_true rfl) (Nat.le_of_ble_eq_true rfl) ?_
            refine t_X10_bruises Ms1 Mr1 hD hW1 hN1 (by omega) hi (fun σ6 Smx6 Mr6 => ?_)
            show fEv g _ mX10_branches 270 [some (.ref 89), some (.int (nI fl)), some (.int (nI c9)), some (.int x3), some (.long (nL w)), none, some (.int (nI a)), some (.int (nI i)), o8, o9] [] σ6 Q
            have Sm6 := Sm1.tr (Smx6.to (B := fBA dp) (fun a q => by unfold fRA9 at q; unfold fBA; omega))
            have Ms6 := Ms.sm Sm6
            have hX6 : ∀ q, q ≠ 21 → fI σ6 89 q = fI σ 89 q := fun q hq => (Smx6.i (by unfold fRA9; omega) q).trans (hX1 q hq)
            have hdp6 := (Smx6.i (by unfold fRA9; omega) 21).trans hdp1
            have hsm6 := (Smx6.j (by unfold fRA9; omega) 32).trans hsm1
            have hR6 := hR1.sm Smx6 (by unfold fRA9; omega)
            have hq6 : mq D S c9 i = mbru S i := by unfold mq; rw [if_neg (fun q => by have q1 := q.1; have q2 := q.2; first | omega | exact absurd (c219.symm.trans q1) Bool.false_ne_true | exact absurd (c257.symm.trans q1) Bool.false_ne_true), if_pos ⟨hal, by omega⟩]
            have r6 := (mR_q (k := i) (cold := c9) hD hn0 hi hR0).1
            rw [hq6] at r6
            have n6 := fWN_bru (k := i) (by omega) hN
            have hq := hq6
            rw [hq] at h
            refine e_aload_n dX10_branches_270 rfl rfl ?_
            refine e_iload_n dX10_branches_271 rfl rfl ?_
            refine e_iload_n dX10_branches_272 rfl rfl ?_
            refine e_iload dX10_branches_273 rfl ?_
            refine e_iconst (nI 1) dX10_branches_275 (by decide) ?_
            refine e_iadd dX10_branches_276 ?_
            refine e_int (nI (i + 1)) (nI_add i 1) ?_
            refine e_ldc2 (4) dX10_branches_277 kc_RX10_281 ?_
            refine e_long (nL 4) rfl ?_
            refine e_lload dX10_branches_280 rfl ?_
            refine e_lmul dX10_branches_282 ?_
            refine e_long (nL (4 * w)) (nL_mul 4 w) ?_
            refine e_iload dX10_branches_283 rfl ?_
            refine e_callV (k := 89) [.int (nI fl), .int (nI c9), .int (nI (i + 1)), .long (nL (4 * w)), .int (nI a)] dX10_branches_285 cc_X10_branches lk_RX10_277 im_X10_branches se_X10_branches (by decide) (Ms6.s 89 rfl) (Ms6.n (by decide)) rfl (Nat.le_of_ble_eq_true rfl) (Nat.le_of_ble_eq_true rfl) ?_
            show fEv g _ mX10_branches 0 [some (.ref 89), some (.int (nI fl)), some (.int (nI c9)), some (.int (nI (i + 1))), some (.long (nL (4 * w))), none, some (.int (nI a)), none, none, none] [] σ6 _
            refine e_iload_n dX10_branches_0 rfl rfl ?_
            refine e_istore (L1 := [some (.ref 89), some (.int (nI fl)), some (.int (nI c9)), some (.int (nI (i + 1))), some (.long (nL (4 * w))), none, some (.int (nI a)), some (.int (nI (i + 1))), none, none]) dX10_branches_1 (by decide) rfl ?_
            refine ih (i + 1) _ d _ _ _ (4 * w) (s0) (dp + 1) σ6 (mbru S i) sd (by omega) Ms6 Mr6 r6 n6 ((hX6 31 (by decide)).trans htr) hdp6 (by omega) hsm6 ((hX6 33 (by decide)).trans htn) (fun σ7 Smx7 Mr7 hI7 hJ7 => ?_)
            show fEv g _ mX10_branches 288 [some (.ref 89), some (.int (nI fl)), some (.int (nI c9)), some (.int x3), some (.long (nL w)), none, some (.int (nI a)), some (.int (nI i)), o8, o9] [] σ7 Q
            have Sm7 := Sm6.tr (Smx7.to (B := fBA dp) (fun a q => by unfold fBA at q; unfold fBA; omega))
            have Ms7 := Ms.sm Sm7
            have hX7 : ∀ q, q ≠ 21 → fI σ7 89 q = fI σ 89 q := fun q hq => (congrFun hI7 q).trans (hX6 q hq)
            have hdp7 := (congrFun hI7 21).trans hdp6
            have hsm7 := hJ7
            have hR7 := hR6.sm Smx7 (by unfold fBA; omega)
            refine e_aload_n dX10_branches_288 rfl rfl ?_
            refine e_callV (k := 89) [] dX10_branches_289 cc_X10_takes lk_RX10_259 im_X10_takes se_X10_takes (by decide) (Ms7.s 89 rfl) (Ms7.n (by decide)) rfl (Nat.le_of_ble_eq_true rfl) (Nat.le_of_ble_eq_true rfl) ?_
            refine t_X10_takes Ms7 Mr7 hD (by omega) hdp7 hR7 (fun σ8 Smx8 Mr8 hdp8 m98 => ?_)
            show fEv g _ mX10_branches 292 [some (.ref 89), some (.int (nI fl)), some (.int (nI c9)), some (.int x3), some (.long (nL w)), none, some (.int (nI a)), some (.int (nI i)), o8, o9] [] σ8 Q
            have Sm8 := Sm7.tr (Smx8.to (B := fBA dp) (fun a q => by unfold fTA at q; unfold fBA; omega))
            have Ms8 := Ms.sm Sm8
            have hX8 : ∀ q, q ≠ 21 → fI σ8 89 q = fI σ 89 q := fun q hq => (m98.1 q hq).trans (hX7 q hq)
            skip
            have hsm8 := (congrFun m98.2 32).trans hsm7
            have hW8 := hW
            have hC8 := hC
            have hN8 := hN
            have hI9 : fI σ8 89 = fI σ 89 := by funext q; by_cases e : q = 21; rw [e, hdp8, hdp]; exact hX8 q e
            refine e_return dX10_branches_292 rfl (h σ8 Sm8 Mr8 hI9 (hsm8.trans ?_))
            rw [Nat.mul_comm 4 w, Nat.mul_assoc]
      · have c219 := bn1 c219
        have hal := c219
        obtain ⟨p, hpc, hp, hz, hi9⟩ := mal_pc c219
        refine e_iload_n dX10_branches_222 rfl rfl ?_
        refine e_aload_n dX10_branches_223 rfl rfl ?_
        refine e_iload dX10_branches_224 rfl ?_
        refine e_callV (k := 89) [.int (nI i)] dX10_branches_226 cc_X10_needOf lk_RX10_180 im_X10_needOf se_X10_needOf (by decide) (Ms1.s 89 rfl) (Ms1.n (by decide)) rfl (Nat.le_of_ble_eq_true rfl) (Nat.le_of_ble_eq_true rfl) ?_
        refine t_X10_needOf Ms1 Mr1 hD hW1 (by omega) (fK_i ?_)
        show fEv g _ mX10_branches 229 [some (.ref 89), some (.int (nI fl)), some (.int (nI c9)), some (.int x3), some (.long (nL w)), none, some (.int (nI a)), some (.int (nI i)), o8, o9] [.int (nI (mneed D S i)), .int (nI c9)] σ1 Q
        refine e_icmp_lt 251 dX10_branches_229 (by decide) (fun c229 => ?_) (fun c229 => ?_)
        · rw [nI_lt' (by omega) (by omega)] at c229
          refine e_aload_n dX10_branches_251 rfl rfl ?_
          refine e_iload dX10_branches_252 rfl ?_
          refine e_callV (k := 89) [.int (nI i)] dX10_branches_254 cc_X10_isAlive lk_RX10_183 im_X10_isAlive se_X10_isAlive (by decide) (Ms1.s 89 rfl) (Ms1.n (by decide)) rfl (Nat.le_of_ble_eq_true rfl) (Nat.le_of_ble_eq_true rfl) ?_
          refine t_X10_isAlive Ms1 Mr1 hD hW1 (by omega) (fK_i ?_)
          show fEv g _ mX10_branches 257 [some (.ref 89), some (.int (nI fl)), some (.int (nI c9)), some (.int x3), some (.long (nL w)), none, some (.int (nI a)), some (.int (nI i)), o8, o9] [.int (nI (bn (mal D S i)))] σ1 Q
          refine e_if_eq 270 dX10_branches_257 (by decide) (fun c257 => ?_) (fun c257 => ?_)
          · have c257 := bn0 c257
            have hq : mq D S c9 i = S := by unfold mq; rw [if_neg (fun q => by have q1 := q.1; have q2 := q.2; first | omega | exact absurd (c219.symm.trans q1) Bool.false_ne_true | exact absurd (c257.symm.trans q1) Bool.false_ne_true), if_neg (fun q => by have q1 := q.1; have q2 := q.2; first | omega | exact absurd (c219.symm.trans q1) Bool.false_ne_true | exact absurd (c257.symm.trans q1) Bool.false_ne_true)]
            rw [hq] at h
            refine e_aload_n dX10_branches_270 rfl rfl ?_
            refine e_iload_n dX10_branches_271 rfl rfl ?_
            refine e_iload_n dX10_branches_272 rfl rfl ?_
            refine e_iload dX10_branches_273 rfl ?_
            refine e_iconst (nI 1) dX10_branches_275 (by decide) ?_
            refine e_iadd dX10_branches_276 ?_
            refine e_int (nI (i + 1)) (nI_add i 1) ?_
            refine e_ldc2 (4) dX10_branches_277 kc_RX10_281 ?_
            refine e_long (nL 4) rfl ?_
            refine e_lload dX10_branches_280 rfl ?_
            refine e_lmul dX10_branches_282 ?_
            refine e_long (nL (4 * w)) (nL_mul 4 w) ?_
            refine e_iload dX10_branches_283 rfl ?_
            refine e_callV (k := 89) [.int (nI fl), .int (nI c9), .int (nI (i + 1)), .long (nL (4 * w)), .int (nI a)] dX10_branches_285 cc_X10_branches lk_RX10_277 im_X10_branches se_X10_branches (by decide) (Ms1.s 89 rfl) (Ms1.n (by decide)) rfl (Nat.le_of_ble_eq_true rfl) (Nat.le_of_ble_eq_true rfl) ?_
            show fEv g _ mX10_branches 0 [some (.ref 89), some (.int (nI fl)), some (.int (nI c9)), some (.int (nI (i + 1))), some (.long (nL (4 * w))), none, some (.int (nI a)), none, none, none] [] σ1 _
            refine e_iload_n dX10_branches_0 rfl rfl ?_
            refine e_istore (L1 := [some (.ref 89), some (.int (nI fl)), some (.int (nI c9)), some (.int (nI (i + 1))), some (.long (nL (4 * w))), none, some (.int (nI a)), some (.int (nI (i + 1))), none, none]) dX10_branches_1 (by decide) rfl ?_
            refine ih (i + 1) _ d _ _ _ (4 * w) (s0) (dp + 1) σ1 S sd (by omega) Ms1 Mr1 hR0 (hN.mono (Nat.le_refl _) (by omega)) ((hX1 31 (by decide)).trans htr) hdp1 (by omega) hsm1 ((hX1 33 (by decide)).trans htn) (fun σ9 Smx9 Mr9 hI9 hJ9 => ?_)
            show fEv g _ mX10_branches 288 [some (.ref 89), some (.int (nI fl)), some (.int (nI c9)), some (.int x3), some (.long (nL w)), none, some (.int (nI a)), some (.int (nI i)), o8, o9] [] σ9 Q
            have Sm9 := Sm1.tr (Smx9.to (B := fBA dp) (fun a q => by unfold fBA at q; unfold fBA; omega))
            have Ms9 := Ms.sm Sm9
            have hX9 : ∀ q, q ≠ 21 → fI σ9 89 q = fI σ 89 q := fun q hq => (congrFun hI9 q).trans (hX1 q hq)
            have hdp9 := (congrFun hI9 21).trans hdp1
            have hsm9 := hJ9
            have hR9 := hR1.sm Smx9 (by unfold fBA; omega)
            refine e_aload_n dX10_branches_288 rfl rfl ?_
            refine e_callV (k := 89) [] dX10_branches_289 cc_X10_takes lk_RX10_259 im_X10_takes se_X10_takes (by decide) (Ms9.s 89 rfl) (Ms9.n (by decide)) rfl (Nat.le_of_ble_eq_true rfl) (Nat.le_of_ble_eq_true rfl) ?_
            refine t_X10_takes Ms9 Mr9 hD (by omega) hdp9 hR9 (fun σ10 Smx10 Mr10 hdp10 m910 => ?_)
            show fEv g _ mX10_branches 292 [some (.ref 89), some (.int (nI fl)), some (.int (nI c9)), some (.int x3), some (.long (nL w)), none, some (.int (nI a)), some (.int (nI i)), o8, o9] [] σ10 Q
            have Sm10 := Sm9.tr (Smx10.to (B := fBA dp) (fun a q => by unfold fTA at q; unfold fBA; omega))
            have Ms10 := Ms.sm Sm10
            have hX10 : ∀ q, q ≠ 21 → fI σ10 89 q = fI σ 89 q := fun q hq => (m910.1 q hq).trans (hX9 q hq)
            skip
            have hsm10 := (congrFun m910.2 32).trans hsm9
            have hW10 := hW
            have hC10 := hC
            have hN10 := hN
            have hI9 : fI σ10 89 = fI σ 89 := by funext q; by_cases e : q = 21; rw [e, hdp10, hdp]; exact hX10 q e
            refine e_return dX10_branches_292 rfl (h σ10 Sm10 Mr10 hI9 (hsm10.trans ?_))
            rw [Nat.mul_comm 4 w, Nat.mul_assoc]
          · have c257 := bn1 c257
            have hal := c257
            refine e_iload_n dX10_branches_260 rfl rfl ?_
            refine e_if_le 270 dX10_branches_261 (by decide) (fun c261 => ?_) (fun c261 => ?_)
            · rw [nI_zle (by omega)] at c261
              have hq : mq D S c9 i = S := by unfold mq; rw [if_neg (fun q => by have q1 := q.1; have q2 := q.2; first | omega | exact absurd (c219.symm.trans q1) Bool.false_ne_true | exact absurd (c257.symm.trans q1) Bool.false_ne_true), if_neg (fun q => by have q1 := q.1; have q2 := q.2; first | omega | exact absurd (c219.symm.trans q1) Bool.false_ne_true | exact absurd (c257.symm.trans q1) Bool.false_ne_true)]
              rw [hq] at h
              refine e_aload_n dX10_branches_270 rfl rfl ?_
              refine e_iload_n dX10_branches_271 rfl rfl ?_
              refine e_iload_n dX10_branches_272 rfl rfl ?_
              refine e_iload dX10_branches_273 rfl ?_
              refine e_iconst (nI 1) dX10_branches_275 (by decide) ?_
              refine e_iadd dX10_branches_276 ?_
              refine e_int (nI (i + 1)) (nI_add i 1) ?_
              refine e_ldc2 (4) dX10_branches_277 kc_RX10_281 ?_
              refine e_long (nL 4) rfl ?_
              refine e_lload dX10_branches_280 rfl ?_
              refine e_lmul dX10_branches_282 ?_
              refine e_long (nL (4 * w)) (nL_mul 4 w) ?_
              refine e_iload dX10_branches_283 rfl ?_
              refine e_callV (k := 89) [.int (nI fl), .int (nI c9), .int (nI (i + 1)), .long (nL (4 * w)), .int (nI a)] dX10_branches_285 cc_X10_branches lk_RX10_277 im_X10_branches se_X10_branches (by decide) (Ms1.s 89 rfl) (Ms1.n (by decide)) rfl (Nat.le_of_ble_eq_true rfl) (Nat.le_of_ble_eq_true rfl) ?_
              show fEv g _ mX10_branches 0 [some (.ref 89), some (.int (nI fl)), some (.int (nI c9)), some (.int (nI (i + 1))), some (.long (nL (4 * w))), none, some (.int (nI a)), none, none, none] [] σ1 _
              refine e_iload_n dX10_branches_0 rfl rfl ?_
              refine e_istore (L1 := [some (.ref 89), some (.int (nI fl)), some (.int (nI c9)), some (.int (nI (i + 1))), some (.long (nL (4 * w))), none, some (.int (nI a)), some (.int (nI (i + 1))), none, none]) dX10_branches_1 (by decide) rfl ?_
              refine ih (i + 1) _ d _ _ _ (4 * w) (s0) (dp + 1) σ1 S sd (by omega) Ms1 Mr1 hR0 (hN.mono (Nat.le_refl _) (by omega)) ((hX1 31 (by decide)).trans htr) hdp1 (by omega) hsm1 ((hX1 33 (by decide)).trans htn) (fun σ11 Smx11 Mr11 hI11 hJ11 => ?_)
              show fEv g _ mX10_branches 288 [some (.ref 89), some (.int (nI fl)), some (.int (nI c9)), some (.int x3), some (.long (nL w)), none, some (.int (nI a)), some (.int (nI i)), o8, o9] [] σ11 Q
              have Sm11 := Sm1.tr (Smx11.to (B := fBA dp) (fun a q => by unfold fBA at q; unfold fBA; omega))
              have Ms11 := Ms.sm Sm11
              have hX11 : ∀ q, q ≠ 21 → fI σ11 89 q = fI σ 89 q := fun q hq => (congrFun hI11 q).trans (hX1 q hq)
              have hdp11 := (congrFun hI11 21).trans hdp1
              have hsm11 := hJ11
              have hR11 := hR1.sm Smx11 (by unfold fBA; omega)
              refine e_aload_n dX10_branches_288 rfl rfl ?_
              refine e_callV (k := 89) [] dX10_branches_289 cc_X10_takes lk_RX10_259 im_X10_takes se_X10_takes (by decide) (Ms11.s 89 rfl) (Ms11.n (by decide)) rfl (Nat.le_of_ble_eq_true rfl) (Nat.le_of_ble_eq_true rfl) ?_
              refine t_X10_takes Ms11 Mr11 hD (by omega) hdp11 hR11 (fun σ12 Smx12 Mr12 hdp12 m912 => ?_)
              show fEv g _ mX10_branches 292 [some (.ref 89), some (.int (nI fl)), some (.int (nI c9)), some (.int x3), some (.long (nL w)), none, some (.int (nI a)), some (.int (nI i)), o8, o9] [] σ12 Q
              have Sm12 := Sm11.tr (Smx12.to (B := fBA dp) (fun a q => by unfold fTA at q; unfold fBA; omega))
              have Ms12 := Ms.sm Sm12
              have hX12 : ∀ q, q ≠ 21 → fI σ12 89 q = fI σ 89 q := fun q hq => (m912.1 q hq).trans (hX11 q hq)
              skip
              have hsm12 := (congrFun m912.2 32).trans hsm11
              have hW12 := hW
              have hC12 := hC
              have hN12 := hN
              have hI9 : fI σ12 89 = fI σ 89 := by funext q; by_cases e : q = 21; rw [e, hdp12, hdp]; exact hX12 q e
              refine e_return dX10_branches_292 rfl (h σ12 Sm12 Mr12 hI9 (hsm12.trans ?_))
              rw [Nat.mul_comm 4 w, Nat.mul_assoc]
            · rw [nI_zle (by omega)] at c261
              refine e_aload_n dX10_branches_264 rfl rfl ?_
              refine e_iload dX10_branches_265 rfl ?_
              refine e_callV (k := 89) [.int (nI i)] dX10_branches_267 cc_X10_bruises lk_RX10_208 im_X10_bruises se_X10_bruises (by decide) (Ms1.s 89 rfl) (Ms1.n (by decide)) rfl (Nat.le_of_ble_eq_true rfl) (Nat.le_of_ble_eq_true rfl) ?_
              refine t_X10_bruises Ms1 Mr1 hD hW1 hN1 (by omega) hi (fun σ13 Smx13 Mr13 => ?_)
              show fEv g _ mX10_branches 270 [some (.ref 89), some (.int (nI fl)), some (.int (nI c9)), some (.int x3), some (.long (nL w)), none, some (.int (nI a)), some (.int (nI i)), o8, o9] [] σ13 Q
              have Sm13 := Sm1.tr (Smx13.to (B := fBA dp) (fun a q => by unfold fRA9 at q; unfold fBA; omega))
              have Ms13 := Ms.sm Sm13
              have hX13 : ∀ q, q ≠ 21 → fI σ13 89 q = fI σ 89 q := fun q hq => (Smx13.i (by unfold fRA9; omega) q).trans (hX1 q hq)
              have hdp13 := (Smx13.i (by unfold fRA9; omega) 21).trans hdp1
              have hsm13 := (Smx13.j (by unfold fRA9; omega) 32).trans hsm1
              have hR13 := hR1.sm Smx13 (by unfold fRA9; omega)
              have hq13 : mq D S c9 i = mbru S i := by unfold mq; rw [if_neg (fun q => by have q1 := q.1; have q2 := q.2; first | omega | exact absurd (c219.symm.trans q1) Bool.false_ne_true | exact absurd (c257.symm.trans q1) Bool.false_ne_true), if_pos ⟨hal, by omega⟩]
              have r13 := (mR_q (k := i) (cold := c9) hD hn0 hi hR0).1
              rw [hq13] at r13
              have n13 := fWN_bru (k := i) (by omega) hN
              have hq := hq13
              rw [hq] at h
              refine e_aload_n dX10_branches_270 rfl rfl ?_
              refine e_iload_n dX10_branches_271 rfl rfl ?_
              refine e_iload_n dX10_branches_272 rfl rfl ?_
              refine e_iload dX10_branches_273 rfl ?_
              refine e_iconst (nI 1) dX10_branches_275 (by decide) ?_
              refine e_iadd dX10_branches_276 ?_
              refine e_int (nI (i + 1)) (nI_add i 1) ?_
              refine e_ldc2 (4) dX10_branches_277 kc_RX10_281 ?_
              refine e_long (nL 4) rfl ?_
              refine e_lload dX10_branches_280 rfl ?_
              refine e_lmul dX10_branches_282 ?_
              refine e_long (nL (4 * w)) (nL_mul 4 w) ?_
              refine e_iload dX10_branches_283 rfl ?_
              refine e_callV (k := 89) [.int (nI fl), .int (nI c9), .int (nI (i + 1)), .long (nL (4 * w)), .int (nI a)] dX10_branches_285 cc_X10_branches lk_RX10_277 im_X10_branches se_X10_branches (by decide) (Ms13.s 89 rfl) (Ms13.n (by decide)) rfl (Nat.le_of_ble_eq_true rfl) (Nat.le_of_ble_eq_true rfl) ?_
              show fEv g _ mX10_branches 0 [some (.ref 89), some (.int (nI fl)), some (.int (nI c9)), some (.int (nI (i + 1))), some (.long (nL (4 * w))), none, some (.int (nI a)), none, none, none] [] σ13 _
              refine e_iload_n dX10_branches_0 rfl rfl ?_
              refine e_istore (L1 := [some (.ref 89), some (.int (nI fl)), some (.int (nI c9)), some (.int (nI (i + 1))), some (.long (nL (4 * w))), none, some (.int (nI a)), some (.int (nI (i + 1))), none, none]) dX10_branches_1 (by decide) rfl ?_
              refine ih (i + 1) _ d _ _ _ (4 * w) (s0) (dp + 1) σ13 (mbru S i) sd (by omega) Ms13 Mr13 r13 n13 ((hX13 31 (by decide)).trans htr) hdp13 (by omega) hsm13 ((hX13 33 (by decide)).trans htn) (fun σ14 Smx14 Mr14 hI14 hJ14 => ?_)
              show fEv g _ mX10_branches 288 [some (.ref 89), some (.int (nI fl)), some (.int (nI c9)), some (.int x3), some (.long (nL w)), none, some (.int (nI a)), some (.int (nI i)), o8, o9] [] σ14 Q
              have Sm14 := Sm13.tr (Smx14.to (B := fBA dp) (fun a q => by unfold fBA at q; unfold fBA; omega))
              have Ms14 := Ms.sm Sm14
              have hX14 : ∀ q, q ≠ 21 → fI σ14 89 q = fI σ 89 q := fun q hq => (congrFun hI14 q).trans (hX13 q hq)
              have hdp14 := (congrFun hI14 21).trans hdp13
              have hsm14 := hJ14
              have hR14 := hR13.sm Smx14 (by unfold fBA; omega)
              refine e_aload_n dX10_branches_288 rfl rfl ?_
              refine e_callV (k := 89) [] dX10_branches_289 cc_X10_takes lk_RX10_259 im_X10_takes se_X10_takes (by decide) (Ms14.s 89 rfl) (Ms14.n (by decide)) rfl (Nat.le_of_ble_eq_true rfl) (Nat.le_of_ble_eq_true rfl) ?_
              refine t_X10_takes Ms14 Mr14 hD (by omega) hdp14 hR14 (fun σ15 Smx15 Mr15 hdp15 m915 => ?_)
              show fEv g _ mX10_branches 292 [some (.ref 89), some (.int (nI fl)), some (.int (nI c9)), some (.int x3), some (.long (nL w)), none, some (.int (nI a)), some (.int (nI i)), o8, o9] [] σ15 Q
              have Sm15 := Sm14.tr (Smx15.to (B := fBA dp) (fun a q => by unfold fTA at q; unfold fBA; omega))
              have Ms15 := Ms.sm Sm15
              have hX15 : ∀ q, q ≠ 21 → fI σ15 89 q = fI σ 89 q := fun q hq => (m915.1 q hq).trans (hX14 q hq)
              skip
              have hsm15 := (congrFun m915.2 32).trans hsm14
              have hW15 := hW
              have hC15 := hC
              have hN15 := hN
              have hI9 : fI σ15 89 = fI σ 89 := by funext q; by_cases e : q = 21; rw [e, hdp15, hdp]; exact hX15 q e
              refine e_return dX10_branches_292 rfl (h σ15 Sm15 Mr15 hI9 (hsm15.trans ?_))
              rw [Nat.mul_comm 4 w, Nat.mul_assoc]
        · rw [nI_lt' (by omega) (by omega)] at c229
          refine e_aload_n dX10_branches_232 rfl rfl ?_
          refine e_iload dX10_branches_233 rfl ?_
          refine e_aload_n dX10_branches_235 rfl rfl ?_
          refine e_getR (q := 120) dX10_branches_236 fl_RX10_34 (Ms1.s 89 rfl) (Ms1.n (by decide)) rfl (Ms1.r 89 14 rfl) (by unfold fscr; omega) ?_
          refine e_iload dX10_branches_239 rfl ?_
          refine e_aaload (q := 121 + i) i dX10_branches_241 (Ms1.s 120 rfl) (by decide) (Ms1.n (by decide)) rfl (by omega) (by decide) (Ms1.r 120 _ (frf_slot _ (by omega))) (by unfold fscr; omega) ?_
          refine e_iconst (nI 2) dX10_branches_242 (by decide) ?_
          refine e_iaload 2 dX10_branches_243 (Ms1.s _ (fsh_slot _ (by omega))) (Ms1.n (by omega)) rfl (by omega) (by decide) ?_
          refine e_int (nI (dS D i 2)) (Mr1.slot i (by omega) 2 (by omega)) ?_
          refine e_iload_n dX10_branches_244 rfl rfl ?_
          refine e_callV (k := 89) [.int (nI i), .int (nI (dS D i 2)), .int (nI c9)] dX10_branches_245 cc_X10_splits lk_RX10_204 im_X10_splits se_X10_splits (by decide) (Ms1.s 89 rfl) (Ms1.n (by decide)) rfl (Nat.le_of_ble_eq_true rfl) (Nat.le_of_ble_eq_true rfl) ?_
          refine t_X10_splits (T := fun _ => 0) (tr := false) Ms1 Mr1 hD hW1 hC1 hN1 ((hX1 31 (by decide)).trans htr) hi hz hpc (by omega) (fun σ16 Smx16 Mr16 _ => ?_)
          show fEv g _ mX10_branches 248 [some (.ref 89), some (.int (nI fl)), some (.int (nI c9)), some (.int x3), some (.long (nL w)), none, some (.int (nI a)), some (.int (nI i)), o8, o9] [] σ16 Q
          have Sm16 := Sm1.tr (Smx16.to (B := fBA dp) (fun a q => q.elim (fun z => Or.inr (Or.inl z)) (fun z => absurd z.1 Bool.false_ne_true)))
          have Ms16 := Ms.sm Sm16
          have hX16 : ∀ q, q ≠ 21 → fI σ16 89 q = fI σ 89 q := fun q hq => (Smx16.i (by unfold fRA; omega) q).trans (hX1 q hq)
          have hdp16 := (Smx16.i (by unfold fRA; omega) 21).trans hdp1
          have hsm16 := (Smx16.j (by unfold fRA; omega) 32).trans hsm1
          have hR16 := hR1.sm Smx16 (by unfold fRA; omega)
          have r16 := (mR_spl hD hn0 hi hR0 hal hpc hi9).1
          have n16 := (fWN_spl (line := dS D i 2) hD hW hC hi hz hpc hN).mono (Nat.le_refl _) (show i ≤ i + 1 by omega)
          refine e_goto 270 dX10_branches_248 (by decide) ?_
          have hq : mq D S c9 i = mspl D S i (dS D i 2) := by unfold mq; exact if_pos ⟨hal, by omega⟩
          rw [hq] at h
          refine e_aload_n dX10_branches_270 rfl rfl ?_
          refine e_iload_n dX10_branches_271 rfl rfl ?_
          refine e_iload_n dX10_branches_272 rfl rfl ?_
          refine e_iload dX10_branches_273 rfl ?_
          refine e_iconst (nI 1) dX10_branches_275 (by decide) ?_
          refine e_iadd dX10_branches_276 ?_
          refine e_int (nI (i + 1)) (nI_add i 1) ?_
          refine e_ldc2 (4) dX10_branches_277 kc_RX10_281 ?_
          refine e_long (nL 4) rfl ?_
          refine e_lload dX10_branches_280 rfl ?_
          refine e_lmul dX10_branches_282 ?_
          refine e_long (nL (4 * w)) (nL_mul 4 w) ?_
          refine e_iload dX10_branches_283 rfl ?_
          refine e_callV (k := 89) [.int (nI fl), .int (nI c9), .int (nI (i + 1)), .long (nL (4 * w)), .int (nI a)] dX10_branches_285 cc_X10_branches lk_RX10_277 im_X10_branches se_X10_branches (by decide) (Ms16.s 89 rfl) (Ms16.n (by decide)) rfl (Nat.le_of_ble_eq_true rfl) (Nat.le_of_ble_eq_true rfl) ?_
          show fEv g _ mX10_branches 0 [some (.ref 89), some (.int (nI fl)), some (.int (nI c9)), some (.int (nI (i + 1))), some (.long (nL (4 * w))), none, some (.int (nI a)), none, none, none] [] σ16 _
          refine e_iload_n dX10_branches_0 rfl rfl ?_
          refine e_istore (L1 := [some (.ref 89), some (.int (nI fl)), some (.int (nI c9)), some (.int (nI (i + 1))), some (.long (nL (4 * w))), none, some (.int (nI a)), some (.int (nI (i + 1))), none, none]) dX10_branches_1 (by decide) rfl ?_
          refine ih (i + 1) _ d _ _ _ (4 * w) (s0) (dp + 1) σ16 (mspl D S i (dS D i 2)) sd (by omega) Ms16 Mr16 r16 n16 ((hX16 31 (by decide)).trans htr) hdp16 (by omega) hsm16 ((hX16 33 (by decide)).trans htn) (fun σ17 Smx17 Mr17 hI17 hJ17 => ?_)
          show fEv g _ mX10_branches 288 [some (.ref 89), some (.int (nI fl)), some (.int (nI c9)), some (.int x3), some (.long (nL w)), none, some (.int (nI a)), some (.int (nI i)), o8, o9] [] σ17 Q
          have Sm17 := Sm16.tr (Smx17.to (B := fBA dp) (fun a q => by unfold fBA at q; unfold fBA; omega))
          have Ms17 := Ms.sm Sm17
          have hX17 : ∀ q, q ≠ 21 → fI σ17 89 q = fI σ 89 q := fun q hq => (congrFun hI17 q).trans (hX16 q hq)
          have hdp17 := (congrFun hI17 21).trans hdp16
          have hsm17 := hJ17
          have hR17 := hR16.sm Smx17 (by unfold fBA; omega)
          refine e_aload_n dX10_branches_288 rfl rfl ?_
          refine e_callV (k := 89) [] dX10_branches_289 cc_X10_takes lk_RX10_259 im_X10_takes se_X10_takes (by decide) (Ms17.s 89 rfl) (Ms17.n (by decide)) rfl (Nat.le_of_ble_eq_true rfl) (Nat.le_of_ble_eq_true rfl) ?_
          refine t_X10_takes Ms17 Mr17 hD (by omega) hdp17 hR17 (fun σ18 Smx18 Mr18 hdp18 m918 => ?_)
          show fEv g _ mX10_branches 292 [some (.ref 89), some (.int (nI fl)), some (.int (nI c9)), some (.int x3), some (.long (nL w)), none, some (.int (nI a)), some (.int (nI i)), o8, o9] [] σ18 Q
          have Sm18 := Sm17.tr (Smx18.to (B := fBA dp) (fun a q => by unfold fTA at q; unfold fBA; omega))
          have Ms18 := Ms.sm Sm18
          have hX18 : ∀ q, q ≠ 21 → fI σ18 89 q = fI σ 89 q := fun q hq => (m918.1 q hq).trans (hX17 q hq)
          skip
          have hsm18 := (congrFun m918.2 32).trans hsm17
          have hW18 := hW
          have hC18 := hC
          have hN18 := hN
          have hI9 : fI σ18 89 = fI σ 89 := by funext q; by_cases e : q = 21; rw [e, hdp18, hdp]; exact hX18 q e
          refine e_return dX10_branches_292 rfl (h σ18 Sm18 Mr18 hI9 (hsm18.trans ?_))
          rw [Nat.mul_comm 4 w, Nat.mul_assoc]
    refine e_iload dX10_branches_3 rfl ?_
    refine e_aload_n dX10_branches_5 rfl rfl ?_
    refine e_getR (q := 92) dX10_branches_6 fl_RX10_20 (Ms.s 89 rfl) (Ms.n (by decide)) rfl (Ms.r 89 10 rfl) (by unfold fscr; omega) ?_
    refine e_iconst (nI 1) dX10_branches_9 (by decide) ?_
    refine e_iaload 1 dX10_branches_10 (Ms.s 92 rfl) (Ms.n (by decide)) rfl (by omega) (by decide) ?_
    refine e_int (nI (dT D 1)) (Mr.t 1 (by omega)) ?_
    refine e_icmp_ge 29 dX10_branches_11 (by decide) (fun cz => absurd ((nI_le' (by omega) (by omega)).mp cz) (by omega)) (fun cz => ?_)
    refine e_iload_n dX10_branches_14 rfl rfl ?_
    refine e_iload dX10_branches_15 rfl ?_
    refine e_ishr dX10_branches_17 ?_
    refine e_int (nI (fl / 2 ^ i)) (nI_shr (by omega) (by omega)) ?_
    refine e_iconst (nI 1) dX10_branches_18 (by decide) ?_
    refine e_iand dX10_branches_19 ?_
    refine e_int (nI (fl / 2 ^ i % 2)) (nI_and1 (by omega)) ?_
    refine e_if_ne 29 dX10_branches_20 (by decide) (fun c20 => ?_) (fun c20 => ?_)
    · rw [nI_z (by omega)] at c20
      refine e_iload dX10_branches_29 rfl ?_
      refine e_aload_n dX10_branches_31 rfl rfl ?_
      refine e_getR (q := 92) dX10_branches_32 fl_RX10_20 (Ms.s 89 rfl) (Ms.n (by decide)) rfl (Ms.r 89 10 rfl) (by unfold fscr; omega) ?_
      refine e_iconst (nI 1) dX10_branches_35 (by decide) ?_
      refine e_iaload 1 dX10_branches_36 (Ms.s 92 rfl) (Ms.n (by decide)) rfl (by omega) (by decide) ?_
      refine e_int (nI (dT D 1)) (Mr.t 1 (by omega)) ?_
      refine e_icmp_ne 112 dX10_branches_37 (by decide) (fun cz => ?_) (fun cz => absurd ((nI_inj (by omega) (by omega)).mp cz) (by omega))
      refine e_aload_n dX10_branches_112 rfl rfl ?_
      refine e_iload dX10_branches_113 rfl ?_
      refine e_callV (k := 89) [.int (nI i)] dX10_branches_115 cc_X10_isAlive lk_RX10_183 im_X10_isAlive se_X10_isAlive (by decide) (Ms.s 89 rfl) (Ms.n (by decide)) rfl (Nat.le_of_ble_eq_true rfl) (Nat.le_of_ble_eq_true rfl) ?_
      refine t_X10_isAlive Ms Mr hD hW (by omega) (fK_i ?_)
      show fEv g _ mX10_branches 118 [some (.ref 89), some (.int (nI fl)), some (.int (nI c9)), some (.int x3), some (.long (nL w)), none, some (.int (nI a)), some (.int (nI i)), o8, o9] [.int (nI (bn (mal D S i)))] σ Q
      refine e_if_eq 209 dX10_branches_118 (by decide) (fun c118 => ?_) (fun c118 => ?_)
      · have c118 := bn0 c118
        exact k209 (by omega) (by unfold mdrw; first | (rw [c118, Bool.and_false]; rfl) | (rw [decide_eq_false (show ¬ mneed D S i ≤ c9 by omega), Bool.and_false]; rfl) | (rw [c138, Bool.and_false]))
      · have c118 := bn1 c118
        refine e_iload_n dX10_branches_121 rfl rfl ?_
        refine e_aload_n dX10_branches_122 rfl rfl ?_
        refine e_iload dX10_branches_123 rfl ?_
        refine e_callV (k := 89) [.int (nI i)] dX10_branches_125 cc_X10_needOf lk_RX10_180 im_X10_needOf se_X10_needOf (by decide) (Ms.s 89 rfl) (Ms.n (by decide)) rfl (Nat.le_of_ble_eq_true rfl) (Nat.le_of_ble_eq_true rfl) ?_
        refine t_X10_needOf Ms Mr hD hW (by omega) (fK_i ?_)
        show fEv g _ mX10_branches 128 [some (.ref 89), some (.int (nI fl)), some (.int (nI c9)), some (.int x3), some (.long (nL w)), none, some (.int (nI a)), some (.int (nI i)), o8, o9] [.int (nI (mneed D S i)), .int (nI c9)] σ Q
        refine e_icmp_lt 209 dX10_branches_128 (by decide) (fun c128 => ?_) (fun c128 => ?_)
        · rw [nI_lt' (by omega) (by omega)] at c128
          exact k209 (by omega) (by unfold mdrw; first | (rw [c118, Bool.and_false]; rfl) | (rw [decide_eq_false (show ¬ mneed D S i ≤ c9 by omega), Bool.and_false]; rfl) | (rw [c138, Bool.and_false]))
        · rw [nI_lt' (by omega) (by omega)] at c128
          refine e_aload_n dX10_branches_131 rfl rfl ?_
          refine e_iload dX10_branches_132 rfl ?_
          refine e_iload_n dX10_branches_134 rfl rfl ?_
          refine e_callV (k := 89) [.int (nI i), .int (nI c9)] dX10_branches_135 cc_X10_mayStray lk_RX10_197 im_X10_mayStray se_X10_mayStray (by decide) (Ms.s 89 rfl) (Ms.n (by decide)) rfl (Nat.le_of_ble_eq_true rfl) (Nat.le_of_ble_eq_true rfl) ?_
          refine t_X10_mayStray Ms Mr hD hW (by omega) (by omega) (fK_i ?_)
          show fEv g _ mX10_branches 138 [some (.ref 89), some (.int (nI fl)), some (.int (nI c9)), some (.int x3), some (.long (nL w)), none, some (.int (nI a)), some (.int (nI i)), o8, o9] [.int (nI (bn (mstr D S i c9)))] σ Q
          refine e_if_eq 209 dX10_branches_138 (by decide) (fun c138 => ?_) (fun c138 => ?_)
          · have c138 := bn0 c138
            exact k209 (by omega) (by unfold mdrw; first | (rw [c118, Bool.and_false]; rfl) | (rw [decide_eq_false (show ¬ mneed D S i ≤ c9 by omega), Bool.and_false]; rfl) | (rw [c138, Bool.and_false]))
          · have c138 := bn1 c138
            have hbit : fl / 2 ^ i % 2 = 1 := by omega
            rw [hbit] at hdeep
            have hdw : mdrw D S fl c9 i = true := by unfold mdrw; rw [decide_eq_true hbit, c118, decide_eq_true (show mneed D S i ≤ c9 by omega), c138]; rfl
            obtain ⟨p, hpc, hp, hz, hi9⟩ := mal_pc c118
            have hV : mbr D (lf1 D a) fl c9 (n + 1) i S = mbr D (lf1 D a) fl c9 n (i + 1) (mspl D S i (mln D S i 0)) + mbr D (lf1 D a) fl c9 n (i + 1) (mspl D S i (mln D S i 1)) + 2 * mbr D (lf1 D a) fl c9 n (i + 1) (mspl D S i (mln D S i 2)) := by rw [mbr, if_pos hbit, if_pos hdw]
            rw [hV] at h
            refine e_iconst (nI 0) dX10_branches_141 (by decide) ?_
            refine e_istore (L1 := [some (.ref 89), some (.int (nI fl)), some (.int (nI c9)), some (.int x3), some (.long (nL w)), none, some (.int (nI a)), some (.int (nI i)), some (.int (nI 0)), o9]) dX10_branches_142 (by decide) rfl ?_
            refine e_iload dX10_branches_144 rfl ?_
            refine e_iconst (nI 3) dX10_branches_146 (by decide) ?_
            refine e_icmp_ge 208 dX10_branches_147 (by decide) (fun c => absurd c (by decide)) (fun _ => ?_)
            refine e_aload_n dX10_branches_150 rfl rfl ?_
            refine e_callV (k := 89) [] dX10_branches_151 cc_X10_puts lk_RX10_253 im_X10_puts se_X10_puts (by decide) (Ms.s 89 rfl) (Ms.n (by decide)) rfl (Nat.le_of_ble_eq_true rfl) (Nat.le_of_ble_eq_true rfl) ?_
            refine t_X10_puts Ms Mr hD (by omega) hdp (fun σ1 Smx1 Mr1 hR1 hdp1 m91 => ?_)
            show fEv g _ mX10_branches 154 [some (.ref 89), some (.int (nI fl)), some (.int (nI c9)), some (.int x3), some (.long (nL w)), none, some (.int (nI a)), some (.int (nI i)), some (.int (nI 0)), o9] [] σ1 Q
            have Sm1 := (Smx1.to (B := fBA dp) (fun a q => by unfold fPA at q; unfold fBA; omega))
            have Ms1 := Ms.sm Sm1
            have hX1 : ∀ q, q ≠ 21 → fI σ1 89 q = fI σ 89 q := m91.1
            skip
            have hsm1 := (congrFun m91.2 32).trans hsm
            have hW1 := hW
            have hC1 := hC
            have hN1 := hN
            refine e_aload_n dX10_branches_154 rfl rfl ?_
            refine e_iload dX10_branches_155 rfl ?_
            refine e_aload_n dX10_branches_157 rfl rfl ?_
            refine e_iload dX10_branches_158 rfl ?_
            refine e_iload dX10_branches_160 rfl ?_
            refine e_callV (k := 89) [.int (nI i), .int (nI 0)] dX10_branches_162 cc_X10_lineOf lk_RX10_201 im_X10_lineOf se_X10_lineOf (by decide) (Ms1.s 89 rfl) (Ms1.n (by decide)) rfl (Nat.le_of_ble_eq_true rfl) (Nat.le_of_ble_eq_true rfl) ?_
            refine t_X10_lineOf Ms1 Mr1 hD hW1 hi (by omega) hpc (fK_i ?_)
            show fEv g _ mX10_branches 165 [some (.ref 89), some (.int (nI fl)), some (.int (nI c9)), some (.int x3), some (.long (nL w)), none, some (.int (nI a)), some (.int (nI i)), some (.int (nI 0)), o9] [.int (nI (mln D S i 0)), .int (nI i), .ref 89] σ1 Q
            refine e_iload_n dX10_branches_165 rfl rfl ?_
            refine e_callV (k := 89) [.int (nI i), .int (nI (mln D S i 0)), .int (nI c9)] dX10_branches_166 cc_X10_splits lk_RX10_204 im_X10_splits se_X10_splits (by decide) (Ms1.s 89 rfl) (Ms1.n (by decide)) rfl (Nat.le_of_ble_eq_true rfl) (Nat.le_of_ble_eq_true rfl) ?_
            refine t_X10_splits (T := fun _ => 0) (tr := false) Ms1 Mr1 hD hW1 hC1 hN1 ((hX1 31 (by decide)).trans htr) hi hz hpc (mln_lt (by omega)) (fun σ2 Smx2 Mr2 _ => ?_)
            show fEv g _ mX10_branches 169 [some (.ref 89), some (.int (nI fl)), some (.int (nI c9)), some (.int x3), some (.long (nL w)), none, some (.int (nI a)), some (.int (nI i)), some (.int (nI 0)), o9] [] σ2 Q
            have Sm2 := Sm1.tr (Smx2.to (B := fBA dp) (fun a q => q.elim (fun z => Or.inr (Or.inl z)) (fun z => absurd z.1 Bool.false_ne_true)))
            have Ms2 := Ms.sm Sm2
            have hX2 : ∀ q, q ≠ 21 → fI σ2 89 q = fI σ 89 q := fun q hq => (Smx2.i (by unfold fRA; omega) q).trans (hX1 q hq)
            have hdp2 := (Smx2.i (by unfold fRA; omega) 21).trans hdp1
            have hsm2 := (Smx2.j (by unfold fRA; omega) 32).trans hsm1
            have hR2 := hR1.sm Smx2 (by unfold fRA; omega)
            have r2 := (mR_d 0 hD hn0 hi hR0 hdw).1
            have n2 := (fWN_spl (line := mln D S i 0) hD hW hC hi hz hpc hN).mono (Nat.le_refl _) (show i ≤ i + 1 by omega)
            refine e_aload_n dX10_branches_169 rfl rfl ?_
            refine e_iload_n dX10_branches_170 rfl rfl ?_
            refine e_iload_n dX10_branches_171 rfl rfl ?_
            refine e_iload dX10_branches_172 rfl ?_
            refine e_iconst (nI 1) dX10_branches_174 (by decide) ?_
            refine e_iadd dX10_branches_175 ?_
            refine e_int (nI (i + 1)) (nI_add i 1) ?_
            refine e_iload dX10_branches_176 rfl ?_
            refine e_iconst (nI 2) dX10_branches_178 (by decide) ?_
            refine e_icmp_ge 187 dX10_branches_179 (by decide) (fun c => absurd c (by decide)) (fun _ => ?_)
            refine e_lload dX10_branches_182 rfl ?_
            refine e_goto 193 dX10_branches_184 (by decide) ?_
            refine e_iload dX10_branches_193 rfl ?_
            refine e_callV (k := 89) [.int (nI fl), .int (nI c9), .int (nI (i + 1)), .long (nL w), .int (nI a)] dX10_branches_195 cc_X10_branches lk_RX10_277 im_X10_branches se_X10_branches (by decide) (Ms2.s 89 rfl) (Ms2.n (by decide)) rfl (Nat.le_of_ble_eq_true rfl) (Nat.le_of_ble_eq_true rfl) ?_
            show fEv g _ mX10_branches 0 [some (.ref 89), some (.int (nI fl)), some (.int (nI c9)), some (.int (nI (i + 1))), some (.long (nL w)), none, some (.int (nI a)), none, none, none] [] σ2 _
            refine e_iload_n dX10_branches_0 rfl rfl ?_
            refine e_istore (L1 := [some (.ref 89), some (.int (nI fl)), some (.int (nI c9)), some (.int (nI (i + 1))), some (.long (nL w)), none, some (.int (nI a)), some (.int (nI (i + 1))), none, none]) dX10_branches_1 (by decide) rfl ?_
            refine ih (i + 1) _ d _ _ _ w (s0) (dp + 1) σ2 (mspl D S i (mln D S i 0)) sd (by omega) Ms2 Mr2 r2 n2 ((hX2 31 (by decide)).trans htr) hdp2 (by omega) hsm2 ((hX2 33 (by decide)).trans htn) (fun σ3 Smx3 Mr3 hI3 hJ3 => ?_)
            show fEv g _ mX10_branches 198 [some (.ref 89), some (.int (nI fl)), some (.int (nI c9)), some (.int x3), some (.long (nL w)), none, some (.int (nI a)), some (.int (nI i)), some (.int (nI 0)), o9] [] σ3 Q
            have Sm3 := Sm2.tr (Smx3.to (B := fBA dp) (fun a q => by unfold fBA at q; unfold fBA; omega))
            have Ms3 := Ms.sm Sm3
            have hX3 : ∀ q, q ≠ 21 → fI σ3 89 q = fI σ 89 q := fun q hq => (congrFun hI3 q).trans (hX2 q hq)
            have hdp3 := (congrFun hI3 21).trans hdp2
            have hsm3 := hJ3
            have hR3 := hR2.sm Smx3 (by unfold fBA; omega)
            refine e_aload_n dX10_branches_198 rfl rfl ?_
            refine e_callV (k := 89) [] dX10_branches_199 cc_X10_takes lk_RX10_259 im_X10_takes se_X10_takes (by decide) (Ms3.s 89 rfl) (Ms3.n (by decide)) rfl (Nat.le_of_ble_eq_true rfl) (Nat.le_of_ble_eq_true rfl) ?_
            refine t_X10_takes Ms3 Mr3 hD (by omega) hdp3 hR3 (fun σ4 Smx4 Mr4 hdp4 m94 => ?_)
            show fEv g _ mX10_branches 202 [some (.ref 89), some (.int (nI fl)), some (.int (nI c9)), some (.int x3), some (.long (nL w)), none, some (.int (nI a)), some (.int (nI i)), some (.int (nI 0)), o9] [] σ4 Q
            have Sm4 := Sm3.tr (Smx4.to (B := fBA dp) (fun a q => by unfold fTA at q; unfold fBA; omega))
            have Ms4 := Ms.sm Sm4
            have hX4 : ∀ q, q ≠ 21 → fI σ4 89 q = fI σ 89 q := fun q hq => (m94.1 q hq).trans (hX3 q hq)
            skip
            have hsm4 := (congrFun m94.2 32).trans hsm3
            have hW4 := hW
            have hC4 := hC
            have hN4 := hN
            refine e_iinc (v := nI 1) (L1 := [some (.ref 89), some (.int (nI fl)), some (.int (nI c9)), some (.int x3), some (.long (nL w)), none, some (.int (nI a)), some (.int (nI i)), some (.int (nI 1)), o9]) dX10_branches_202 rfl (by decide) (by decide) rfl ?_
            refine e_goto 144 dX10_branches_205 (by decide) ?_
            refine e_iload dX10_branches_144 rfl ?_
            refine e_iconst (nI 3) dX10_branches_146 (by decide) ?_
            refine e_icmp_ge 208 dX10_branches_147 (by decide) (fun c => absurd c (by decide)) (fun _ => ?_)
            refine e_aload_n dX10_branches_150 rfl rfl ?_
            refine e_callV (k := 89) [] dX10_branches_151 cc_X10_puts lk_RX10_253 im_X10_puts se_X10_puts (by decide) (Ms4.s 89 rfl) (Ms4.n (by decide)) rfl (Nat.le_of_ble_eq_true rfl) (Nat.le_of_ble_eq_true rfl) ?_
            refine t_X10_puts Ms4 Mr4 hD (by omega) hdp4 (fun σ5 Smx5 Mr5 hR5 hdp5 m95 => ?_)
            show fEv g _ mX10_branches 154 [some (.ref 89), some (.int (nI fl)), some (.int (nI c9)), some (.int x3), some (.long (nL w)), none, some (.int (nI a)), some (.int (nI i)), some (.int (nI 1)), o9] [] σ5 Q
            have Sm5 := Sm4.tr (Smx5.to (B := fBA dp) (fun a q => by unfold fPA at q; unfold fBA; omega))
            have Ms5 := Ms.sm Sm5
            have hX5 : ∀ q, q ≠ 21 → fI σ5 89 q = fI σ 89 q := fun q hq => (m95.1 q hq).trans (hX4 q hq)
            skip
            have hsm5 := (congrFun m95.2 32).trans hsm4
            have hW5 := hW4
            have hC5 := hC4
            have hN5 := hN4
            refine e_aload_n dX10_branches_154 rfl rfl ?_
            refine e_iload dX10_branches_155 rfl ?_
            refine e_aload_n dX10_branches_157 rfl rfl ?_
            refine e_iload dX10_branches_158 rfl ?_
            refine e_iload dX10_branches_160 rfl ?_
            refine e_callV (k := 89) [.int (nI i), .int (nI 1)] dX10_branches_162 cc_X10_lineOf lk_RX10_201 im_X10_lineOf se_X10_lineOf (by decide) (Ms5.s 89 rfl) (Ms5.n (by decide)) rfl (Nat.le_of_ble_eq_true rfl) (Nat.le_of_ble_eq_true rfl) ?_
            refine t_X10_lineOf Ms5 Mr5 hD hW5 hi (by omega) hpc (fK_i ?_)
            show fEv g _ mX10_branches 165 [some (.ref 89), some (.int (nI fl)), some (.int (nI c9)), some (.int x3), some (.long (nL w)), none, some (.int (nI a)), some (.int (nI i)), some (.int (nI 1)), o9] [.int (nI (mln D S i 1)), .int (nI i), .ref 89] σ5 Q
            refine e_iload_n dX10_branches_165 rfl rfl ?_
            refine e_callV (k := 89) [.int (nI i), .int (nI (mln D S i 1)), .int (nI c9)] dX10_branches_166 cc_X10_splits lk_RX10_204 im_X10_splits se_X10_splits (by decide) (Ms5.s 89 rfl) (Ms5.n (by decide)) rfl (Nat.le_of_ble_eq_true rfl) (Nat.le_of_ble_eq_true rfl) ?_
            refine t_X10_splits (T := fun _ => 0) (tr := false) Ms5 Mr5 hD hW5 hC5 hN5 ((hX5 31 (by decide)).trans htr) hi hz hpc (mln_lt (by omega)) (fun σ6 Smx6 Mr6 _ => ?_)
            show fEv g _ mX10_branches 169 [some (.ref 89), some (.int (nI fl)), some (.int (nI c9)), some (.int x3), some (.long (nL w)), none, some (.int (nI a)), some (.int (nI i)), some (.int (nI 1)), o9] [] σ6 Q
            have Sm6 := Sm5.tr (Smx6.to (B := fBA dp) (fun a q => q.elim (fun z => Or.inr (Or.inl z)) (fun z => absurd z.1 Bool.false_ne_true)))
            have Ms6 := Ms.sm Sm6
            have hX6 : ∀ q, q ≠ 21 → fI σ6 89 q = fI σ 89 q := fun q hq => (Smx6.i (by unfold fRA; omega) q).trans (hX5 q hq)
            have hdp6 := (Smx6.i (by unfold fRA; omega) 21).trans hdp5
            have hsm6 := (Smx6.j (by unfold fRA; omega) 32).trans hsm5
            have hR6 := hR5.sm Smx6 (by unfold fRA; omega)
            have r6 := (mR_d 1 hD hn0 hi hR0 hdw).1
            have n6 := (fWN_spl (line := mln D S i 1) hD hW hC hi hz hpc hN).mono (Nat.le_refl _) (show i ≤ i + 1 by omega)
            refine e_aload_n dX10_branches_169 rfl rfl ?_
            refine e_iload_n dX10_branches_170 rfl rfl ?_
            refine e_iload_n dX10_branches_171 rfl rfl ?_
            refine e_iload dX10_branches_172 rfl ?_
            refine e_iconst (nI 1) dX10_branches_174 (by decide) ?_
            refine e_iadd dX10_branches_175 ?_
            refine e_int (nI (i + 1)) (nI_add i 1) ?_
            refine e_iload dX10_branches_176 rfl ?_
            refine e_iconst (nI 2) dX10_branches_178 (by decide) ?_
            refine e_icmp_ge 187 dX10_branches_179 (by decide) (fun c => absurd c (by decide)) (fun _ => ?_)
            refine e_lload dX10_branches_182 rfl ?_
            refine e_goto 193 dX10_branches_184 (by decide) ?_
            refine e_iload dX10_branches_193 rfl ?_
            refine e_callV (k := 89) [.int (nI fl), .int (nI c9), .int (nI (i + 1)), .long (nL w), .int (nI a)] dX10_branches_195 cc_X10_branches lk_RX10_277 im_X10_branches se_X10_branches (by decide) (Ms6.s 89 rfl) (Ms6.n (by decide)) rfl (Nat.le_of_ble_eq_true rfl) (Nat.le_of_ble_eq_true rfl) ?_
            show fEv g _ mX10_branches 0 [some (.ref 89), some (.int (nI fl)), some (.int (nI c9)), some (.int (nI (i + 1))), some (.long (nL w)), none, some (.int (nI a)), none, none, none] [] σ6 _
            refine e_iload_n dX10_branches_0 rfl rfl ?_
            refine e_istore (L1 := [some (.ref 89), some (.int (nI fl)), some (.int (nI c9)), some (.int (nI (i + 1))), some (.long (nL w)), none, some (.int (nI a)), some (.int (nI (i + 1))), none, none]) dX10_branches_1 (by decide) rfl ?_
            refine ih (i + 1) _ d _ _ _ w (s0 + w * mbr D (lf1 D a) fl c9 n (i + 1) (mspl D S i (mln D S i 0))) (dp + 1) σ6 (mspl D S i (mln D S i 1)) sd (by omega) Ms6 Mr6 r6 n6 ((hX6 31 (by decide)).trans htr) hdp6 (by omega) hsm6 ((hX6 33 (by decide)).trans htn) (fun σ7 Smx7 Mr7 hI7 hJ7 => ?_)
            show fEv g _ mX10_branches 198 [some (.ref 89), some (.int (nI fl)), some (.int (nI c9)), some (.int x3), some (.long (nL w)), none, some (.int (nI a)), some (.int (nI i)), some (.int (nI 1)), o9] [] σ7 Q
            have Sm7 := Sm6.tr (Smx7.to (B := fBA dp) (fun a q => by unfold fBA at q; unfold fBA; omega))
            have Ms7 := Ms.sm Sm7
            have hX7 : ∀ q, q ≠ 21 → fI σ7 89 q = fI σ 89 q := fun q hq => (congrFun hI7 q).trans (hX6 q hq)
            have hdp7 := (congrFun hI7 21).trans hdp6
            have hsm7 := hJ7
            have hR7 := hR6.sm Smx7 (by unfold fBA; omega)
            refine e_aload_n dX10_branches_198 rfl rfl ?_
            refine e_callV (k := 89) [] dX10_branches_199 cc_X10_takes lk_RX10_259 im_X10_takes se_X10_takes (by decide) (Ms7.s 89 rfl) (Ms7.n (by decide)) rfl (Nat.le_of_ble_eq_true rfl) (Nat.le_of_ble_eq_true rfl) ?_
            refine t_X10_takes Ms7 Mr7 hD (by omega) hdp7 hR7 (fun σ8 Smx8 Mr8 hdp8 m98 => ?_)
            show fEv g _ mX10_branches 202 [some (.ref 89), some (.int (nI fl)), some (.int (nI c9)), some (.int x3), some (.long (nL w)), none, some (.int (nI a)), some (.int (nI i)), some (.int (nI 1)), o9] [] σ8 Q
            have Sm8 := Sm7.tr (Smx8.to (B := fBA dp) (fun a q => by unfold fTA at q; unfold fBA; omega))
            have Ms8 := Ms.sm Sm8
            have hX8 : ∀ q, q ≠ 21 → fI σ8 89 q = fI σ 89 q := fun q hq => (m98.1 q hq).trans (hX7 q hq)
            skip
            have hsm8 := (congrFun m98.2 32).trans hsm7
            have hW8 := hW
            have hC8 := hC
            have hN8 := hN
            refine e_iinc (v := nI 2) (L1 := [some (.ref 89), some (.int (nI fl)), some (.int (nI c9)), some (.int x3), some (.long (nL w)), none, some (.int (nI a)), some (.int (nI i)), some (.int (nI 2)), o9]) dX10_branches_202 rfl (by decide) (by decide) rfl ?_
            refine e_goto 144 dX10_branches_205 (by decide) ?_
            refine e_iload dX10_branches_144 rfl ?_
            refine e_iconst (nI 3) dX10_branches_146 (by decide) ?_
            refine e_icmp_ge 208 dX10_branches_147 (by decide) (fun c => absurd c (by decide)) (fun _ => ?_)
            refine e_aload_n dX10_branches_150 rfl rfl ?_
            refine e_callV (k := 89) [] dX10_branches_151 cc_X10_puts lk_RX10_253 im_X10_puts se_X10_puts (by decide) (Ms8.s 89 rfl) (Ms8.n (by decide)) rfl (Nat.le_of_ble_eq_true rfl) (Nat.le_of_ble_eq_true rfl) ?_
            refine t_X10_puts Ms8 Mr8 hD (by omega) hdp8 (fun σ9 Smx9 Mr9 hR9 hdp9 m99 => ?_)
            show fEv g _ mX10_branches 154 [some (.ref 89), some (.int (nI fl)), some (.int (nI c9)), some (.int x3), some (.long (nL w)), none, some (.int (nI a)), some (.int (nI i)), some (.int (nI 2)), o9] [] σ9 Q
            have Sm9 := Sm8.tr (Smx9.to (B := fBA dp) (fun a q => by unfold fPA at q; unfold fBA; omega))
            have Ms9 := Ms.sm Sm9
            have hX9 : ∀ q, q ≠ 21 → fI σ9 89 q = fI σ 89 q := fun q hq => (m99.1 q hq).trans (hX8 q hq)
            skip
            have hsm9 := (congrFun m99.2 32).trans hsm8
            have hW9 := hW8
            have hC9 := hC8
            have hN9 := hN8
            refine e_aload_n dX10_branches_154 rfl rfl ?_
            refine e_iload dX10_branches_155 rfl ?_
            refine e_aload_n dX10_branches_157 rfl rfl ?_
            refine e_iload dX10_branches_158 rfl ?_
            refine e_iload dX10_branches_160 rfl ?_
            refine e_callV (k := 89) [.int (nI i), .int (nI 2)] dX10_branches_162 cc_X10_lineOf lk_RX10_201 im_X10_lineOf se_X10_lineOf (by decide) (Ms9.s 89 rfl) (Ms9.n (by decide)) rfl (Nat.le_of_ble_eq_true rfl) (Nat.le_of_ble_eq_true rfl) ?_
            refine t_X10_lineOf Ms9 Mr9 hD hW9 hi (by omega) hpc (fK_i ?_)
            show fEv g _ mX10_branches 165 [some (.ref 89), some (.int (nI fl)), some (.int (nI c9)), some (.int x3), some (.long (nL w)), none, some (.int (nI a)), some (.int (nI i)), some (.int (nI 2)), o9] [.int (nI (mln D S i 2)), .int (nI i), .ref 89] σ9 Q
            refine e_iload_n dX10_branches_165 rfl rfl ?_
            refine e_callV (k := 89) [.int (nI i), .int (nI (mln D S i 2)), .int (nI c9)] dX10_branches_166 cc_X10_splits lk_RX10_204 im_X10_splits se_X10_splits (by decide) (Ms9.s 89 rfl) (Ms9.n (by decide)) rfl (Nat.le_of_ble_eq_true rfl) (Nat.le_of_ble_eq_true rfl) ?_
            refine t_X10_splits (T := fun _ => 0) (tr := false) Ms9 Mr9 hD hW9 hC9 hN9 ((hX9 31 (by decide)).trans htr) hi hz hpc (mln_lt (by omega)) (fun σ10 Smx10 Mr10 _ => ?_)
            show fEv g _ mX10_branches 169 [some (.ref 89), some (.int (nI fl)), some (.int (nI c9)), some (.int x3), some (.long (nL w)), none, some (.int (nI a)), some (.int (nI i)), some (.int (nI 2)), o9] [] σ10 Q
            have Sm10 := Sm9.tr (Smx10.to (B := fBA dp) (fun a q => q.elim (fun z => Or.inr (Or.inl z)) (fun z => absurd z.1 Bool.false_ne_true)))
            have Ms10 := Ms.sm Sm10
            have hX10 : ∀ q, q ≠ 21 → fI σ10 89 q = fI σ 89 q := fun q hq => (Smx10.i (by unfold fRA; omega) q).trans (hX9 q hq)
            have hdp10 := (Smx10.i (by unfold fRA; omega) 21).trans hdp9
            have hsm10 := (Smx10.j (by unfold fRA; omega) 32).trans hsm9
            have hR10 := hR9.sm Smx10 (by unfold fRA; omega)
            have r10 := (mR_d 2 hD hn0 hi hR0 hdw).1
            have n10 := (fWN_spl (line := mln D S i 2) hD hW hC hi hz hpc hN).mono (Nat.le_refl _) (show i ≤ i + 1 by omega)
            refine e_aload_n dX10_branches_169 rfl rfl ?_
            refine e_iload_n dX10_branches_170 rfl rfl ?_
            refine e_iload_n dX10_branches_171 rfl rfl ?_
            refine e_iload dX10_branches_172 rfl ?_
            refine e_iconst (nI 1) dX10_branches_174 (by decide) ?_
            refine e_iadd dX10_branches_175 ?_
            refine e_int (nI (i + 1)) (nI_add i 1) ?_
            refine e_iload dX10_branches_176 rfl ?_
            refine e_iconst (nI 2) dX10_branches_178 (by decide) ?_
            refine e_icmp_ge 187 dX10_branches_179 (by decide) (fun _ => ?_) (fun c => absurd c (by decide))
            refine e_ldc2 (2) dX10_branches_187 kc_RX10_275 ?_
            refine e_long (nL 2) rfl ?_
            refine e_lload dX10_branches_190 rfl ?_
            refine e_lmul dX10_branches_192 ?_
            refine e_long (nL (2 * w)) (nL_mul 2 w) ?_
            refine e_iload dX10_branches_193 rfl ?_
            refine e_callV (k := 89) [.int (nI fl), .int (nI c9), .int (nI (i + 1)), .long (nL (2 * w)), .int (nI a)] dX10_branches_195 cc_X10_branches lk_RX10_277 im_X10_branches se_X10_branches (by decide) (Ms10.s 89 rfl) (Ms10.n (by decide)) rfl (Nat.le_of_ble_eq_true rfl) (Nat.le_of_ble_eq_true rfl) ?_
            show fEv g _ mX10_branches 0 [some (.ref 89), some (.int (nI fl)), some (.int (nI c9)), some (.int (nI (i + 1))), some (.long (nL (2 * w))), none, some (.int (nI a)), none, none, none] [] σ10 _
            refine e_iload_n dX10_branches_0 rfl rfl ?_
            refine e_istore (L1 := [some (.ref 89), some (.int (nI fl)), some (.int (nI c9)), some (.int (nI (i + 1))), some (.long (nL (2 * w))), none, some (.int (nI a)), some (.int (nI (i + 1))), none, none]) dX10_branches_1 (by decide) rfl ?_
            refine ih (i + 1) _ d _ _ _ (2 * w) (s0 + w * mbr D (lf1 D a) fl c9 n (i + 1) (mspl D S i (mln D S i 0)) + w * mbr D (lf1 D a) fl c9 n (i + 1) (mspl D S i (mln D S i 1))) (dp + 1) σ10 (mspl D S i (mln D S i 2)) sd (by omega) Ms10 Mr10 r10 n10 ((hX10 31 (by decide)).trans htr) hdp10 (by omega) hsm10 ((hX10 33 (by decide)).trans htn) (fun σ11 Smx11 Mr11 hI11 hJ11 => ?_)
            show fEv g _ mX10_branches 198 [some (.ref 89), some (.int (nI fl)), some (.int (nI c9)), some (.int x3), some (.long (nL w)), none, some (.int (nI a)), some (.int (nI i)), some (.int (nI 2)), o9] [] σ11 Q
            have Sm11 := Sm10.tr (Smx11.to (B := fBA dp) (fun a q => by unfold fBA at q; unfold fBA; omega))
            have Ms11 := Ms.sm Sm11
            have hX11 : ∀ q, q ≠ 21 → fI σ11 89 q = fI σ 89 q := fun q hq => (congrFun hI11 q).trans (hX10 q hq)
            have hdp11 := (congrFun hI11 21).trans hdp10
            have hsm11 := hJ11
            have hR11 := hR10.sm Smx11 (by unfold fBA; omega)
            refine e_aload_n dX10_branches_198 rfl rfl ?_
            refine e_callV (k := 89) [] dX10_branches_199 cc_X10_takes lk_RX10_259 im_X10_takes se_X10_takes (by decide) (Ms11.s 89 rfl) (Ms11.n (by decide)) rfl (Nat.le_of_ble_eq_true rfl) (Nat.le_of_ble_eq_true rfl) ?_
            refine t_X10_takes Ms11 Mr11 hD (by omega) hdp11 hR11 (fun σ12 Smx12 Mr12 hdp12 m912 => ?_)
            show fEv g _ mX10_branches 202 [some (.ref 89), some (.int (nI fl)), some (.int (nI c9)), some (.int x3), some (.long (nL w)), none, some (.int (nI a)), some (.int (nI i)), some (.int (nI 2)), o9] [] σ12 Q
            have Sm12 := Sm11.tr (Smx12.to (B := fBA dp) (fun a q => by unfold fTA at q; unfold fBA; omega))
            have Ms12 := Ms.sm Sm12
            have hX12 : ∀ q, q ≠ 21 → fI σ12 89 q = fI σ 89 q := fun q hq => (m912.1 q hq).trans (hX11 q hq)
            skip
            have hsm12 := (congrFun m912.2 32).trans hsm11
            have hW12 := hW
            have hC12 := hC
            have hN12 := hN
            refine e_iinc (v := nI 3) (L1 := [some (.ref 89), some (.int (nI fl)), some (.int (nI c9)), some (.int x3), some (.long (nL w)), none, some (.int (nI a)), some (.int (nI i)), some (.int (nI 3)), o9]) dX10_branches_202 rfl (by decide) (by decide) rfl ?_
            refine e_goto 144 dX10_branches_205 (by decide) ?_
            refine e_iload dX10_branches_144 rfl ?_
            refine e_iconst (nI 3) dX10_branches_146 (by decide) ?_
            refine e_icmp_ge 208 dX10_branches_147 (by decide) (fun _ => ?_) (fun c => absurd c (by decide))
            have hI9 : fI σ12 89 = fI σ 89 := by funext q; by_cases e : q = 21; rw [e, hdp12, hdp]; exact hX12 q e
            refine e_return dX10_branches_208 rfl (h σ12 Sm12 Mr12 hI9 (hsm12.trans ?_))
            rw [Nat.mul_add, Nat.mul_add, Nat.mul_comm 2 w, Nat.mul_assoc, Nat.add_assoc, Nat.add_assoc, Nat.add_assoc]
    · rw [nI_z (by omega)] at c20
      refine e_iinc (v := nI (i + 1)) (L1 := [some (.ref 89), some (.int (nI fl)), some (.int (nI c9)), some (.int x3), some (.long (nL w)), none, some (.int (nI a)), some (.int (nI (i + 1))), o8, o9]) dX10_branches_23 rfl (show nI i + Int32.ofInt 1 = nI (i + 1) from nI_add i 1) (by decide) rfl ?_
      refine e_goto 3 dX10_branches_26 (by decide) ?_
      have hV : mbr D (lf1 D a) fl c9 (n + 1) i S = mbr D (lf1 D a) fl c9 n (i + 1) S := by rw [mbr, if_neg (by omega)]
      rw [hV] at h
      have hh := ih (i + 1) Q (d + 1) x3 o8 o9 w s0 dp σ S sd (by omega) Ms Mr hR0 (hN.mono (Nat.le_refl _) (by omega)) htr hdp (by omega) hsm htn h
      rw [show d + 1 + n + 24 = d + (n + 1) + 24 by omega] at hh
      exact hh
set_option maxRecDepth 20000 in
theorem t_X10_br1 {g : fGP} {d : Nat} {σ : fAH} {Q : fRes → fAH → Prop} {D : fSD} {S : Nat → Nat} {sd : Int32} {fl c9 a w s0 dp : Nat} (Ms : fMs g σ) (Mr : fMr σ D S sd) (hD : fWD D) (hW : fWS D S) (hC : fWC D S) (hn : S 155 < 30) (hN : fWN S 0 0) (ha : a = S 151) (htr : fI σ 89 31 = nI (bn false)) (hdp : fI σ 89 21 = nI dp) (hdeep : dp + mon fl (dT D 1) 0 + 5 ≤ 20) (hsm : fJ σ 89 32 = nL s0) (htn : fI σ 89 33 = nI 1) (hf : fl < 4096) (hc9 : c9 < 100) (h : ∀ σ', fSm (fBA dp) σ σ' → fMr σ' D S sd → fI σ' 89 = fI σ 89 → fJ σ' 89 32 = nL (s0 + w * mbr D (lf1 D a) fl c9 (dT D 1) 0 S) → Q (.inl none) σ') : fEv g (d + 36) mX10_branches 0 (fent [.ref 89, .int (nI fl), .int (nI c9), .int (nI 0), .long (nL w), .int (nI a)] 10) [] σ Q := by
  show fEv g (d + 36) mX10_branches 0 [some (.ref 89), some (.int (nI fl)), some (.int (nI c9)), some (.int (nI 0)), some (.long (nL w)), none, some (.int (nI a)), none, none, none] [] σ Q
  refine e_iload_n dX10_branches_0 rfl rfl ?_
  refine e_istore (L1 := [some (.ref 89), some (.int (nI fl)), some (.int (nI c9)), some (.int (nI 0)), some (.long (nL w)), none, some (.int (nI a)), some (.int (nI 0)), none, none]) dX10_branches_1 (by decide) rfl ?_
  have t1 := hD.1.2.1
  have e : d + 36 = (d + (12 - dT D 1)) + dT D 1 + 24 := by omega
  rw [e]
  exact l_X10_br1 hD hn ha hf hc9 (dT D 1) 0 Q (d + (12 - dT D 1)) (nI 0) none none w s0 dp σ S sd (by omega) Ms Mr ⟨hW, hC, rfl, rfl, fun _ _ => rfl⟩ hN htr hdp hdeep hsm htn h
set_option maxRecDepth 20000 in
theorem l_X10_by1 {g : fGP} {d : Nat} {Q : fRes → fAH → Prop} {D : fSD} {S : Nat → Nat} {sd : Int32} {fl dp : Nat} {hd : Int64} (hD : fWD D) (hW : fWS D S) (hC : fWC D S) (hn : S 155 < 30) (hN : fWN S 0 0) (hdeep : dp + mon fl (dT D 1) 0 + 5 ≤ 20) (hf : fl < 4096) : ∀ (n i : Nat) (o8 : Option Value) (σ : fAH), i + n = dT D 6 → fMs g σ → fMr σ D S sd → fI σ 89 31 = nI (bn false) → fI σ 89 21 = nI dp → fJ σ 89 32 = nL (mpv D (lf1 D (S 151)) fl S i) → fI σ 89 33 = nI 1 → (∀ σ', fSm (fBA dp) σ σ' → fMr σ' D S sd → fI σ' 89 = fI σ 89 → fJ σ' 89 32 = hd → Q (.inl (some (.long (nL (mby D (lf1 D (S 151)) fl S))))) σ') → fEv g (d + 37) mX10_byOdds 16 [some (.ref 89), some (.int (nI fl)), some (.int (nI (8 - mlq D S i))), some (.long hd), none, none, none, some (.int (nI i)), o8] [] σ Q := by
  intro n
  induction n with
  | zero =>
    intro i o8 σ hin Ms Mr htr hdp hsm htn h
    obtain ⟨t0, t1, t2, t3, t4, t5, t6⟩ := id hD.1
    have n5 := hW.2.2.2.2
    have e9 : i = dT D 6 := by omega
    have ml := mlq_le hD S (i := i) (by omega)
    have pb := Mr.b (i := 151) (by decide)
    refine e_iload dX10_byOdds_16 rfl ?_
    refine e_aload_n dX10_byOdds_18 rfl rfl ?_
    refine e_getR (q := 92) dX10_byOdds_19 fl_RX10_20 (Ms.s 89 rfl) (Ms.n (by decide)) rfl (Ms.r 89 10 rfl) (by unfold fscr; omega) ?_
    refine e_bipush (nI 6) dX10_byOdds_22 (by decide) ?_
    refine e_iaload 6 dX10_byOdds_24 (Ms.s 92 rfl) (Ms.n (by decide)) rfl (by omega) (by decide) ?_
    refine e_int (nI (dT D 6)) (Mr.t 6 (by omega)) ?_
    refine e_icmp_gt 148 dX10_byOdds_25 (by decide) (fun cz => absurd ((nI_lt' (by omega) (by omega)).mp cz) (by omega)) (fun cz => ?_)
    refine e_iload dX10_byOdds_28 rfl ?_
    refine e_aload_n dX10_byOdds_30 rfl rfl ?_
    refine e_getR (q := 92) dX10_byOdds_31 fl_RX10_20 (Ms.s 89 rfl) (Ms.n (by decide)) rfl (Ms.r 89 10 rfl) (by unfold fscr; omega) ?_
    refine e_bipush (nI 6) dX10_byOdds_34 (by decide) ?_
    refine e_iaload 6 dX10_byOdds_36 (Ms.s 92 rfl) (Ms.n (by decide)) rfl (by omega) (by decide) ?_
    refine e_int (nI (dT D 6)) (Mr.t 6 (by omega)) ?_
    refine e_icmp_ge 63 dX10_byOdds_37 (by decide) (fun cz => ?_) (fun cz => absurd ((nI_le' (by omega) (by omega)).mpr (by omega)) cz)
    refine e_iload dX10_byOdds_63 rfl ?_
    refine e_aload_n dX10_byOdds_65 rfl rfl ?_
    refine e_getR (q := 92) dX10_byOdds_66 fl_RX10_20 (Ms.s 89 rfl) (Ms.n (by decide)) rfl (Ms.r 89 10 rfl) (by unfold fscr; omega) ?_
    refine e_bipush (nI 6) dX10_byOdds_69 (by decide) ?_
    refine e_iaload 6 dX10_byOdds_71 (Ms.s 92 rfl) (Ms.n (by decide)) rfl (by omega) (by decide) ?_
    refine e_int (nI (dT D 6)) (Mr.t 6 (by omega)) ?_
    refine e_icmp_ge 87 dX10_byOdds_72 (by decide) (fun cz => ?_) (fun cz => absurd ((nI_le' (by omega) (by omega)).mpr (by omega)) cz)
    refine e_iload_n dX10_byOdds_87 rfl rfl ?_
    refine e_istore (L1 := [some (.ref 89), some (.int (nI fl)), some (.int (nI (8 - mlq D S i))), some (.long hd), none, none, none, some (.int (nI i)), some (.int (nI (8 - mlq D S i)))]) dX10_byOdds_88 (by decide) rfl ?_
    refine e_iload_n dX10_byOdds_90 rfl rfl ?_
    refine e_iload dX10_byOdds_91 rfl ?_
    refine e_isub dX10_byOdds_93 ?_
    refine e_int (nI ((8 - mlq D S i) - (8 - mlq D S i))) (pk_sub (by omega)) ?_
    refine e_istore_n (L1 := [some (.ref 89), some (.int (nI fl)), some (.int (nI ((8 - mlq D S i) - (8 - mlq D S i)))), some (.long hd), none, none, none, some (.int (nI i)), some (.int (nI (8 - mlq D S i)))]) dX10_byOdds_94 rfl (by decide) rfl ?_
    refine e_iload dX10_byOdds_95 rfl ?_
    refine e_if_le 142 dX10_byOdds_97 (by decide) (fun c97 => ?_) (fun c97 => ?_)
    · rw [nI_zle (by omega)] at c97
      refine e_iinc (v := nI (i + 1)) (L1 := [some (.ref 89), some (.int (nI fl)), some (.int (nI ((8 - mlq D S i) - (8 - mlq D S i)))), some (.long hd), none, none, none, some (.int (nI (i + 1))), some (.int (nI (8 - mlq D S i)))]) dX10_byOdds_142 rfl (show nI i + Int32.ofInt 1 = nI (i + 1) from nI_add i 1) (by decide) rfl ?_
      refine e_goto 16 dX10_byOdds_145 (by decide) ?_
      refine e_iload dX10_byOdds_16 rfl ?_
      refine e_aload_n dX10_byOdds_18 rfl rfl ?_
      refine e_getR (q := 92) dX10_byOdds_19 fl_RX10_20 (Ms.s 89 rfl) (Ms.n (by decide)) rfl (Ms.r 89 10 rfl) (by unfold fscr; omega) ?_
      refine e_bipush (nI 6) dX10_byOdds_22 (by decide) ?_
      refine e_iaload 6 dX10_byOdds_24 (Ms.s 92 rfl) (Ms.n (by decide)) rfl (by omega) (by decide) ?_
      refine e_int (nI (dT D 6)) (Mr.t 6 (by omega)) ?_
      refine e_icmp_gt 148 dX10_byOdds_25 (by decide) (fun cz => ?_) (fun cz => absurd ((nI_lt' (by omega) (by omega)).mpr (by omega)) cz)
      refine e_aload_n dX10_byOdds_148 rfl rfl ?_
      refine e_getL dX10_byOdds_149 fl_RX10_271 (Ms.s 89 rfl) (Ms.n (by decide)) rfl ?_
      refine e_long (nL (mpv D (lf1 D (S 151)) fl S i)) hsm ?_
      refine e_lstore (L1 := [some (.ref 89), some (.int (nI fl)), some (.int (nI ((8 - mlq D S i) - (8 - mlq D S i)))), some (.long hd), none, some (.long (nL (mpv D (lf1 D (S 151)) fl S i))), none, some (.int (nI (i + 1))), some (.int (nI (8 - mlq D S i)))]) dX10_byOdds_152 (by decide) rfl ?_
      refine e_aload_n dX10_byOdds_154 rfl rfl ?_
      refine e_lload_n dX10_byOdds_155 rfl rfl ?_
      refine e_putL dX10_byOdds_156 fl_RX10_271 (Ms.s 89 rfl) (Ms.n (by decide)) rfl rfl ?_
      refine e_lload dX10_byOdds_159 rfl ?_
      have hm : mby D (lf1 D (S 151)) fl S = mpv D (lf1 D (S 151)) fl S i := by rw [mby_v, ← e9, show 8 - mlq D S i = 0 by omega, Nat.zero_mul, Nat.add_zero]
      rw [hm] at h
      exact e_lreturn dX10_byOdds_161 rfl (h _ ((fSm_J (Or.inl rfl))) Mr rfl (by rw [fJ_J, if_pos ⟨rfl, rfl⟩]))
    · rw [nI_zle (by omega)] at c97
      refine e_aload_n dX10_byOdds_100 rfl rfl ?_
      refine e_iload_n dX10_byOdds_101 rfl rfl ?_
      refine e_iload dX10_byOdds_102 rfl ?_
      refine e_aload_n dX10_byOdds_104 rfl rfl ?_
      refine e_getR (q := 92) dX10_byOdds_105 fl_RX10_20 (Ms.s 89 rfl) (Ms.n (by decide)) rfl (Ms.r 89 10 rfl) (by unfold fscr; omega) ?_
      refine e_bipush (nI 6) dX10_byOdds_108 (by decide) ?_
      refine e_iaload 6 dX10_byOdds_110 (Ms.s 92 rfl) (Ms.n (by decide)) rfl (by omega) (by decide) ?_
      refine e_int (nI (dT D 6)) (Mr.t 6 (by omega)) ?_
      refine e_icmp_ge 126 dX10_byOdds_111 (by decide) (fun cz => ?_) (fun cz => absurd ((nI_le' (by omega) (by omega)).mpr (by omega)) cz)
      refine e_iconst (nI 0) dX10_byOdds_126 (by decide) ?_
      refine e_iconst (nI 0) dX10_byOdds_127 (by decide) ?_
      refine e_iload dX10_byOdds_128 rfl ?_
      refine e_i2l dX10_byOdds_130 ?_
      refine e_long (nL (8 - mlq D S i)) (nL_i (by omega)) ?_
      refine e_aload_n dX10_byOdds_131 rfl rfl ?_
      refine e_getR (q := 197) dX10_byOdds_132 fl_RX10_49 (Ms.s 89 rfl) (Ms.n (by decide)) rfl (Ms.r 89 19 rfl) (by unfold fscr; omega) ?_
      refine e_sipush (nI 151) dX10_byOdds_135 (by decide) ?_
      refine e_iaload 151 dX10_byOdds_138 (Ms.s 197 rfl) (Ms.n (by decide)) rfl (by omega) (by decide) ?_
      refine e_int (nI (S 151)) (Mr.s 151 (by omega)) ?_
      refine e_callV (k := 89) [.int (nI fl), .int (nI 0), .int (nI 0), .long (nL (8 - mlq D S i)), .int (nI (S 151))] dX10_byOdds_139 cc_X10_branches lk_RX10_277 im_X10_branches se_X10_branches (by decide) (Ms.s 89 rfl) (Ms.n (by decide)) rfl (Nat.le_of_ble_eq_true rfl) (Nat.le_of_ble_eq_true rfl) ?_
      refine t_X10_br1 (dp := dp) Ms Mr hD hW hC hn hN rfl htr hdp hdeep hsm htn hf (by omega) (fun σ1 Smx1 Mr1 hI1 hJ1 => ?_)
      show fEv g _ mX10_byOdds 142 [some (.ref 89), some (.int (nI fl)), some (.int (nI ((8 - mlq D S i) - (8 - mlq D S i)))), some (.long hd), none, none, none, some (.int (nI i)), some (.int (nI (8 - mlq D S i)))] [] σ1 Q
      have Sm1 := (Smx1.to (B := fBA dp) (fun a q => by unfold fBA at q; unfold fBA; omega))
      have Ms1 := Ms.sm Sm1
      have hX1 : ∀ q, q ≠ 21 → fI σ1 89 q = fI σ 89 q := fun q hq => (congrFun hI1 q)
      have hdp1 := (congrFun hI1 21).trans hdp
      have hsm1 := hJ1
      have hW1 := hW
      refine e_iinc (v := nI (i + 1)) (L1 := [some (.ref 89), some (.int (nI fl)), some (.int (nI ((8 - mlq D S i) - (8 - mlq D S i)))), some (.long hd), none, none, none, some (.int (nI (i + 1))), some (.int (nI (8 - mlq D S i)))]) dX10_byOdds_142 rfl (show nI i + Int32.ofInt 1 = nI (i + 1) from nI_add i 1) (by decide) rfl ?_
      refine e_goto 16 dX10_byOdds_145 (by decide) ?_
      refine e_iload dX10_byOdds_16 rfl ?_
      refine e_aload_n dX10_byOdds_18 rfl rfl ?_
      refine e_getR (q := 92) dX10_byOdds_19 fl_RX10_20 (Ms1.s 89 rfl) (Ms1.n (by decide)) rfl (Ms1.r 89 10 rfl) (by unfold fscr; omega) ?_
      refine e_bipush (nI 6) dX10_byOdds_22 (by decide) ?_
      refine e_iaload 6 dX10_byOdds_24 (Ms1.s 92 rfl) (Ms1.n (by decide)) rfl (by omega) (by decide) ?_
      refine e_int (nI (dT D 6)) (Mr1.t 6 (by omega)) ?_
      refine e_icmp_gt 148 dX10_byOdds_25 (by decide) (fun cz => ?_) (fun cz => absurd ((nI_lt' (by omega) (by omega)).mpr (by omega)) cz)
      refine e_aload_n dX10_byOdds_148 rfl rfl ?_
      refine e_getL dX10_byOdds_149 fl_RX10_271 (Ms1.s 89 rfl) (Ms1.n (by decide)) rfl ?_
      refine e_long (nL (mpv D (lf1 D (S 151)) fl S i + (8 - mlq D S i) * mbr D (lf1 D (S 151)) fl 0 (dT D 1) 0 S)) hsm1 ?_
      refine e_lstore (L1 := [some (.ref 89), some (.int (nI fl)), some (.int (nI ((8 - mlq D S i) - (8 - mlq D S i)))), some (.long hd), none, some (.long (nL (mpv D (lf1 D (S 151)) fl S i + (8 - mlq D S i) * mbr D (lf1 D (S 151)) fl 0 (dT D 1) 0 S))), none, some (.int (nI (i + 1))), some (.int (nI (8 - mlq D S i)))]) dX10_byOdds_152 (by decide) rfl ?_
      refine e_aload_n dX10_byOdds_154 rfl rfl ?_
      refine e_lload_n dX10_byOdds_155 rfl rfl ?_
      refine e_putL dX10_byOdds_156 fl_RX10_271 (Ms1.s 89 rfl) (Ms1.n (by decide)) rfl rfl ?_
      refine e_lload dX10_byOdds_159 rfl ?_
      have hm : mby D (lf1 D (S 151)) fl S = mpv D (lf1 D (S 151)) fl S i + (8 - mlq D S i) * mbr D (lf1 D (S 151)) fl 0 (dT D 1) 0 S := by rw [mby_v, ← e9]
      rw [hm] at h
      exact e_lreturn dX10_byOdds_161 rfl (h _ (Sm1.tr (fSm_J (Or.inl rfl))) Mr1 (show fI σ1 89 = fI σ 89 from hI1) (by rw [fJ_J, if_pos ⟨rfl, rfl⟩]))
  | succ n ih =>
    intro i o8 σ hin Ms Mr htr hdp hsm htn h
    obtain ⟨t0, t1, t2, t3, t4, t5, t6⟩ := id hD.1
    have n5 := hW.2.2.2.2
    have hi : i < dT D 6 := by omega
    have z := hD.2.2.2.2.1 i hi
    have ml := mlq_le hD S (i := i) (by omega)
    have ml1 := mlq_le hD S (i := i + 1) (by omega)
    have pb := Mr.b (i := 151) (by decide)
    refine e_iload dX10_byOdds_16 rfl ?_
    refine e_aload_n dX10_byOdds_18 rfl rfl ?_
    refine e_getR (q := 92) dX10_byOdds_19 fl_RX10_20 (Ms.s 89 rfl) (Ms.n (by decide)) rfl (Ms.r 89 10 rfl) (by unfold fscr; omega) ?_
    refine e_bipush (nI 6) dX10_byOdds_22 (by decide) ?_
    refine e_iaload 6 dX10_byOdds_24 (Ms.s 92 rfl) (Ms.n (by decide)) rfl (by omega) (by decide) ?_
    refine e_int (nI (dT D 6)) (Mr.t 6 (by omega)) ?_
    refine e_icmp_gt 148 dX10_byOdds_25 (by decide) (fun cz => absurd ((nI_lt' (by omega) (by omega)).mp cz) (by omega)) (fun cz => ?_)
    refine e_iload dX10_byOdds_28 rfl ?_
    refine e_aload_n dX10_byOdds_30 rfl rfl ?_
    refine e_getR (q := 92) dX10_byOdds_31 fl_RX10_20 (Ms.s 89 rfl) (Ms.n (by decide)) rfl (Ms.r 89 10 rfl) (by unfold fscr; omega) ?_
    refine e_bipush (nI 6) dX10_byOdds_34 (by decide) ?_
    refine e_iaload 6 dX10_byOdds_36 (Ms.s 92 rfl) (Ms.n (by decide)) rfl (by omega) (by decide) ?_
    refine e_int (nI (dT D 6)) (Mr.t 6 (by omega)) ?_
    refine e_icmp_ge 63 dX10_byOdds_37 (by decide) (fun cz => absurd ((nI_le' (by omega) (by omega)).mp cz) (by omega)) (fun cz => ?_)
    refine e_aload_n dX10_byOdds_40 rfl rfl ?_
    refine e_getR (q := 172) dX10_byOdds_41 fl_RX10_46 (Ms.s 89 rfl) (Ms.n (by decide)) rfl (Ms.r 89 18 rfl) (by unfold fscr; omega) ?_
    refine e_iload dX10_byOdds_44 rfl ?_
    refine e_aaload (q := 173 + i) i dX10_byOdds_46 (Ms.s 172 rfl) (by decide) (Ms.n (by decide)) rfl (by omega) (by decide) (Ms.r 172 _ (frf_odds _ (by omega))) (by unfold fscr; omega) ?_
    refine e_iconst (nI 0) dX10_byOdds_47 (by decide) ?_
    refine e_iaload 0 dX10_byOdds_48 (Ms.s _ (fsh_odds _ (by omega))) (Ms.n (by omega)) rfl (by omega) (by decide) ?_
    refine e_int (nI (dZ D i 0)) (Mr.odds i (by omega) 0 (by omega)) ?_
    refine e_aload_n dX10_byOdds_49 rfl rfl ?_
    refine e_getR (q := 197) dX10_byOdds_50 fl_RX10_49 (Ms.s 89 rfl) (Ms.n (by decide)) rfl (Ms.r 89 19 rfl) (by unfold fscr; omega) ?_
    refine e_sipush (nI 155) dX10_byOdds_53 (by decide) ?_
    refine e_iaload 155 dX10_byOdds_56 (Ms.s 197 rfl) (Ms.n (by decide)) rfl (by omega) (by decide) ?_
    refine e_int (nI (S 155)) (Mr.s 155 (by omega)) ?_
    refine e_icmp_eq 63 dX10_byOdds_57 (by decide) (fun c57 => ?_) (fun c57 => ?_)
    · rw [nI_inj (by omega) (by omega)] at c57
      have mt := mlq_t c57
      refine e_iload dX10_byOdds_63 rfl ?_
      refine e_aload_n dX10_byOdds_65 rfl rfl ?_
      refine e_getR (q := 92) dX10_byOdds_66 fl_RX10_20 (Ms.s 89 rfl) (Ms.n (by decide)) rfl (Ms.r 89 10 rfl) (by unfold fscr; omega) ?_
      refine e_bipush (nI 6) dX10_byOdds_69 (by decide) ?_
      refine e_iaload 6 dX10_byOdds_71 (Ms.s 92 rfl) (Ms.n (by decide)) rfl (by omega) (by decide) ?_
      refine e_int (nI (dT D 6)) (Mr.t 6 (by omega)) ?_
      refine e_icmp_ge 87 dX10_byOdds_72 (by decide) (fun cz => absurd ((nI_le' (by omega) (by omega)).mp cz) (by omega)) (fun cz => ?_)
      refine e_aload_n dX10_byOdds_75 rfl rfl ?_
      refine e_getR (q := 172) dX10_byOdds_76 fl_RX10_46 (Ms.s 89 rfl) (Ms.n (by decide)) rfl (Ms.r 89 18 rfl) (by unfold fscr; omega) ?_
      refine e_iload dX10_byOdds_79 rfl ?_
      refine e_aaload (q := 173 + i) i dX10_byOdds_81 (Ms.s 172 rfl) (by decide) (Ms.n (by decide)) rfl (by omega) (by decide) (Ms.r 172 _ (frf_odds _ (by omega))) (by unfold fscr; omega) ?_
      refine e_iconst (nI 2) dX10_byOdds_82 (by decide) ?_
      refine e_iaload 2 dX10_byOdds_83 (Ms.s _ (fsh_odds _ (by omega))) (Ms.n (by omega)) rfl (by omega) (by decide) ?_
      refine e_int (nI (dZ D i 2)) (Mr.odds i (by omega) 2 (by omega)) ?_
      refine e_goto 88 dX10_byOdds_84 (by decide) ?_
      refine e_istore (L1 := [some (.ref 89), some (.int (nI fl)), some (.int (nI (8 - mlq D S i))), some (.long hd), none, none, none, some (.int (nI i)), some (.int (nI (dZ D i 2)))]) dX10_byOdds_88 (by decide) rfl ?_
      refine e_iload_n dX10_byOdds_90 rfl rfl ?_
      refine e_iload dX10_byOdds_91 rfl ?_
      refine e_isub dX10_byOdds_93 ?_
      refine e_int (nI ((8 - mlq D S i) - (dZ D i 2))) (pk_sub (by omega)) ?_
      refine e_istore_n (L1 := [some (.ref 89), some (.int (nI fl)), some (.int (nI ((8 - mlq D S i) - (dZ D i 2)))), some (.long hd), none, none, none, some (.int (nI i)), some (.int (nI (dZ D i 2)))]) dX10_byOdds_94 rfl (by decide) rfl ?_
      refine e_iload dX10_byOdds_95 rfl ?_
      refine e_if_le 142 dX10_byOdds_97 (by decide) (fun cz => absurd ((nI_zle (by omega)).mp cz) (by omega)) (fun cz => ?_)
      refine e_aload_n dX10_byOdds_100 rfl rfl ?_
      refine e_iload_n dX10_byOdds_101 rfl rfl ?_
      refine e_iload dX10_byOdds_102 rfl ?_
      refine e_aload_n dX10_byOdds_104 rfl rfl ?_
      refine e_getR (q := 92) dX10_byOdds_105 fl_RX10_20 (Ms.s 89 rfl) (Ms.n (by decide)) rfl (Ms.r 89 10 rfl) (by unfold fscr; omega) ?_
      refine e_bipush (nI 6) dX10_byOdds_108 (by decide) ?_
      refine e_iaload 6 dX10_byOdds_110 (Ms.s 92 rfl) (Ms.n (by decide)) rfl (by omega) (by decide) ?_
      refine e_int (nI (dT D 6)) (Mr.t 6 (by omega)) ?_
      refine e_icmp_ge 126 dX10_byOdds_111 (by decide) (fun cz => absurd ((nI_le' (by omega) (by omega)).mp cz) (by omega)) (fun cz => ?_)
      refine e_aload_n dX10_byOdds_114 rfl rfl ?_
      refine e_getR (q := 172) dX10_byOdds_115 fl_RX10_46 (Ms.s 89 rfl) (Ms.n (by decide)) rfl (Ms.r 89 18 rfl) (by unfold fscr; omega) ?_
      refine e_iload dX10_byOdds_118 rfl ?_
      refine e_aaload (q := 173 + i) i dX10_byOdds_120 (Ms.s 172 rfl) (by decide) (Ms.n (by decide)) rfl (by omega) (by decide) (Ms.r 172 _ (frf_odds _ (by omega))) (by unfold fscr; omega) ?_
      refine e_iconst (nI 1) dX10_byOdds_121 (by decide) ?_
      refine e_iaload 1 dX10_byOdds_122 (Ms.s _ (fsh_odds _ (by omega))) (Ms.n (by omega)) rfl (by omega) (by decide) ?_
      refine e_int (nI (dZ D i 1)) (Mr.odds i (by omega) 1 (by omega)) ?_
      refine e_goto 127 dX10_byOdds_123 (by decide) ?_
      refine e_iconst (nI 0) dX10_byOdds_127 (by decide) ?_
      refine e_iload dX10_byOdds_128 rfl ?_
      refine e_i2l dX10_byOdds_130 ?_
      refine e_long (nL (dZ D i 2)) (nL_i (by omega)) ?_
      refine e_aload_n dX10_byOdds_131 rfl rfl ?_
      refine e_getR (q := 197) dX10_byOdds_132 fl_RX10_49 (Ms.s 89 rfl) (Ms.n (by decide)) rfl (Ms.r 89 19 rfl) (by unfold fscr; omega) ?_
      refine e_sipush (nI 151) dX10_byOdds_135 (by decide) ?_
      refine e_iaload 151 dX10_byOdds_138 (Ms.s 197 rfl) (Ms.n (by decide)) rfl (by omega) (by decide) ?_
      refine e_int (nI (S 151)) (Mr.s 151 (by omega)) ?_
      refine e_callV (k := 89) [.int (nI fl), .int (nI (dZ D i 1)), .int (nI 0), .long (nL (dZ D i 2)), .int (nI (S 151))] dX10_byOdds_139 cc_X10_branches lk_RX10_277 im_X10_branches se_X10_branches (by decide) (Ms.s 89 rfl) (Ms.n (by decide)) rfl (Nat.le_of_ble_eq_true rfl) (Nat.le_of_ble_eq_true rfl) ?_
      refine t_X10_br1 (dp := dp) Ms Mr hD hW hC hn hN rfl htr hdp hdeep hsm htn hf (by omega) (fun σ1 Smx1 Mr1 hI1 hJ1 => ?_)
      show fEv g _ mX10_byOdds 142 [some (.ref 89), some (.int (nI fl)), some (.int (nI ((8 - mlq D S i) - (dZ D i 2)))), some (.long hd), none, none, none, some (.int (nI i)), some (.int (nI (dZ D i 2)))] [] σ1 Q
      have Sm1 := (Smx1.to (B := fBA dp) (fun a q => by unfold fBA at q; unfold fBA; omega))
      have Ms1 := Ms.sm Sm1
      have hX1 : ∀ q, q ≠ 21 → fI σ1 89 q = fI σ 89 q := fun q hq => (congrFun hI1 q)
      have hdp1 := (congrFun hI1 21).trans hdp
      have hsm1 := hJ1
      have hW1 := hW
      refine e_iinc (v := nI (i + 1)) (L1 := [some (.ref 89), some (.int (nI fl)), some (.int (nI ((8 - mlq D S i) - (dZ D i 2)))), some (.long hd), none, none, none, some (.int (nI (i + 1))), some (.int (nI (dZ D i 2)))]) dX10_byOdds_142 rfl (show nI i + Int32.ofInt 1 = nI (i + 1) from nI_add i 1) (by decide) rfl ?_
      refine e_goto 16 dX10_byOdds_145 (by decide) ?_
      rw [show 8 - mlq D S i - dZ D i 2 = 8 - mlq D S (i + 1) by omega]
      rw [← mpv_t (show dZ D i 0 = S 155 by omega)] at hsm1
      exact ih (i + 1) _ σ1 (by omega) Ms1 Mr1 ((hX1 31 (by decide)).trans htr) hdp1 hsm1 ((hX1 33 (by decide)).trans htn) (fun σ' Sm' Mr' hI' hJ' => h σ' (Sm1.tr Sm') Mr' (hI'.trans hI1) hJ')
    · rw [nI_inj (by omega) (by omega)] at c57
      refine e_goto 142 dX10_byOdds_60 (by decide) ?_
      refine e_iinc (v := nI (i + 1)) (L1 := [some (.ref 89), some (.int (nI fl)), some (.int (nI (8 - mlq D S i))), some (.long hd), none, none, none, some (.int (nI (i + 1))), o8]) dX10_byOdds_142 rfl (show nI i + Int32.ofInt 1 = nI (i + 1) from nI_add i 1) (by decide) rfl ?_
      refine e_goto 16 dX10_byOdds_145 (by decide) ?_
      rw [← mlq_f (show ¬ dZ D i 0 = S 155 by omega)]
      rw [← mpv_f (show ¬ dZ D i 0 = S 155 by omega)] at hsm
      exact ih (i + 1) _ σ (by omega) Ms Mr htr hdp hsm htn h
set_option maxRecDepth 20000 in
theorem t_X10_by1 {g : fGP} {d : Nat} {σ : fAH} {Q : fRes → fAH → Prop} {D : fSD} {S : Nat → Nat} {sd : Int32} {fl dp : Nat} (Ms : fMs g σ) (Mr : fMr σ D S sd) (hD : fWD D) (hW : fWS D S) (hC : fWC D S) (hn : S 155 < 30) (hN : fWN S 0 0) (htr : fI σ 89 31 = nI (bn false)) (hdp : fI σ 89 21 = nI dp) (hdeep : dp + mon fl (dT D 1) 0 + 5 ≤ 20) (htn : fI σ 89 33 = nI 1) (hf : fl < 4096) (h : ∀ σ', fSm (fBA dp) σ σ' → fMr σ' D S sd → fI σ' 89 = fI σ 89 → fJ σ' 89 32 = fJ σ 89 32 → Q (.inl (some (.long (nL (mby D (lf1 D (S 151)) fl S))))) σ') : fEv g (d + 37) mX10_byOdds 0 (fent [.ref 89, .int (nI fl)] 9) [] σ Q := by
  obtain ⟨hd, hsm⟩ : ∃ hd, fJ σ 89 32 = hd := ⟨_, rfl⟩
  show fEv g (d + 37) mX10_byOdds 0 [some (.ref 89), some (.int (nI fl)), none, none, none, none, none, none, none] [] σ Q
  refine e_bipush (nI 8) dX10_byOdds_0 (by decide) ?_
  refine e_istore_n (L1 := [some (.ref 89), some (.int (nI fl)), some (.int (nI 8)), none, none, none, none, none, none]) dX10_byOdds_2 rfl (by decide) rfl ?_
  refine e_aload_n dX10_byOdds_3 rfl rfl ?_
  refine e_getL dX10_byOdds_4 fl_RX10_271 (Ms.s 89 rfl) (Ms.n (by decide)) rfl ?_
  refine e_long (hd) hsm ?_
  refine e_lstore_n (L1 := [some (.ref 89), some (.int (nI fl)), some (.int (nI 8)), some (.long hd), none, none, none, none, none]) dX10_byOdds_7 rfl (by decide) rfl ?_
  refine e_aload_n dX10_byOdds_8 rfl rfl ?_
  refine e_lconst 0 dX10_byOdds_9 (by decide) ?_
  refine e_long (nL 0) rfl ?_
  refine e_putL dX10_byOdds_10 fl_RX10_271 (Ms.s 89 rfl) (Ms.n (by decide)) rfl rfl ?_
  refine e_iconst (nI 0) dX10_byOdds_13 (by decide) ?_
  refine e_istore (L1 := [some (.ref 89), some (.int (nI fl)), some (.int (nI 8)), some (.long hd), none, none, none, some (.int (nI 0)), none]) dX10_byOdds_14 (by decide) rfl ?_
  have Sm1 : fSm (fBA dp) σ (fsJ σ 89 32 (nL 0)) := fSm_J (Or.inl rfl)
  have Mr1 : fMr (fsJ σ 89 32 (nL 0)) D S sd := Mr
  have hI1 : fI (fsJ σ 89 32 (nL 0)) 89 = fI σ 89 := rfl
  have hJ1 : fJ (fsJ σ 89 32 (nL 0)) 89 32 = nL 0 := by rw [fJ_J, if_pos ⟨rfl, rfl⟩]
  generalize fsJ σ 89 32 (nL 0) = σ1 at Sm1 Mr1 hI1 hJ1 ⊢
  exact l_X10_by1 hD hW hC hn hN hdeep hf (dT D 6) 0 none σ1 (by omega) (Ms.sm Sm1) Mr1 ((congrFun hI1 31).trans htr) ((congrFun hI1 21).trans hdp) hJ1 ((congrFun hI1 33).trans htn) (fun σ' Sm' Mr' hI' hJ' => h σ' (Sm1.tr Sm') Mr' (hI'.trans hI1) (hJ'.trans hsm.symm))
set_option maxRecDepth 20000 in
theorem l_X10_findTonight {g : fGP} {d : Nat} {Q : fRes → fAH → Prop} {D : fSD} {S : Nat → Nat} {sd : Int32} {dp : Nat} (hD : fWD D) (hW : fWS D S) (hC : fWC D S) (hn : S 155 < 30) (hN : fWN S 0 0) (hdeep : dp + 8 ≤ 20) : ∀ (n i : Nat) (b : Option Nat) (bs : Nat) (o4 o5 o6 : Option Value) (σ : fAH), i + n = 8 → fMs g σ → fMr σ D S sd → fI σ 89 31 = nI (bn false) → fI σ 89 21 = nI dp → fI σ 89 33 = nI 1 → (∀ x, b = some x → x ≤ 512 * (512 * 891 + 512 * 891)) → fI σ 89 34 = nI bs → (∀ σ', fSm (fBA dp) σ σ' → fMr σ' D S sd → (∀ q, q ≠ 33 → q ≠ 34 → fI σ' 89 q = fI σ 89 q) → fI σ' 89 33 = nI 0 → fI σ' 89 34 = nI (mfo (mset D S) (mG D (lf1 D (S 151)) S) n i b bs).2 → fJ σ' 89 32 = fJ σ 89 32 → Q (.inl (some (.long (ob (mfo (mset D S) (mG D (lf1 D (S 151)) S) n i b bs).1)))) σ') → fEv g (d + 38) mX10_findTonight 16 [some (.ref 89), some (.long (ob b)), none, some (.int (nI i)), o4, o5, o6] [] σ Q := by
  intro n
  induction n with
  | zero =>
    intro i b bs o4 o5 o6 σ hin Ms Mr htr hdp htn hb hbs h
    obtain ⟨t0, t1, t2, t3, t4, t5, t6⟩ := id hD.1
    have n5 := hW.2.2.2.2
    refine e_iload_n dX10_findTonight_16 rfl rfl ?_
    refine e_bipush (nI 8) dX10_findTonight_17 (by decide) ?_
    refine e_icmp_ge 82 dX10_findTonight_19 (by decide) (fun cz => ?_) (fun cz => absurd ((nI_le' (by omega) (by omega)).mpr (by omega)) cz)
    refine e_aload_n dX10_findTonight_82 rfl rfl ?_
    refine e_iconst (nI 0) dX10_findTonight_83 (by decide) ?_
    refine e_putZ dX10_findTonight_84 fl_RX10_262 (Ms.s 89 rfl) (Ms.n (by decide)) rfl rfl (by decide) ?_
    refine e_lload_n dX10_findTonight_87 rfl rfl ?_
    exact e_lreturn dX10_findTonight_88 rfl (h _ (fSm_I (Or.inl rfl)) (Mr.smm (A := fun a => a = 89) (fSm_I rfl) hD (fun i h1 h2 => by omega)) (fun q hq _ => by rw [fI_I, if_neg (by omega)]) (by rw [fI_I, if_pos ⟨rfl, rfl⟩]) (by rw [fI_I, if_neg (by omega)]; exact hbs) rfl)
  | succ n ih =>
    intro i b bs o4 o5 o6 σ hin Ms Mr htr hdp htn hb hbs h
    obtain ⟨t0, t1, t2, t3, t4, t5, t6⟩ := id hD.1
    have n5 := hW.2.2.2.2
    refine e_iload_n dX10_findTonight_16 rfl rfl ?_
    refine e_bipush (nI 8) dX10_findTonight_17 (by decide) ?_
    refine e_icmp_ge 82 dX10_findTonight_19 (by decide) (fun cz => absurd ((nI_le' (by omega) (by omega)).mp cz) (by omega)) (fun cz => ?_)
    refine e_aload_n dX10_findTonight_22 rfl rfl ?_
    refine e_iload_n dX10_findTonight_23 rfl rfl ?_
    refine e_callV (k := 89) [.int (nI i)] dX10_findTonight_24 cc_X10_setOf lk_RX10_283 im_X10_setOf se_X10_setOf (by decide) (Ms.s 89 rfl) (Ms.n (by decide)) rfl (Nat.le_of_ble_eq_true rfl) (Nat.le_of_ble_eq_true rfl) ?_
    refine t_X10_setOf Ms Mr hD hW (by omega) (fK_i ?_)
    show fEv g _ mX10_findTonight 27 [some (.ref 89), some (.long (ob b)), none, some (.int (nI i)), o4, o5, o6] [.int (mo (mset D S i))] σ Q
    cases hs : mset D S i with
    | none =>
      refine e_int (-1) rfl ?_
      rw [mfo_n hs] at h
      refine e_istore (L1 := [some (.ref 89), some (.long (ob b)), none, some (.int (nI i)), some (.int ((-1))), o5, o6]) dX10_findTonight_27 (by decide) rfl ?_
      refine e_iload dX10_findTonight_29 rfl ?_
      refine e_iconst (-1) dX10_findTonight_31 (by decide) ?_
      refine e_icmp_ne 38 dX10_findTonight_32 (by decide) (fun c => absurd rfl c) (fun _ => ?_)
      refine e_goto 76 dX10_findTonight_35 (by decide) ?_
      refine e_iinc (v := nI (i + 1)) (L1 := [some (.ref 89), some (.long (ob b)), none, some (.int (nI (i + 1))), some (.int ((-1))), o5, o6]) dX10_findTonight_76 rfl (show nI i + Int32.ofInt 1 = nI (i + 1) from nI_add i 1) (by decide) rfl ?_
      refine e_goto 16 dX10_findTonight_79 (by decide) ?_
      exact ih (i + 1) b bs _ _ _ σ (by omega) Ms Mr htr hdp htn hb hbs h
    | some f =>
      refine e_int (nI f) rfl ?_
      have me := mset_e hD (by omega) hs
      have mh := mset_hi hs
      have f12 : f < 4096 := Nat.lt_of_lt_of_le mh.2 (Nat.pow_le_pow_right (n := 2) (by decide) t1)
      have gl := mG_le (lf := (lf1 D (S 151))) (B := (512 * 891 + 512 * 891)) hD hW hC hn mh.1 me.2.2.1 (fun S9 hR => lf1_le hD hn hR)
      refine e_istore (L1 := [some (.ref 89), some (.long (ob b)), none, some (.int (nI i)), some (.int (nI f)), o5, o6]) dX10_findTonight_27 (by decide) rfl ?_
      refine e_iload dX10_findTonight_29 rfl ?_
      refine e_iconst (-1) dX10_findTonight_31 (by decide) ?_
      refine e_icmp_ne 38 dX10_findTonight_32 (by decide) (fun _ => ?_) (fun c => absurd c (nI_m1 (by omega)))
      refine e_aload_n dX10_findTonight_38 rfl rfl ?_
      refine e_iload dX10_findTonight_39 rfl ?_
      refine e_callV (k := 89) [.int (nI f)] dX10_findTonight_41 cc_X10_byOdds lk_RX10_286 im_X10_byOdds se_X10_byOdds (by decide) (Ms.s 89 rfl) (Ms.n (by decide)) rfl (Nat.le_of_ble_eq_true rfl) (Nat.le_of_ble_eq_true rfl) ?_
      refine t_X10_by1 (dp := dp) Ms Mr hD hW hC hn hN htr hdp (by rw [mon_e hD mh.1]; omega) htn (by omega) (fun σ1 Smx1 Mr1 hI1 hJ1 => ?_)
      show fEv g _ mX10_findTonight 44 [some (.ref 89), some (.long (ob b)), none, some (.int (nI i)), some (.int (nI f)), o5, o6] [.long (nL (mby D (lf1 D (S 151)) f S))] σ1 Q
      have Sm1 := (Smx1.to (B := fBA dp) (fun a q => by unfold fBA at q; unfold fBA; omega))
      have Ms1 := Ms.sm Sm1
      have hX1 : ∀ q, q ≠ 21 → fI σ1 89 q = fI σ 89 q := fun q hq => congrFun hI1 q
      have hdp1 := (congrFun hI1 21).trans hdp
      skip
      have hW1 := hW
      refine e_iconst (nI 3) dX10_findTonight_44 (by decide) ?_
      refine e_iload dX10_findTonight_45 rfl ?_
      refine e_callS [.int (nI f)] dX10_findTonight_47 cc_X10_ones lk_RX10_218 st_X10_ones in_RX10 rfl (Nat.le_of_ble_eq_true rfl) (Nat.le_of_ble_eq_true rfl) ?_
      refine t_X10_ones (by omega) (fK_i ?_)
      show fEv g _ mX10_findTonight 50 [some (.ref 89), some (.long (ob b)), none, some (.int (nI i)), some (.int (nI f)), o5, o6] [.int (nI (mon f 12 0)), .int (nI 3), .long (nL (mby D (lf1 D (S 151)) f S))] σ1 Q
      refine e_isub dX10_findTonight_50 ?_
      refine e_int (nI (3 - mon f 12 0)) (pk_sub (by omega)) ?_
      refine e_callS [.int (nI (3 - mon f 12 0))] dX10_findTonight_51 cc_X10_fours lk_RX10_290 st_X10_fours in_RX10 rfl (Nat.le_of_ble_eq_true rfl) (Nat.le_of_ble_eq_true rfl) ?_
      refine t_X10_fours (by omega) (fK_i ?_)
      show fEv g _ mX10_findTonight 54 [some (.ref 89), some (.long (ob b)), none, some (.int (nI i)), some (.int (nI f)), o5, o6] [.long (nL (4 ^ (3 - mon f 12 0))), .long (nL (mby D (lf1 D (S 151)) f S))] σ1 Q
      refine e_lmul dX10_findTonight_54 ?_
      refine e_long (nL ((mby D (lf1 D (S 151)) f S) * (4 ^ (3 - mon f 12 0)))) (nL_mul (mby D (lf1 D (S 151)) f S) (4 ^ (3 - mon f 12 0))) ?_
      refine e_long (nL (mG D (lf1 D (S 151)) S f)) rfl ?_
      refine e_lstore (L1 := [some (.ref 89), some (.long (ob b)), none, some (.int (nI i)), some (.int (nI f)), some (.long (nL (mG D (lf1 D (S 151)) S f))), none]) dX10_findTonight_55 (by decide) rfl ?_
      refine e_lload dX10_findTonight_57 rfl ?_
      refine e_lload_n dX10_findTonight_59 rfl rfl ?_
      refine e_lcmp dX10_findTonight_60 ?_
      refine e_if_gt 67 dX10_findTonight_61 (by decide) (fun c61 => ?_) (fun c61 => ?_)
      · have c61 := (ob_lt (by omega) (fun x hx => by have := hb x hx; omega)).mp (lc_gt.mp c61)
        refine e_lload dX10_findTonight_67 rfl ?_
        refine e_lstore_n (L1 := [some (.ref 89), some (.long (nL (mG D (lf1 D (S 151)) S f))), none, some (.int (nI i)), some (.int (nI f)), some (.long (nL (mG D (lf1 D (S 151)) S f))), none]) dX10_findTonight_69 rfl (by decide) rfl ?_
        refine e_aload_n dX10_findTonight_70 rfl rfl ?_
        refine e_iload dX10_findTonight_71 rfl ?_
        refine e_putI dX10_findTonight_73 fl_RX10_295 (Ms1.s 89 rfl) (Ms1.n (by decide)) rfl rfl ?_
        refine e_iinc (v := nI (i + 1)) (L1 := [some (.ref 89), some (.long (nL (mG D (lf1 D (S 151)) S f))), none, some (.int (nI (i + 1))), some (.int (nI f)), some (.long (nL (mG D (lf1 D (S 151)) S f))), none]) dX10_findTonight_76 rfl (show nI i + Int32.ofInt 1 = nI (i + 1) from nI_add i 1) (by decide) rfl ?_
        refine e_goto 16 dX10_findTonight_79 (by decide) ?_
        rw [mfo_t hs c61] at h
        have Smz : fSm (fBA dp) σ1 (fsI σ1 89 34 (nI f)) := fSm_I (Or.inl rfl)
        exact ih (i + 1) (some ((mG D (lf1 D (S 151)) S) f)) f _ _ _ (fsI σ1 89 34 (nI f)) (by omega) (Ms1.sm Smz) (Mr1.smm (A := fun a => a = 89) (fSm_I rfl) hD (fun i h1 h2 => by omega)) (by rw [fI_I, if_neg (by omega)]; exact (congrFun hI1 31).trans htr) (by rw [fI_I, if_neg (by omega)]; exact hdp1) (by rw [fI_I, if_neg (by omega)]; exact (congrFun hI1 33).trans htn) (fun x hx => by cases hx; omega) (by rw [fI_I, if_pos ⟨rfl, rfl⟩]) (fun σ' Sm' Mr' hq h33 h34 hJ' => h σ' ((Sm1.tr Smz).tr Sm') Mr' (fun q h9 h8 => (hq q h9 h8).trans ((by rw [fI_I, if_neg (by omega)] : fI (fsI σ1 89 34 (nI f)) 89 q = fI σ1 89 q).trans (congrFun hI1 q))) h33 h34 (hJ'.trans hJ1))
      · have c61 : mbt b (mG D (lf1 D (S 151)) S f) = false := by
          cases q : mbt b (mG D (lf1 D (S 151)) S f)
          · rfl
          · exact absurd (lc_gt.mpr ((ob_lt (by omega) (fun x hx => by have := hb x hx; omega)).mpr q)) c61
        refine e_goto 76 dX10_findTonight_64 (by decide) ?_
        refine e_iinc (v := nI (i + 1)) (L1 := [some (.ref 89), some (.long (ob b)), none, some (.int (nI (i + 1))), some (.int (nI f)), some (.long (nL (mG D (lf1 D (S 151)) S f))), none]) dX10_findTonight_76 rfl (show nI i + Int32.ofInt 1 = nI (i + 1) from nI_add i 1) (by decide) rfl ?_
        refine e_goto 16 dX10_findTonight_79 (by decide) ?_
        rw [mfo_f hs c61] at h
        exact ih (i + 1) b bs _ _ _ σ1 (by omega) Ms1 Mr1 ((congrFun hI1 31).trans htr) hdp1 ((congrFun hI1 33).trans htn) hb ((congrFun hI1 34).trans hbs) (fun σ' Sm' Mr' hq h33 h34 hJ' => h σ' (Sm1.tr Sm') Mr' (fun q h9 h8 => (hq q h9 h8).trans (congrFun hI1 q)) h33 h34 (hJ'.trans hJ1))
set_option maxRecDepth 20000 in
theorem t_X10_findTonight {g : fGP} {d : Nat} {σ : fAH} {Q : fRes → fAH → Prop} {D : fSD} {S : Nat → Nat} {sd : Int32} {dp : Nat} (Ms : fMs g σ) (Mr : fMr σ D S sd) (hD : fWD D) (hW : fWS D S) (hC : fWC D S) (hn : S 155 < 30) (hN : fWN S 0 0) (htr : fI σ 89 31 = nI (bn false)) (hdp : fI σ 89 21 = nI dp) (hdeep : dp + 8 ≤ 20) (h : ∀ σ', fSm (fBA dp) σ σ' → fMr σ' D S sd → (∀ q, q ≠ 33 → q ≠ 34 → fI σ' 89 q = fI σ 89 q) → fI σ' 89 33 = nI 0 → fI σ' 89 34 = nI (mft D S).2 → fJ σ' 89 32 = fJ σ 89 32 → Q (.inl (some (.long (ob (mft D S).1)))) σ') : fEv g (d + 38) mX10_findTonight 0 (fent [.ref 89] 7) [] σ Q := by
  show fEv g (d + 38) mX10_findTonight 0 [some (.ref 89), none, none, none, none, none, none] [] σ Q
  refine e_ldc2 (-1) dX10_findTonight_0 kc_RX10_293 ?_
  refine e_lstore_n (L1 := [some (.ref 89), some (.long ((-1))), none, none, none, none, none]) dX10_findTonight_3 rfl (by decide) rfl ?_
  refine e_aload_n dX10_findTonight_4 rfl rfl ?_
  refine e_iconst (nI 0) dX10_findTonight_5 (by decide) ?_
  refine e_putI dX10_findTonight_6 fl_RX10_295 (Ms.s 89 rfl) (Ms.n (by decide)) rfl rfl ?_
  refine e_aload_n dX10_findTonight_9 rfl rfl ?_
  refine e_iconst (nI 1) dX10_findTonight_10 (by decide) ?_
  refine e_putZ dX10_findTonight_11 fl_RX10_262 (Ms.s 89 rfl) (Ms.n (by decide)) rfl rfl (by decide) ?_
  refine e_iconst (nI 0) dX10_findTonight_14 (by decide) ?_
  refine e_istore_n (L1 := [some (.ref 89), some (.long ((-1))), none, some (.int (nI 0)), none, none, none]) dX10_findTonight_15 rfl (by decide) rfl ?_
  have Sm1 : fSm (fBA dp) σ (fsI (fsI σ 89 34 (nI 0)) 89 33 (nI 1)) := (fSm_I (Or.inl rfl)).tr (fSm_I (Or.inl rfl))
  have Mr1 : fMr (fsI (fsI σ 89 34 (nI 0)) 89 33 (nI 1)) D S sd := Mr.smm (A := fun a => a = 89) ((fSm_I (A := fun a => a = 89) rfl).tr (fSm_I rfl)) hD (fun i h1 h2 => by omega)
  have hI1 : ∀ q, q ≠ 33 → q ≠ 34 → fI (fsI (fsI σ 89 34 (nI 0)) 89 33 (nI 1)) 89 q = fI σ 89 q := fun q hq hq2 => by rw [fI_I, if_neg (by omega), fI_I, if_neg (by omega)]
  have h33 : fI (fsI (fsI σ 89 34 (nI 0)) 89 33 (nI 1)) 89 33 = nI 1 ∧ fI (fsI (fsI σ 89 34 (nI 0)) 89 33 (nI 1)) 89 34 = nI 0 := ⟨by rw [fI_I, if_pos ⟨rfl, rfl⟩], by rw [fI_I, if_neg (by omega), fI_I, if_pos ⟨rfl, rfl⟩]⟩
  have hJ1 : fJ (fsI (fsI σ 89 34 (nI 0)) 89 33 (nI 1)) 89 32 = fJ σ 89 32 := rfl
  generalize fsI (fsI σ 89 34 (nI 0)) 89 33 (nI 1) = σ1 at Sm1 Mr1 hI1 h33 hJ1 ⊢
  exact l_X10_findTonight hD hW hC hn hN hdeep 8 0 none 0 none none none σ1 (by omega) (Ms.sm Sm1) Mr1 ((hI1 31 (by decide) (by decide)).trans htr) ((hI1 21 (by decide) (by decide)).trans hdp) h33.1 (fun x hx => by cases hx) h33.2 (fun σ' Sm' Mr' hq h9 h8 hJ' => h σ' (Sm1.tr Sm') Mr' (fun q a b => (hq q a b).trans (hI1 q a b)) h9 h8 (hJ'.trans hJ1))
