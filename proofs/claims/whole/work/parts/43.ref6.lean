theorem mpd_y {al w n i c f : Nat} (hb : al / 2 ^ i % 2 = 1) (hw : c < 3 ∧ w / 2 ^ c % 2 = 1) : f + mpd al w (n + 1) i c = f + 2 ^ i + mpd al w n (i + 1) (c + 1) := by
  rw [mpd_t hb, if_pos hw]
  omega
theorem mpd_z2 {al w n i c f : Nat} (hb : al / 2 ^ i % 2 = 1) (hw : ¬ (c < 3 ∧ w / 2 ^ c % 2 = 1)) : f + mpd al w (n + 1) i c = f + mpd al w n (i + 1) (c + 1) := by
  rw [mpd_t hb, if_neg hw]
  omega
def fBA (dp : Nat) : Nat → Prop := fun a => a = 89 ∨ a = 197 ∨ (199 + dp ≤ a ∧ a < 219)
theorem msum_mono {f : Nat → Nat} {n : Nat} : ∀ {m : Nat}, n ≤ m → msum f n ≤ msum f m
  | 0, h => by rw [show n = 0 by omega]; exact Nat.le_refl _
  | m + 1, h => by
    by_cases e : n = m + 1
    · rw [e]; exact Nat.le_refl _
    · have := msum_mono (f := f) (n := n) (m := m) (by omega)
      show _ ≤ msum f m + f m
      omega
theorem mon_le {b : Nat} : ∀ (n i : Nat), mon b n i ≤ n
  | 0, _ => Nat.le_refl _
  | n + 1, i => by
    have := mon_le (b := b) n (i + 1)
    have := d2 (b := b) (i := i)
    show b / 2 ^ i % 2 + mon b n (i + 1) ≤ n + 1
    omega
set_option maxRecDepth 20000 in
theorem t_X10_fours {g : fGP} {d : Nat} {σ : fAH} {Q : fRes → fAH → Prop} {n : Nat} (hn : n < 13) (h : Q (.inl (some (.long (nL (4 ^ n))))) σ) : fEv g d mX10_fours 0 (fent [.int (nI n)] 1) [] σ Q := by
  show fEv g d mX10_fours 0 [some (.int (nI n))] [] σ Q
  refine e_lconst 1 dX10_fours_0 (by decide) ?_
  refine e_long (nL 1) rfl ?_
  refine e_iconst (nI 2) dX10_fours_1 (by decide) ?_
  refine e_iload_n dX10_fours_2 rfl rfl ?_
  refine e_imul dX10_fours_3 ?_
  refine e_int (nI (2 * n)) (pk_mul 2 n) ?_
  refine e_lshl dX10_fours_4 ?_
  refine e_long (nL (4 ^ n)) (nL_fours n hn) ?_
  exact e_lreturn dX10_fours_5 rfl h
set_option maxRecDepth 20000 in
theorem l_X10_setOf {g : fGP} {d : Nat} {σ : fAH} {Q : fRes → fAH → Prop} {D : fSD} {S : Nat → Nat} {sd : Int32} {wh : Nat} (Ms : fMs g σ) (Mr : fMr σ D S sd) (hD : fWD D) (hW : fWS D S) (hw : wh < 8) : ∀ (n i : Nat) (f : Nat) (c : Nat), i + n = dT D 1 → f < 2 ^ i → c ≤ i → (∀ o4 o5, fEv g (d + 3) mX10_setOf 68 [some (.ref 89), some (.int (nI wh)), some (.int (nI (mbits D S))), some (.int (nI (f + mpd (mbits D S) wh n i c))), o4, o5] [] σ Q) → fEv g (d + 3) mX10_setOf 13 [some (.ref 89), some (.int (nI wh)), some (.int (nI (mbits D S))), some (.int (nI f)), some (.int (nI c)), some (.int (nI i))] [] σ Q := by
  obtain ⟨t0, t1, t2, t3, t4, t5, t6⟩ := id hD.1
  have mb := mbits_lt hD S
  intro n
  induction n with
  | zero =>
    intro i f c hin pa pc h
    refine e_iload dX10_setOf_13 rfl ?_
    refine e_aload_n dX10_setOf_15 rfl rfl ?_
    refine e_getR (q := 92) dX10_setOf_16 fl_RX10_20 (Ms.s 89 rfl) (Ms.n (by decide)) rfl (Ms.r 89 10 rfl) (by unfold fscr; omega) ?_
    refine e_iconst (nI 1) dX10_setOf_19 (by decide) ?_
    refine e_iaload 1 dX10_setOf_20 (Ms.s 92 rfl) (Ms.n (by decide)) rfl (by omega) (by decide) ?_
    refine e_int (nI (dT D 1)) (Mr.t 1 (by omega)) ?_
    refine e_icmp_ge 68 dX10_setOf_21 (by decide) (fun cz => ?_) (fun cz => absurd ((nI_le' (by omega) (by omega)).mpr (by omega)) cz)
    exact h _ _
  | succ n ih =>
    intro i f c hin pa pc h
    have hi : i < dT D 1 := by omega
    have dv : mbits D S / 2 ^ i < 4096 := Nat.lt_of_le_of_lt (Nat.div_le_self _ _) mb
    have dl := d2 (b := mbits D S) (i := i)
    have dw : wh / 2 ^ c < 8 := Nat.lt_of_le_of_lt (Nat.div_le_self _ _) hw
    have dl2 := d2 (b := wh) (i := c)
    refine e_iload dX10_setOf_13 rfl ?_
    refine e_aload_n dX10_setOf_15 rfl rfl ?_
    refine e_getR (q := 92) dX10_setOf_16 fl_RX10_20 (Ms.s 89 rfl) (Ms.n (by decide)) rfl (Ms.r 89 10 rfl) (by unfold fscr; omega) ?_
    refine e_iconst (nI 1) dX10_setOf_19 (by decide) ?_
    refine e_iaload 1 dX10_setOf_20 (Ms.s 92 rfl) (Ms.n (by decide)) rfl (by omega) (by decide) ?_
    refine e_int (nI (dT D 1)) (Mr.t 1 (by omega)) ?_
    refine e_icmp_ge 68 dX10_setOf_21 (by decide) (fun cz => absurd ((nI_le' (by omega) (by omega)).mp cz) (by omega)) (fun cz => ?_)
    refine e_iload_n dX10_setOf_24 rfl rfl ?_
    refine e_iload dX10_setOf_25 rfl ?_
    refine e_ishr dX10_setOf_27 ?_
    refine e_int (nI (mbits D S / 2 ^ i)) (nI_shr (by omega) (by omega)) ?_
    refine e_iconst (nI 1) dX10_setOf_28 (by decide) ?_
    refine e_iand dX10_setOf_29 ?_
    refine e_int (nI (mbits D S / 2 ^ i % 2)) (nI_and1 (by omega)) ?_
    refine e_if_ne 36 dX10_setOf_30 (by decide) (fun c30 => ?_) (fun c30 => ?_)
    · rw [nI_z (by omega)] at c30
      refine e_iload dX10_setOf_36 rfl ?_
      refine e_iconst (nI 3) dX10_setOf_38 (by decide) ?_
      refine e_icmp_ge 59 dX10_setOf_39 (by decide) (fun c39 => ?_) (fun c39 => ?_)
      · rw [nI_le' (by omega) (by omega)] at c39
        refine e_iinc (v := nI (c + 1)) (L1 := [some (.ref 89), some (.int (nI wh)), some (.int (nI (mbits D S))), some (.int (nI f)), some (.int (nI (c + 1))), some (.int (nI i))]) dX10_setOf_59 rfl (show nI c + Int32.ofInt 1 = nI (c + 1) from nI_add c 1) (by decide) rfl ?_
        refine e_iinc (v := nI (i + 1)) (L1 := [some (.ref 89), some (.int (nI wh)), some (.int (nI (mbits D S))), some (.int (nI f)), some (.int (nI (c + 1))), some (.int (nI (i + 1)))]) dX10_setOf_62 rfl (show nI i + Int32.ofInt 1 = nI (i + 1) from nI_add i 1) (by decide) rfl ?_
        refine e_goto 13 dX10_setOf_65 (by decide) ?_
        rw [mpd_z2 (by omega) (fun q => by omega)] at h
        exact ih (i + 1) f (c + 1) (by omega) (pw_le pa) (by omega) h
      · rw [nI_le' (by omega) (by omega)] at c39
        refine e_iload_n dX10_setOf_42 rfl rfl ?_
        refine e_iload dX10_setOf_43 rfl ?_
        refine e_ishr dX10_setOf_45 ?_
        refine e_int (nI (wh / 2 ^ c)) (nI_shr (by omega) (by omega)) ?_
        refine e_iconst (nI 1) dX10_setOf_46 (by decide) ?_
        refine e_iand dX10_setOf_47 ?_
        refine e_int (nI (wh / 2 ^ c % 2)) (nI_and1 (by omega)) ?_
        refine e_iconst (nI 1) dX10_setOf_48 (by decide) ?_
        refine e_icmp_ne 59 dX10_setOf_49 (by decide) (fun c49 => ?_) (fun c49 => ?_)
        · rw [nI_inj (by omega) (by omega)] at c49
          refine e_iinc (v := nI (c + 1)) (L1 := [some (.ref 89), some (.int (nI wh)), some (.int (nI (mbits D S))), some (.int (nI f)), some (.int (nI (c + 1))), some (.int (nI i))]) dX10_setOf_59 rfl (show nI c + Int32.ofInt 1 = nI (c + 1) from nI_add c 1) (by decide) rfl ?_
          refine e_iinc (v := nI (i + 1)) (L1 := [some (.ref 89), some (.int (nI wh)), some (.int (nI (mbits D S))), some (.int (nI f)), some (.int (nI (c + 1))), some (.int (nI (i + 1)))]) dX10_setOf_62 rfl (show nI i + Int32.ofInt 1 = nI (i + 1) from nI_add i 1) (by decide) rfl ?_
          refine e_goto 13 dX10_setOf_65 (by decide) ?_
          rw [mpd_z2 (by omega) (fun q => by omega)] at h
          exact ih (i + 1) f (c + 1) (by omega) (pw_le pa) (by omega) h
        · rw [nI_inj (by omega) (by omega)] at c49
          refine e_iload_n dX10_setOf_52 rfl rfl ?_
          refine e_iconst (nI 1) dX10_setOf_53 (by decide) ?_
          refine e_iload dX10_setOf_54 rfl ?_
          refine e_ishl dX10_setOf_56 ?_
          refine e_int (nI (2 ^ i)) (nI_sh1 (by omega)) ?_
          refine e_ior dX10_setOf_57 ?_
          refine e_int (nI (f + 2 ^ i)) (nI_orb pa) ?_
          refine e_istore_n (L1 := [some (.ref 89), some (.int (nI wh)), some (.int (nI (mbits D S))), some (.int (nI (f + 2 ^ i))), some (.int (nI c)), some (.int (nI i))]) dX10_setOf_58 rfl (by decide) rfl ?_
          refine e_iinc (v := nI (c + 1)) (L1 := [some (.ref 89), some (.int (nI wh)), some (.int (nI (mbits D S))), some (.int (nI (f + 2 ^ i))), some (.int (nI (c + 1))), some (.int (nI i))]) dX10_setOf_59 rfl (show nI c + Int32.ofInt 1 = nI (c + 1) from nI_add c 1) (by decide) rfl ?_
          refine e_iinc (v := nI (i + 1)) (L1 := [some (.ref 89), some (.int (nI wh)), some (.int (nI (mbits D S))), some (.int (nI (f + 2 ^ i))), some (.int (nI (c + 1))), some (.int (nI (i + 1)))]) dX10_setOf_62 rfl (show nI i + Int32.ofInt 1 = nI (i + 1) from nI_add i 1) (by decide) rfl ?_
          refine e_goto 13 dX10_setOf_65 (by decide) ?_
          rw [mpd_y (by omega) ⟨by omega, by omega⟩] at h
          exact ih (i + 1) (f + 2 ^ i) (c + 1) (by omega) (pw_lt pa) (by omega) h
    · rw [nI_z (by omega)] at c30
      refine e_goto 62 dX10_setOf_33 (by decide) ?_
      refine e_iinc (v := nI (i + 1)) (L1 := [some (.ref 89), some (.int (nI wh)), some (.int (nI (mbits D S))), some (.int (nI f)), some (.int (nI c)), some (.int (nI (i + 1)))]) dX10_setOf_62 rfl (show nI i + Int32.ofInt 1 = nI (i + 1) from nI_add i 1) (by decide) rfl ?_
      refine e_goto 13 dX10_setOf_65 (by decide) ?_
      rw [mpd_n (by omega)] at h
      exact ih (i + 1) f c (by omega) (pw_le pa) (by omega) h
set_option maxRecDepth 20000 in
theorem t_X10_setOf {g : fGP} {d : Nat} {σ : fAH} {Q : fRes → fAH → Prop} {D : fSD} {S : Nat → Nat} {sd : Int32} {wh : Nat} (Ms : fMs g σ) (Mr : fMr σ D S sd) (hD : fWD D) (hW : fWS D S) (hw : wh < 8) (h : Q (.inl (some (.int (mo (mset D S wh))))) σ) : fEv g (d + 4) mX10_setOf 0 (fent [.ref 89, .int (nI wh)] 6) [] σ Q := by
  obtain ⟨t0, t1, t2, t3, t4, t5, t6⟩ := id hD.1
  show fEv g (d + 4) mX10_setOf 0 [some (.ref 89), some (.int (nI wh)), none, none, none, none] [] σ Q
  refine e_aload_n dX10_setOf_0 rfl rfl ?_
  refine e_callV (k := 89) [] dX10_setOf_1 cc_X10_alive lk_RX10_215 im_X10_alive se_X10_alive (by decide) (Ms.s 89 rfl) (Ms.n (by decide)) rfl (Nat.le_of_ble_eq_true rfl) (Nat.le_of_ble_eq_true rfl) ?_
  refine t_X10_alive Ms Mr hD hW (fK_i ?_)
  show fEv g _ mX10_setOf 4 [some (.ref 89), some (.int (nI wh)), none, none, none, none] [.int (nI (mbits D S))] σ Q
  refine e_istore_n (L1 := [some (.ref 89), some (.int (nI wh)), some (.int (nI (mbits D S))), none, none, none]) dX10_setOf_4 rfl (by decide) rfl ?_
  refine e_iconst (nI 0) dX10_setOf_5 (by decide) ?_
  refine e_istore_n (L1 := [some (.ref 89), some (.int (nI wh)), some (.int (nI (mbits D S))), some (.int (nI 0)), none, none]) dX10_setOf_6 rfl (by decide) rfl ?_
  refine e_iconst (nI 0) dX10_setOf_7 (by decide) ?_
  refine e_istore (L1 := [some (.ref 89), some (.int (nI wh)), some (.int (nI (mbits D S))), some (.int (nI 0)), some (.int (nI 0)), none]) dX10_setOf_8 (by decide) rfl ?_
  refine e_iconst (nI 0) dX10_setOf_10 (by decide) ?_
  refine e_istore (L1 := [some (.ref 89), some (.int (nI wh)), some (.int (nI (mbits D S))), some (.int (nI 0)), some (.int (nI 0)), some (.int (nI 0))]) dX10_setOf_11 (by decide) rfl ?_
  refine l_X10_setOf Ms Mr hD hW hw (dT D 1) 0 0 0 (by omega) (by decide) (by omega) (fun o4 o5 => ?_)
  have mh := (mpd_hi (al := mbits D S) (w := wh) (dT D 1) 0 0 _ (Nat.le_refl _)).2
  have mh2 : mpd (mbits D S) wh (dT D 1) 0 0 < 4096 := by have h1 : 2 ^ (0 + dT D 1) ≤ 2 ^ 12 := Nat.pow_le_pow_right (by decide) (by omega); have h2 : (2 : Nat) ^ 12 = 4096 := rfl; have h3 : (2 : Nat) ^ 0 = 1 := rfl; omega
  have mo1 := mon_le (b := mpd (mbits D S) wh (dT D 1) 0 0) 12 0
  have mo2 := mon_le (b := wh) 12 0
  rw [Nat.zero_add]
  refine e_iload_n dX10_setOf_68 rfl rfl ?_
  refine e_callS [.int (nI (mpd (mbits D S) wh (dT D 1) 0 0))] dX10_setOf_69 cc_X10_ones lk_RX10_218 st_X10_ones in_RX10 rfl (Nat.le_of_ble_eq_true rfl) (Nat.le_of_ble_eq_true rfl) ?_
  refine t_X10_ones (by omega) (fK_i ?_)
  show fEv g _ mX10_setOf 72 [some (.ref 89), some (.int (nI wh)), some (.int (nI (mbits D S))), some (.int (nI (mpd (mbits D S) wh (dT D 1) 0 0))), o4, o5] [.int (nI (mon (mpd (mbits D S) wh (dT D 1) 0 0) 12 0))] σ Q
  refine e_iload_n dX10_setOf_72 rfl rfl ?_
  refine e_callS [.int (nI wh)] dX10_setOf_73 cc_X10_ones lk_RX10_218 st_X10_ones in_RX10 rfl (Nat.le_of_ble_eq_true rfl) (Nat.le_of_ble_eq_true rfl) ?_
  refine t_X10_ones (by omega) (fK_i ?_)
  show fEv g _ mX10_setOf 76 [some (.ref 89), some (.int (nI wh)), some (.int (nI (mbits D S))), some (.int (nI (mpd (mbits D S) wh (dT D 1) 0 0))), o4, o5] [.int (nI (mon wh 12 0)), .int (nI (mon (mpd (mbits D S) wh (dT D 1) 0 0) 12 0))] σ Q
  refine e_icmp_ne 96 dX10_setOf_76 (by decide) (fun c76 => ?_) (fun c76 => ?_)
  · rw [nI_inj (by omega) (by omega)] at c76
    refine e_iconst (-1) dX10_setOf_96 (by decide) ?_
    have hm : mset D S wh = none := by unfold mset; exact if_neg (fun q => by omega)
    rw [hm] at h
    exact e_ireturn .int dX10_setOf_97 rfl rfl h
  · rw [nI_inj (by omega) (by omega)] at c76
    refine e_iload_n dX10_setOf_79 rfl rfl ?_
    refine e_callS [.int (nI (mpd (mbits D S) wh (dT D 1) 0 0))] dX10_setOf_80 cc_X10_ones lk_RX10_218 st_X10_ones in_RX10 rfl (Nat.le_of_ble_eq_true rfl) (Nat.le_of_ble_eq_true rfl) ?_
    refine t_X10_ones (by omega) (fK_i ?_)
    show fEv g _ mX10_setOf 83 [some (.ref 89), some (.int (nI wh)), some (.int (nI (mbits D S))), some (.int (nI (mpd (mbits D S) wh (dT D 1) 0 0))), o4, o5] [.int (nI (mon (mpd (mbits D S) wh (dT D 1) 0 0) 12 0))] σ Q
    refine e_aload_n dX10_setOf_83 rfl rfl ?_
    refine e_getR (q := 92) dX10_setOf_84 fl_RX10_20 (Ms.s 89 rfl) (Ms.n (by decide)) rfl (Ms.r 89 10 rfl) (by unfold fscr; omega) ?_
    refine e_iconst (nI 3) dX10_setOf_87 (by decide) ?_
    refine e_iaload 3 dX10_setOf_88 (Ms.s 92 rfl) (Ms.n (by decide)) rfl (by omega) (by decide) ?_
    refine e_int (nI (dT D 3)) (Mr.t 3 (by omega)) ?_
    refine e_icmp_gt 96 dX10_setOf_89 (by decide) (fun c89 => ?_) (fun c89 => ?_)
    · rw [nI_lt' (by omega) (by omega)] at c89
      refine e_iconst (-1) dX10_setOf_96 (by decide) ?_
      have hm : mset D S wh = none := by unfold mset; exact if_neg (fun q => by omega)
      rw [hm] at h
      exact e_ireturn .int dX10_setOf_97 rfl rfl h
    · rw [nI_lt' (by omega) (by omega)] at c89
      refine e_iload_n dX10_setOf_92 rfl rfl ?_
      refine e_goto 97 dX10_setOf_93 (by decide) ?_
      have hm : mset D S wh = some (mpd (mbits D S) wh (dT D 1) 0 0) := by unfold mset; exact if_pos ⟨by omega, by omega⟩
      rw [hm] at h
      exact e_ireturn .int dX10_setOf_97 rfl rfl h
set_option maxRecDepth 20000 in
theorem l_X10_br0 {g : fGP} {D : fSD} {S0 : Nat → Nat} {fl c9 a : Nat} (hD : fWD D) (hn0 : S0 155 < 30) (ha : a = S0 151) (hf : fl < 4096) (hc9 : c9 < 100) : ∀ (n i : Nat) (Q : fRes → fAH → Prop) (d : Nat) (x3 : Int32) (o8 o9 : Option Value) (w s0 dp : Nat) (σ : fAH) (S : Nat → Nat) (sd : Int32), i + n = dT D 1 → fMs g σ → fMr σ D S sd → mR D S0 S → fWN S 0 i → fI σ 89 31 = nI (bn false) → fI σ 89 21 = nI dp → dp + mon fl n i + 1 ≤ 20 → fJ σ 89 32 = nL s0 → fI σ 89 33 = nI 0 → (∀ σ', fSm (fBA dp) σ σ' → fMr σ' D S sd → fI σ' 89 = fI σ 89 → fJ σ' 89 32 = nL (s0 + w * (mbr D (lf0 D a) fl c9 n i S)) → Q (.inl none) σ') → fEv g (d + n + 4) mX10_branches 3 [some (.ref 89), some (.int (nI fl)), some (.int (nI c9)), some (.int x3), some (.long (nL w)), none, some (.int (nI a)), some (.int (nI i)), o8, o9] [] σ Q := by
  intro n
  induction n with
  | zero =>
    intro i Q d x3 o8 o9 w s0 dp σ S sd hin Ms Mr hR0 hN htr hdp hdeep hsm htn h
    obtain ⟨t0, t1, t2, t3, t4, t5, t6⟩ := id hD.1
    obtain ⟨hW, hC, h5, h1, ho9⟩ := id hR0
    have kW := hW
    have kC := hC
    have kN := hN
    have hn : S 155 < 30 := by omega
    have n5 := hW.2.2.2.2
    have hdeep : dp + 1 ≤ 20 := hdeep
    refine e_iload dX10_branches_3 rfl ?_
    refine e_aload_n dX10_branches_5 rfl rfl ?_
    refine e_getR (q := 92) dX10_branches_6 fl_RX10_20 (Ms.s 89 rfl) (Ms.n (by decide)) rfl (Ms.r 89 10 rfl) (by unfold fscr; omega) ?_
    refine e_iconst (nI 1) dX10_branches_9 (by decide) ?_
    refine e_iaload 1 dX10_branches_10 (Ms.s 92 rfl) (Ms.n (by decide)) rfl (by omega) (by decide) ?_
    refine e_int (nI (dT D 1)) (Mr.t 1 (by omega)) ?_
    refine e_icmp_ge 29 dX10_branches_11 (by decide) (fun cz => ?_) (fun cz => absurd ((nI_le' (by omega) (by omega)).mpr (by omega)) cz)
    refine e_iload dX10_branches_29 rfl ?_
    refine e_aload_n dX10_branches_31 rfl rfl ?_
    refine e_getR (q := 92) dX10_branches_32 fl_RX10_20 (Ms.s 89 rfl) (Ms.n (by decide)) rfl (Ms.r 89 10 rfl) (by unfold fscr; omega) ?_
    refine e_iconst (nI 1) dX10_branches_35 (by decide) ?_
    refine e_iaload 1 dX10_branches_36 (Ms.s 92 rfl) (Ms.n (by decide)) rfl (by omega) (by decide) ?_
    refine e_int (nI (dT D 1)) (Mr.t 1 (by omega)) ?_
    refine e_icmp_ne 112 dX10_branches_37 (by decide) (fun cz => absurd ((nI_inj (by omega) (by omega)).mpr (by omega)) cz) (fun cz => ?_)
    refine e_aload_n dX10_branches_40 rfl rfl ?_
    refine e_callV (k := 89) [] dX10_branches_41 cc_X10_puts lk_RX10_253 im_X10_puts se_X10_puts (by decide) (Ms.s 89 rfl) (Ms.n (by decide)) rfl (Nat.le_of_ble_eq_true rfl) (Nat.le_of_ble_eq_true rfl) ?_
    refine t_X10_puts Ms Mr hD (by omega) hdp (fun σ1 Smx1 Mr1 hR1 hdp1 m91 => ?_)
    show fEv g _ mX10_branches 44 [some (.ref 89), some (.int (nI fl)), some (.int (nI c9)), some (.int x3), some (.long (nL w)), none, some (.int (nI a)), some (.int (nI i)), o8, o9] [] σ1 Q
    have Sm1 := (Smx1.to (B := fBA dp) (fun a q => by unfold fPA at q; unfold fBA; omega))
    have Ms1 := Ms.sm Sm1
    have hX1 : ∀ q, q ≠ 21 → fI σ1 89 q = fI σ 89 q := m91.1
    skip
    have hsm1 := (congrFun m91.2 32).trans hsm
    have hW1 := hW
    have hC1 := hC
    have hN1 := hN
    refine e_aload_n dX10_branches_44 rfl rfl ?_
    refine e_callV (k := 89) [] dX10_branches_45 cc_X10_sledges lk_RX10_234 im_X10_sledges se_X10_sledges (by decide) (Ms1.s 89 rfl) (Ms1.n (by decide)) rfl (Nat.le_of_ble_eq_true rfl) (Nat.le_of_ble_eq_true rfl) ?_
    refine t_X10_sledges Ms1 Mr1 hD hW1 hC1 (hN1.mono (Nat.le_refl _) (by omega)) (fun σ2 Smx2 Mr2 => ?_)
    show fEv g _ mX10_branches 48 [some (.ref 89), some (.int (nI fl)), some (.int (nI c9)), some (.int x3), some (.long (nL w)), none, some (.int (nI a)), some (.int (nI i)), o8, o9] [] σ2 Q
    have Sm2 := Sm1.tr (Smx2.to (B := fBA dp) (fun a q => by unfold fRA9 at q; unfold fBA; omega))
    have Ms2 := Ms.sm Sm2
    have hX2 : ∀ q, q ≠ 21 → fI σ2 89 q = fI σ 89 q := fun q hq => (Smx2.i (by unfold fRA9; omega) q).trans (hX1 q hq)
    have hdp2 := (Smx2.i (by unfold fRA9; omega) 21).trans hdp1
    have hsm2 := (Smx2.j (by unfold fRA9; omega) 32).trans hsm1
    have hR2 := hR1.sm Smx2 (by unfold fRA9; omega)
    have w9 := fWS_end hD hW hC hn
    have hW2 := w9.1
    have hC2 := w9.2.1
    have pp := mend_p hD hW hC
    refine e_aload_n dX10_branches_48 rfl rfl ?_
    refine e_getR (q := 197) dX10_branches_49 fl_RX10_49 (Ms2.s 89 rfl) (Ms2.n (by decide)) rfl (Ms2.r 89 19 rfl) (by unfold fscr; omega) ?_
    refine e_sipush (nI 151) dX10_branches_52 (by decide) ?_
    refine e_iaload 151 dX10_branches_55 (Ms2.s 197 rfl) (Ms2.n (by decide)) rfl (by omega) (by decide) ?_
    refine e_int (nI ((mend D S) 151)) (Mr2.s 151 (by omega)) ?_
    refine e_iload dX10_branches_56 rfl ?_
    refine e_isub dX10_branches_58 ?_
    refine e_int (nI (((mend D S) 151) - a)) (pk_sub (by omega)) ?_
    refine e_i2l dX10_branches_59 ?_
    refine e_long (nL (((mend D S) 151) - a)) (nL_i (by omega)) ?_
    refine e_lstore (L1 := [some (.ref 89), some (.int (nI fl)), some (.int (nI c9)), some (.int x3), some (.long (nL w)), none, some (.int (nI a)), some (.int (nI i)), some (.long (nL (((mend D S) 151) - a))), none]) dX10_branches_60 (by decide) rfl ?_
    refine e_aload_n dX10_branches_62 rfl rfl ?_
    refine e_getZ dX10_branches_63 fl_RX10_262 (Ms2.s 89 rfl) (Ms2.n (by decide)) rfl ?_
    refine e_int (nI 0) ((hX2 33 (by decide)).trans htn) ?_
    refine e_if_eq 93 dX10_branches_66 (by decide) (fun _ => ?_) (fun c => absurd c (by decide))
    refine e_aload_n dX10_branches_93 rfl rfl ?_
    refine e_dup dX10_branches_94 rfl ?_
    refine e_getL dX10_branches_95 fl_RX10_271 (Ms2.s 89 rfl) (Ms2.n (by decide)) rfl ?_
    refine e_long (nL s0) hsm2 ?_
    refine e_lload dX10_branches_98 rfl ?_
    refine e_lload dX10_branches_100 rfl ?_
    refine e_lmul dX10_branches_102 ?_
    refine e_long (nL (w * (((mend D S) 151) - a))) (nL_mul w (((mend D S) 151) - a)) ?_
    refine e_ladd dX10_branches_103 ?_
    refine e_long (nL (s0 + (w * (((mend D S) 151) - a)))) (nL_add s0 (w * (((mend D S) 151) - a))) ?_
    refine e_putL dX10_branches_104 fl_RX10_271 (Ms2.s 89 rfl) (Ms2.n (by decide)) rfl rfl ?_
    have Smx3 : fSm fTA σ2 (fsJ σ2 89 32 (nL (s0 + (w * (((mend D S) 151) - a))))) := fSm_J (Or.inl rfl)
    have Mr3 : fMr (fsJ σ2 89 32 (nL (s0 + (w * (((mend D S) 151) - a))))) D (mend D S) sd := Mr2
    have hR3 : fRow (fsJ σ2 89 32 (nL (s0 + (w * (((mend D S) 151) - a))))) dp S sd := hR2
    have hXy3 : fI (fsJ σ2 89 32 (nL (s0 + (w * (((mend D S) 151) - a))))) 89 = fI σ2 89 := rfl
    have hJy3 : fJ (fsJ σ2 89 32 (nL (s0 + (w * (((mend D S) 151) - a))))) 89 32 = nL (s0 + (w * (((mend D S) 151) - a))) := by rw [fJ_J, if_pos ⟨rfl, rfl⟩]
    generalize fsJ σ2 89 32 (nL (s0 + (w * (((mend D S) 151) - a)))) = σ3 at Smx3 Mr3 hR3 hXy3 hJy3 ⊢
    have Sm3 := Sm2.tr (Smx3.to (B := fBA dp) (fun a q => by unfold fTA at q; unfold fBA; omega))
    have Ms3 := Ms.sm Sm3
    have hX3 : ∀ q, q ≠ 21 → fI σ3 89 q = fI σ 89 q := fun q hq => (congrFun hXy3 q).trans (hX2 q hq)
    have hdp3 := (congrFun hXy3 21).trans hdp2
    have hsm3 := hJy3
    refine e_aload_n dX10_branches_107 rfl rfl ?_
    refine e_callV (k := 89) [] dX10_branches_108 cc_X10_takes lk_RX10_259 im_X10_takes se_X10_takes (by decide) (Ms3.s 89 rfl) (Ms3.n (by decide)) rfl (Nat.le_of_ble_eq_true rfl) (Nat.le_of_ble_eq_true rfl) ?_
    refine t_X10_takes Ms3 Mr3 hD (by omega) hdp3 hR3 (fun σ4 Smx4 Mr4 hdp4 m94 => ?_)
    show fEv g _ mX10_branches 111 [some (.ref 89), some (.int (nI fl)), some (.int (nI c9)), some (.int x3), some (.long (nL w)), none, some (.int (nI a)), some (.int (nI i)), some (.long (nL (((mend D S) 151) - a))), none] [] σ4 Q
    have Sm4 := Sm3.tr (Smx4.to (B := fBA dp) (fun a q => by unfold fTA at q; unfold fBA; omega))
    have Ms4 := Ms.sm Sm4
    have hX4 : ∀ q, q ≠ 21 → fI σ4 89 q = fI σ 89 q := fun q hq => (m94.1 q hq).trans (hX3 q hq)
    skip
    have hsm4 := (congrFun m94.2 32).trans hsm3
    have hW4 := hW
    have hC4 := hC
    have hN4 := hN
    have hI9 : fI σ4 89 = fI σ 89 := by funext q; by_cases e : q = 21; rw [e, hdp4, hdp]; exact hX4 q e
    exact e_return dX10_branches_111 rfl (h σ4 Sm4 Mr4 hI9 hsm4)
  | succ n ih =>
    intro i Q d x3 o8 o9 w s0 dp σ S sd hin Ms Mr hR0 hN htr hdp hdeep hsm htn h
    obtain ⟨t0, t1, t2, t3, t4, t5, t6⟩ := id hD.1
    obtain ⟨hW, hC, h5, h1, ho9⟩ := id hR0
    have kW := hW
    have kC := hC
    have kN := hN
    have hn : S 155 < 30 := by omega
    have n5 := hW.2.2.2.2
    have hi : i < dT D 1 := by omega
    have dv : fl / 2 ^ i < 4096 := Nat.lt_of_le_of_lt (Nat.div_le_self _ _) (by omega)
    have dl := d2 (b := fl) (i := i)
    have nd := mneed_le D S i
    have sb := hD.s2 hi
    have hm9 : mon fl (n + 1) i = fl / 2 ^ i % 2 + mon fl n (i + 1) := rfl
    rw [hm9] at hdeep
    have k209 : fl / 2 ^ i % 2 = 1 → mdrw D S fl c9 i = false → fEv g (d + (n + 1) + 4) mX10_branches 209 [some (.ref 89), some (.int (nI fl)), some (.int (nI c9)), some (.int x3), some (.long (nL w)), none, some (.int (nI a)), some (.int (nI i)), o8, o9] [] σ Q := by
      intro hbit hdw
      rw [hbit] at hdeep
      have hV : mbr D (lf0 D a) fl c9 (n + 1) i S = 4 * mbr D (lf0 D a) fl c9 n (i + 1) (mq D S c9 i) := by rw [mbr, if_pos hbit, if_neg (by rw [hdw]; exact Bool.false_ne_true)]
      rw [hV] at h
      refine e_aload_n dX10_branches_209 rfl rfl ?_
      refine e_callV (k := 89) [] dX10_branches_210 cc_X10_puts lk_RX10_253 im_X10_puts se_X10_puts (by decide) (Ms.s 89 rfl) (Ms.n (by decide)) rfl (Nat.le_of_ble_eq_true rfl) (Nat.le_of_ble_eq_true rfl) ?_
      refine t_X10_puts Ms Mr hD (by omega) hdp (fun σ1 Smx1 Mr1 hR1 hdp1 m91 => ?_)
      show fEv g _ mX10_branches 213 [some (.ref 89), some (.int (nI fl)), some (.int (nI c9)), some (.int x3), some (.long (nL w)), none, some (.int (nI a)), some (.int (nI i)), o8, o9] [] σ1 Q
      have Sm1 := (Smx1.to (B := fBA dp) (fun a q => by unfold fPA at q; unfold fBA; omega))
      have Ms1 := Ms.sm Sm1
      have hX1 : ∀ q, q ≠ 21 → fI σ1 89 q = fI σ 89 q := m91.1
      skip
      have hsm1 := (congrFun m91.2 32).trans hsm
      have hW1 := hW
      have hC1 := hC
      have hN1 := hN
      refine e_aload_n dX10_branches_213 rfl rfl ?_
      refine e_iload dX10_branches_214 rfl ?_
      refine e_callV (k := 89) [.int (nI i)] dX10_branches_216 cc_X10_isAlive lk_RX10_183 im_X10_isAlive se_X10_isAlive (by decide) (Ms1.s 89 rfl) (Ms1.n (by decide)) rfl (Nat.le_of_ble_eq_true rfl) (Nat.le_of_ble_eq_true rfl) ?_
      refine t_X10_isAlive Ms1 Mr1 hD hW1 (by omega) (fK_i ?_)
      show fEv g _ mX10_branches 219 [some (.ref 89), some (.int (nI fl)), some (.int (nI c9)), some (.int x3), some (.long (nL w)), none, some (.int (nI a)), some (.int (nI i)), o8, o9] [.int (nI (bn (mal D S i)))] σ1 Q
      refine e_if_eq 251 dX10_branches_219 (by decide) (fun c219 => ?_) (fun c219 => ?_)
      · have c219 := bn0 c219
        refine e_aload_n dX10_branches_251 rfl rfl ?_
        refine e_iload dX10_branches_252 rfl ?_
        refine e_callV (k := 89) [.int (nI i)] dX10_branches_254 cc_X10_isAlive lk_RX10_183 im_X10_isAlive se_X10_isAlive (by decide) (Ms1.s 89 rfl) (Ms1.n (by decide)) rfl (Nat.le_of_ble_eq_true rfl) (Nat.le_of_ble_eq_true rfl) ?_
        refine t_X10_isAlive Ms1 Mr1 hD hW1 (by omega) (fK_i ?_)
        show fEv g _ mX10_branches 257 [some (.ref 89), some (.int (nI fl)), some (.int (nI c9)), some (.int x3), some (.long (nL w)), none, some (.int (nI a)), some (.int (nI i)), o8, o9] [.int (nI (bn (mal D S i)))] σ1 Q
        refine e_if_eq 270 dX10_branches_257 (by decide) (fun c257 => ?_) (fun c257 => ?_)
        · have c257 := bn0 c257
          have hq : mq D S c9 i = S := by unfold mq; rw [if_neg (fun q => by have q1 := q.1; have q2 := q.2; first | omega | exact absurd (c219.symm.trans q1) Bool.false_ne_true | exact absurd (c257.symm.trans q1) Bool.false_ne_true), if_neg (fun q => by have q1 := q.1; have q2 := q.2; first | omega | exact absurd (c219.symm.trans q1) Bool.false_ne_true | exact absurd (c257.symm.trans q1) Bool.false_ne_true)]
          rw [hq] at h
          refine e_aload_n dX10_branches_270 rfl rfl ?_
          refine e_iload_n dX10_branches_271 rfl rfl ?_
          refine e_iload_n dX10_branches_272 rfl rfl ?_
          refine e_iload dX10_branches_273 rfl ?_
          refine e_iconst (nI 1) dX10_branches_275 (by decide) ?_
          refine e_iadd dX10_branches_276 ?_
          refine e_int (nI (i + 1)) (nI_add i 1) ?_
          refine e_ldc2 (4) dX10_branches_277 kc_RX10_281 ?_
          refine e_long (nL 4) rfl ?_
          refine e_lload dX10_branches_280 rfl ?_
          refine e_lmul dX10_branches_282 ?_
          refine e_long (nL (4 * w)) (nL_mul 4 w) ?_
          refine e_iload dX10_branches_283 rfl ?_
          refine e_callV (k := 89) [.int (nI fl), .int (nI c9), .int (nI (i + 1)), .long (nL (4 * w)), .int (nI a)] dX10_branches_285 cc_X10_branches lk_RX10_277 im_X10_branches se_X10_branches (by decide) (Ms1.s 89 rfl) (Ms1.n (by decide)) rfl (Nat.le_of_ble_eq_true rfl) (Nat.le_of_ble_eq_true rfl) ?_
          show fEv g _ mX10_branches 0 [some (.ref 89), some (.int (nI fl)), some (.int (nI c9)), some (.int (nI (i + 1))), some (.long (nL (4 * w))), none, some (.int (nI a)), none, none, none] [] σ1 _
          refine e_iload_n dX10_branches_0 rfl rfl ?_
          refine e_istore (L1 := [some (.ref 89), some (.int (nI fl)), some (.int (nI c9)), some (.int (nI (i + 1))), some (.long (nL (4 * w))), none, some (.int (nI a)), some (.int (nI (i + 1))), none, none]) dX10_branches_1 (by decide) rfl ?_
          refine ih (i + 1) _ d _ _ _ (4 * w) (s0) (dp + 1) σ1 S sd (by omega) Ms1 Mr1 hR0 (hN.mono (Nat.le_refl _) (by omega)) ((hX1 31 (by decide)).trans htr) hdp1 (by omega) hsm1 ((hX1 33 (by decide)).trans htn) (fun σ2 Smx2 Mr2 hI2 hJ2 => ?_)
          show fEv g _ mX10_branches 288 [some (.ref 89), some (.int (nI fl)), some (.int (nI c9)), some (.int x3), some (.long (nL w)), none, some (.int (nI a)), some (.int (nI i)), o8, o9] [] σ2 Q
          have Sm2 := Sm1.tr (Smx2.to (B := fBA dp) (fun a q => by unfold fBA at q; unfold fBA; omega))
          have Ms2 := Ms.sm Sm2
          have hX2 : ∀ q, q ≠ 21 → fI σ2 89 q = fI σ 89 q := fun q hq => (congrFun hI2 q).trans (hX1 q hq)
          have hdp2 := (congrFun hI2 21).trans hdp1
          have hsm2 := hJ2
          have hR2 := hR1.sm Smx2 (by unfold fBA; omega)
          refine e_aload_n dX10_branches_288 rfl rfl ?_
          refine e_callV (k := 89) [] dX10_branches_289 cc_X10_takes lk_RX10_259 im_X10_takes se_X10_takes (by decide) (Ms2.s 89 rfl) (Ms2.n (by decide)) rfl (Nat.le_of_ble_eq_true rfl) (Nat.le_of_ble_eq_true rfl) ?_
          refine t_X10_takes Ms2 Mr2 hD (by omega) hdp2 hR2 (fun σ3 Smx3 Mr3 hdp3 m93 => ?_)
          show fEv g _ mX10_branches 292 [some (.ref 89), some (.int (nI fl)), some (.int (nI c9)), some (.int x3), some (.long (nL w)), none, some (.int (nI a)), some (.int (nI i)), o8, o9] [] σ3 Q
          have Sm3 := Sm2.tr (Smx3.to (B := fBA dp) (fun a q => by unfold fTA at q; unfold fBA; omega))
          have Ms3 := Ms.sm Sm3
          have hX3 : ∀ q, q ≠ 21 → fI σ3 89 q = fI σ 89 q := fun q hq => (m93.1 q hq).trans (hX2 q hq)
          skip
          have hsm3 := (congrFun m93.2 32).trans hsm2
          have hW3 := hW
          have hC3 := hC
          have hN3 := hN
          have hI9 : fI σ3 89 = fI σ 89 := by funext q; by_cases e : q = 21; rw [e, hdp3, hdp]; exact hX3 q e
          refine e_return dX10_branches_292 rfl (h σ3 Sm3 Mr3 hI9 (hsm3.trans ?_))
          rw [Nat.mul_comm 4 w, Nat.mul_assoc]
        · have c257 := bn1 c257
          have hal := c257
          refine e_iload_n dX10_branches_260 rfl rfl ?_
          refine e_if_le 270 dX10_branches_261 (by decide) (fun c261 => ?_) (fun c261 => ?_)
          · rw [nI_zle (by omega)] at c261
            have hq : mq D S c9 i = S := by unfold mq; rw [if_neg (fun q => by have q1 := q.1; have q2 := q.2; first | omega | exact absurd (c219.symm.trans q1) Bool.false_ne_true | exact absurd (c257.symm.trans q1) Bool.false_ne_true), if_neg (fun q => by have q1 := q.1; have q2 := q.2; first | omega | exact absurd (c219.symm.trans q1) Bool.false_ne_true | exact absurd (c257.symm.trans q1) Bool.false_ne_true)]
            rw [hq] at h
            refine e_aload_n dX10_branches_270 rfl rfl ?_
            refine e_iload_n dX10_branches_271 rfl rfl ?_
            refine e_iload_n dX10_branches_272 rfl rfl ?_
            refine e_iload dX10_branches_273 rfl ?_
            refine e_iconst (nI 1) dX10_branches_275 (by decide) ?_
            refine e_iadd dX10_branches_276 ?_
            refine e_int (nI (i + 1)) (nI_add i 1) ?_
            refine e_ldc2 (4) dX10_branches_277 kc_RX10_281 ?_
            refine e_long (nL 4) rfl ?_
            refine e_lload dX10_branches_280 rfl ?_
            refine e_lmul dX10_branches_282 ?_
            refine e_long (nL (4 * w)) (nL_mul 4 w) ?_
            refine e_iload dX10_branches_283 rfl ?_
            refine e_callV (k := 89) [.int (nI fl), .int (nI c9), .int (nI (i + 1)), .long (nL (4 * w)), .int (nI a)] dX10_branches_285 cc_X10_branches lk_RX10_277 im_X10_branches se_X10_branches (by decide) (Ms1.s 89 rfl) (Ms1.n (by decide)) rfl (Nat.le_of_ble_eq_true rfl) (Nat.le_of_ble_eq_true rfl) ?_
            show fEv g _ mX10_branches 0 [some (.ref 89), some (.int (nI fl)), some (.int (nI c9)), some (.int (nI (i + 1))), some (.long (nL (4 * w))), none, some (.int (nI a)), none, none, none] [] σ1 _
            refine e_iload_n dX10_branches_0 rfl rfl ?_
            refine e_istore (L1 := [some (.ref 89), some (.int (nI fl)), some (.int (nI c9)), some (.int (nI (i + 1))), some (.long (nL (4 * w))), none, some (.int (nI a)), some (.int (nI (i + 1))), none, none]) dX10_branches_1 (by decide) rfl ?_
            refine ih (i + 1) _ d _ _ _ (4 * w) (s0) (dp + 1) σ1 S sd (by omega) Ms1 Mr1 hR0 (hN.mono (Nat.le_refl _) (by omega)) ((hX1 31 (by decide)).trans htr) hdp1 (by omega) hsm1 ((hX1 33 (by decide)).trans htn) (fun σ4 Smx4 Mr4 hI4 hJ4 => ?_)
            show fEv g _ mX10_branches 288 [some (.ref 89), some (.int (nI fl)), some (.int (nI c9)), some (.int x3), some (.long (nL w)), none, some (.int (nI a)), some (.int (nI i)), o8, o9] [] σ4 Q
            have Sm4 := Sm1.tr (Smx4.to (B := fBA dp) (fun a q => by unfold fBA at q; unfold fBA; omega))
            have Ms4 := Ms.sm Sm4
            have hX4 : ∀ q, q ≠ 21 → fI σ4 89 q = fI σ 89 q := fun q hq => (congrFun hI4 q).trans (hX1 q hq)
            have hdp4 := (congrFun hI4 21).trans hdp1
            have hsm4 := hJ4
            have hR4 := hR1.sm Smx4 (by unfold fBA; omega)
            refine e_aload_n dX10_branches_288 rfl rfl ?_
            refine e_callV (k := 89) [] dX10_branches_289 cc_X10_takes lk_RX10_259 im_X10_takes se_X10_takes (by decide) (Ms4.s 89 rfl) (Ms4.n (by decide)) rfl (Nat.le_of_ble_eq_true rfl) (Nat.le_of_ble_eq_true rfl) ?_
            refine t_X10_takes Ms4 Mr4 hD (by omega) hdp4 hR4 (fun σ5 Smx5 Mr5 hdp5 m95 => ?_)
            show fEv g _ mX10_branches 292 [some (.ref 89), some (.int (nI fl)), some (.int (nI c9)), some (.int x3), some (.long (nL w)), none, some (.int (nI a)), some (.int (nI i)), o8, o9] [] σ5 Q
            have Sm5 := Sm4.tr (Smx5.to (B := fBA dp) (fun a q => by unfold fTA at q; unfold fBA; omega))
            have Ms5 := Ms.sm Sm5
            have hX5 : ∀ q, q ≠ 21 → fI σ5 89 q = fI σ 89 q := fun q hq => (m95.1 q hq).trans (hX4 q hq)
            skip
            have hsm5 := (congrFun m95.2 32).trans hsm4
            have hW5 := hW
            have hC5 := hC
            have hN5 := hN
            have hI9 : fI σ5 89 = fI σ 89 := by funext q; by_cases e : q = 21; rw [e, hdp5, hdp]; exact hX5 q e
            refine e_return dX10_branches_292 rfl (h σ5 Sm5 Mr5 hI9 (hsm5.trans ?_))
            rw [Nat.mul_comm 4 w, Nat.mul_assoc]
          · rw [nI_zle (by omega)] at c261
            refine e_aload_n dX10_branches_264 rfl rfl ?_
            refine e_iload dX10_branches_265 rfl ?_
            refine e_callV (k := 89) [.int (nI i)] dX10_branches_267 cc_X10_bruises lk_RX10_208 im_X10_bruises se_X10_bruises (by decide) (Ms1.s 89 rfl) (Ms1.n (by decide)) rfl (Nat.le_of_ble_eq_true rfl) (Nat.le_of_ble_eq_true rfl) ?_
            refine t_X10_bruises Ms1 Mr1 hD hW1 hN1 (by omega) hi (fun σ6 Smx6 Mr6 => ?_)
            show fEv g _ mX10_branches 270 [some (.ref 89), some (.int (nI fl)), some (.int (nI c9)), some (.int x3), some (.long (nL w)), none, some (.int (nI a)), some (.int (nI i)), o8, o9] [] σ6 Q
            have Sm6 := Sm1.tr (Smx6.to (B := fBA dp) (fun a q => by unfold fRA9 at q; unfold fBA; omega))
            have Ms6 := Ms.sm Sm6
            have hX6 : ∀ q, q ≠ 21 → fI σ6 89 q = fI σ 89 q := fun q hq => (Smx6.i (by unfold fRA9; omega) q).trans (hX1 q hq)
            have hdp6 := (Smx6.i (by unfold fRA9; omega) 21).trans hdp1
            have hsm6 := (Smx6.j (by unfold fRA9; omega) 32).trans hsm1
            have hR6 := hR1.sm Smx6 (by unfold fRA9; omega)
            have hq6 : mq D S c9 i = mbru S i := by unfold mq; rw [if_neg (fun q => by have q1 := q.1; have q2 := q.2; first | omega | exact absurd (c219.symm.trans q1) Bool.false_ne_true | exact absurd (c257.symm.trans q1) Bool.false_ne_true), if_pos ⟨hal, by omega⟩]
            have r6 := (mR_q (k := i) (cold := c9) hD hn0 hi hR0).1
            rw [hq6] at r6
            have n6 := fWN_bru (k := i) (by omega) hN
            have hq := hq6
            rw [hq] at h
            refine e_aload_n dX10_branches_270 rfl rfl ?_
            refine e_iload_n dX10_branches_271 rfl rfl ?_
            refine e_iload_n dX10_branches_272 rfl rfl ?_
            refine e_iload dX10_branches_273 rfl ?_
            refine e_iconst (nI 1) dX10_branches_275 (by decide) ?_
            refine e_iadd dX10_branches_276 ?_
            refine e_int (nI (i + 1)) (nI_add i 1) ?_
            refine e_ldc2 (4) dX10_branches_277 kc_RX10_281 ?_
            refine e_long (nL 4) rfl ?_
            refine e_lload dX10_branches_280 rfl ?_
            refine e_lmul dX10_branches_282 ?_
            refine e_long (nL (4 * w)) (nL_mul 4 w) ?_
            refine e_iload dX10_branches_283 rfl ?_
            refine e_callV (k := 89) [.int (nI fl), .int (nI c9), .int (nI (i + 1)), .long (nL (4 * w)), .int (nI a)] dX10_branches_285 cc_X10_branches lk_RX10_277 im_X10_branches se_X10_branches (by decide) (Ms6.s 89 rfl) (Ms6.n (by decide)) rfl (Nat.le_of_ble_eq_true rfl) (Nat.le_of_ble_eq_true rfl) ?_
            show fEv g _ mX10_branches 0 [some (.ref 89), some (.int (nI fl)), some (.int (nI c9)), some (.int (nI (i + 1))), some (.long (nL (4 * w))), none, some (.int (nI a)), none, none, none] [] σ6 _
            refine e_iload_n dX10_branches_0 rfl rfl ?_
            refine e_istore (L1 := [some (.ref 89), some (.int (nI fl)), some (.int (nI c9)), some (.int (nI (i + 1))), some (.long (nL (4 * w))), none, some (.int (nI a)), some (.int (nI (i + 1))), none, none]) dX10_branches_1 (by decide) rfl ?_
            refine ih (i + 1) _ d _ _ _ (4 * w) (s0) (dp + 1) σ6 (mbru S i) sd (by omega) Ms6 Mr6 r6 n6 ((hX6 31 (by decide)).trans htr) hdp6 (by omega) hsm6 ((hX6 33 (by decide)).trans htn) (fun σ7 Smx7 Mr7 hI7 hJ7 => ?_)
            show fEv g _ mX10_branches 288 [some (.ref 89), some (.int (nI fl)), some (.int (nI c9)), some (.int x3), some (.long (nL w)), none, some (.int (nI a)), some (.int (nI i)), o8, o9] [] σ7 Q
            have Sm7 := Sm6.tr (Smx7.to (B := fBA dp) (fun a q => by unfold fBA at q; unfold fBA; omega))
            have Ms7 := Ms.sm Sm7
            have hX7 : ∀ q, q ≠ 21 → fI σ7 89 q = fI σ 89 q := fun q hq => (congrFun hI7 q).trans (hX6 q hq)
            have hdp7 := (congrFun hI7 21).trans hdp6
            have hsm7 := hJ7
            have hR7 := hR6.sm Smx7 (by unfold fBA; omega)
            refine e_aload_n dX10_branches_288 rfl rfl ?_
            refine e_callV (k := 89) [] dX10_branches_289 cc_X10_takes lk_RX10_259 im_X10_takes se_X10_takes (by decide) (Ms7.s 89 rfl) (Ms7.n (by decide)) rfl (Nat.le_of_ble_eq_true rfl) (Nat.le_of_ble_eq_true rfl) ?_
            refine t_X10_takes Ms7 Mr7 hD (by omega) hdp7 hR7 (fun σ8 Smx8 Mr8 hdp8 m98 => ?_)
            show fEv g _ mX10_branches 292 [some (.ref 89), some (.int (nI fl)), some (.int (nI c9)), some (.int x3), some (.long (nL w)), none, some (.int (nI a)), some (.int (nI i)), o8, o9] [] σ8 Q
            have Sm8 := Sm7.tr (Smx8.to (B := fBA dp) (fun a q => by unfold fTA at q; unfold fBA; omega))
            have Ms8 := Ms.sm Sm8
            have hX8 : ∀ q, q ≠ 21 → fI σ8 89 q = fI σ 89 q := fun q hq => (m98.1 q hq).trans (hX7 q hq)
            skip
            have hsm8 := (congrFun m98.2 32).trans hsm7
            have hW8 := hW
            have hC8 := hC
            have hN8 := hN
            have hI9 : fI σ8 89 = fI σ 89 := by funext q; by_cases e : q = 21; rw [e, hdp8, hdp]; exact hX8 q e
            refine e_return dX10_branches_292 rfl (h σ8 Sm8 Mr8 hI9 (hsm8.trans ?_))
            rw [Nat.mul_comm 4 w, Nat.mul_assoc]
      · have c219 := bn1 c219
        have hal := c219
        obtain ⟨p, hpc, hp, hz, hi9⟩ := mal_pc c219
        refine e_iload_n dX10_branches_222 rfl rfl ?_
        refine e_aload_n dX10_branches_223 rfl rfl ?_
        refine e_iload dX10_branches_224 rfl ?_
        refine e_callV (k := 89) [.int (nI i)] dX10_branches_226 cc_X10_needOf lk_RX10_180 im_X10_needOf se_X10_needOf (by decide) (Ms1.s 89 rfl) (Ms1.n (by decide)) rfl (Nat.le_of_ble_eq_true rfl) (Nat.le_of_ble_eq_true rfl) ?_
        refine t_X10_needOf Ms1 Mr1 hD hW1 (by omega) (fK_i ?_)
        show fEv g _ mX10_branches 229 [some (.ref 89), some (.int (nI fl)), some (.int (nI c9)), some (.int x3), some (.long (nL w)), none, some (.int (nI a)), some (.int (nI i)), o8, o9] [.int (nI (mneed D S i)), .int (nI c9)] σ1 Q
        refine e_icmp_lt 251 dX10_branches_229 (by decide) (fun c229 => ?_) (fun c229 => ?_)
        · rw [nI_lt' (by omega) (by omega)] at c229
          refine e_aload_n dX10_branches_251 rfl rfl ?_
          refine e_iload dX10_branches_252 rfl ?_
          refine e_callV (k := 89) [.int (nI i)] dX10_branches_254 cc_X10_isAlive lk_RX10_183 im_X10_isAlive se_X10_isAlive (by decide) (Ms1.s 89 rfl) (Ms1.n (by decide)) rfl (Nat.le_of_ble_eq_true rfl) (Nat.le_of_ble_eq_true rfl) ?_
          refine t_X10_isAlive Ms1 Mr1 hD hW1 (by omega) (fK_i ?_)
          show fEv g _ mX10_branches 257 [some (.ref 89), some (.int (nI fl)), some (.int (nI c9)), some (.int x3), some (.long (nL w)), none, some (.int (nI a)), some (.int (nI i)), o8, o9] [.int (nI (bn (mal D S i)))] σ1 Q
          refine e_if_eq 270 dX10_branches_257 (by decide) (fun c257 => ?_) (fun c257 => ?_)
          · have c257 := bn0 c257
            have hq : mq D S c9 i = S := by unfold mq; rw [if_neg (fun q => by have q1 := q.1; have q2 := q.2; first | omega | exact absurd (c219.symm.trans q1) Bool.false_ne_true | exact absurd (c257.symm.trans q1) Bool.false_ne_true), if_neg (fun q => by have q1 := q.1; have q2 := q.2; first | omega | exact absurd (c219.symm.trans q1) Bool.false_ne_true | exact absurd (c257.symm.trans q1) Bool.false_ne_true)]
            rw [hq] at h
            refine e_aload_n dX10_branches_270 rfl rfl ?_
            refine e_iload_n dX10_branches_271 rfl rfl ?_
            refine e_iload_n dX10_branches_272 rfl rfl ?_
            refine e_iload dX10_branches_273 rfl ?_
            refine e_iconst (nI 1) dX10_branches_275 (by decide) ?_
            refine e_iadd dX10_branches_276 ?_
            refine e_int (nI (i + 1)) (nI_add i 1) ?_
            refine e_ldc2 (4) dX10_branches_277 kc_RX10_281 ?_
            refine e_long (nL 4) rfl ?_
            refine e_lload dX10_branches_280 rfl ?_
            refine e_lmul dX10_branches_282 ?_
            refine e_long (nL (4 * w)) (nL_mul 4 w) ?_
            refine e_iload dX10_branches_283 rfl ?_
            refine e_callV (k := 89) [.int (nI fl), .int (nI c9), .int (nI (i + 1)), .long (nL (4 * w)), .int (nI a)] dX10_branches_285 cc_X10_branches lk_RX10_277 im_X10_branches se_X10_branches (by decide) (Ms1.s 89 rfl) (Ms1.n (by decide)) rfl (Nat.le_of_ble_eq_true rfl) (Nat.le_of_ble_eq_true rfl) ?_
            show fEv g _ mX10_branches 0 [some (.ref 89), some (.int (nI fl)), some (.int (nI c9)), some (.int (nI (i + 1))), some (.long (nL (4 * w))), none, some (.int (nI a)), none, none, none] [] σ1 _
            refine e_iload_n dX10_branches_0 rfl rfl ?_
            refine e_istore (L1 := [some (.ref 89), some (.int (nI fl)), some (.int (nI c9)), some (.int (nI (i + 1))), some (.long (nL (4 * w))), none, some (.int (nI a)), some (.int (nI (i + 1))), none, none]) dX10_branches_1 (by decide) rfl ?_
            refine ih (i + 1) _ d _ _ _ (4 * w) (s0) (dp + 1) σ1 S sd (by omega) Ms1 Mr1 hR0 (hN.mono (Nat.le_refl _) (by omega)) ((hX1 31 (by decide)).trans htr) hdp1 (by omega) hsm1 ((hX1 33 (by decide)).trans htn) (fun σ9 Smx9 Mr9 hI9 hJ9 => ?_)
            show fEv g _ mX10_branches 288 [some (.ref 89), some (.int (nI fl)), some (.int (nI c9)), some (.int x3), some (.long (nL w)), none, some (.int (nI a)), some (.int (nI i)), o8, o9] [] σ9 Q
            have Sm9 := Sm1.tr (Smx9.to (B := fBA dp) (fun a q => by unfold fBA at q; unfold fBA; omega))
            have Ms9 := Ms.sm Sm9
            have hX9 : ∀ q, q ≠ 21 → fI σ9 89 q = fI σ 89 q := fun q hq => (congrFun hI9 q).trans (hX1 q hq)
            have hdp9 := (congrFun hI9 21).trans hdp1
            have hsm9 := hJ9
            have hR9 := hR1.sm Smx9 (by unfold fBA; omega)
            refine e_aload_n dX10_branches_288 rfl rfl ?_
            refine e_callV (k := 89) [] dX10_branches_289 cc_X10_takes lk_RX10_259 im_X10_takes se_X10_takes (by decide) (Ms9.s 89 rfl) (Ms9.n (by decide)) rfl (Nat.le_of_ble_eq_true rfl) (Nat.le_of_ble_eq_true rfl) ?_
            refine t_X10_takes Ms9 Mr9 hD (by omega) hdp9 hR9 (fun σ10 Smx10 Mr10 hdp10 m910 => ?_)
            show fEv g _ mX10_branches 292 [some (.ref 89), some (.int (nI fl)), some (.int (nI c9)), some (.int x3), some (.long (nL w)), none, some (.int (nI a)), some (.int (nI i)), o8, o9] [] σ10 Q
            have Sm10 := Sm9.tr (Smx10.to (B := fBA dp) (fun a q => by unfold fTA at q; unfold fBA; omega))
            have Ms10 := Ms.sm Sm10
            have hX10 : ∀ q, q ≠ 21 → fI σ10 89 q = fI σ 89 q := fun q hq => (m910.1 q hq).trans (hX9 q hq)
            skip
            have hsm10 := (congrFun m910.2 32).trans hsm9
            have hW10 := hW
            have hC10 := hC
            have hN10 := hN
            have hI9 : fI σ10 89 = fI σ 89 := by funext q; by_cases e : q = 21; rw [e, hdp10, hdp]; exact hX10 q e
            refine e_return dX10_branches_292 rfl (h σ10 Sm10 Mr10 hI9 (hsm10.trans ?_))
            rw [Nat.mul_comm 4 w, Nat.mul_assoc]
          · have c257 := bn1 c257
            have hal := c257
            refine e_iload_n dX10_branches_260 rfl rfl ?_
            refine e_if_le 270 dX10_branches_261 (by decide) (fun c261 => ?_) (fun c261 => ?_)
            · rw [nI_zle (by omega)] at c261
              have hq : mq D S c9 i = S := by unfold mq; rw [if_neg (fun q => by have q1 := q.1; have q2 := q.2; first | omega | exact absurd (c219.symm.trans q1) Bool.false_ne_true | exact absurd (c257.symm.trans q1) Bool.false_ne_true), if_neg (fun q => by have q1 := q.1; have q2 := q.2; first | omega | exact absurd (c219.symm.trans q1) Bool.false_ne_true | exact absurd (c257.symm.trans q1) Bool.false_ne_true)]
              rw [hq] at h
              refine e_aload_n dX10_branches_270 rfl rfl ?_
              refine e_iload_n dX10_branches_271 rfl rfl ?_
              refine e_iload_n dX10_branches_272 rfl rfl ?_
              refine e_iload dX10_branches_273 rfl ?_
              refine e_iconst (nI 1) dX10_branches_275 (by decide) ?_
              refine e_iadd dX10_branches_276 ?_
              refine e_int (nI (i + 1)) (nI_add i 1) ?_
              refine e_ldc2 (4) dX10_branches_277 kc_RX10_281 ?_
              refine e_long (nL 4) rfl ?_
              refine e_lload dX10_branches_280 rfl ?_
              refine e_lmul dX10_branches_282 ?_
              refine e_long (nL (4 * w)) (nL_mul 4 w) ?_
              refine e_iload dX10_branches_283 rfl ?_
              refine e_callV (k := 89) [.int (nI fl), .int (nI c9), .int (nI (i + 1)), .long (nL (4 * w)), .int (nI a)] dX10_branches_285 cc_X10_branches lk_RX10_277 im_X10_branches se_X10_branches (by decide) (Ms1.s 89 rfl) (Ms1.n (by decide)) rfl (Nat.le_of_ble_eq_true rfl) (Nat.le_of_ble_eq_true rfl) ?_
              show fEv g _ mX10_branches 0 [some (.ref 89), some (.int (nI fl)), some (.int (nI c9)), some (.int (nI (i + 1))), some (.long (nL (4 * w))), none, some (.int (nI a)), none, none, none] [] σ1 _
              refine e_iload_n dX10_branches_0 rfl rfl ?_
              refine e_istore (L1 := [some (.ref 89), some (.int (nI fl)), some (.int (nI c9)), some (.int (nI (i + 1))), some (.long (nL (4 * w))), none, some (.int (nI a)), some (.int (nI (i + 1))), none, none]) dX10_branches_1 (by decide) rfl ?_
              refine ih (i + 1) _ d _ _ _ (4 * w) (s0) (dp + 1) σ1 S sd (by omega) Ms1 Mr1 hR0 (hN.mono (Nat.le_refl _) (by omega)) ((hX1 31 (by decide)).trans htr) hdp1 (by omega) hsm1 ((hX1 33 (by decide)).trans htn) (fun σ11 Smx11 Mr11 hI11 hJ11 => ?_)
              show fEv g _ mX10_branches 288 [some (.ref 89), some (.int (nI fl)), some (.int (nI c9)), some (.int x3), some (.long (nL w)), none, some (.int (nI a)), some (.int (nI i)), o8, o9] [] σ11 Q
              have Sm11 := Sm1.tr (Smx11.to (B := fBA dp) (fun a q => by unfold fBA at q; unfold fBA; omega))
              have Ms11 := Ms.sm Sm11
              have hX11 : ∀ q, q ≠ 21 → fI σ11 89 q = fI σ 89 q := fun q hq => (congrFun hI11 q).trans (hX1 q hq)
              have hdp11 := (congrFun hI11 21).trans hdp1
              have hsm11 := hJ11
              have hR11 := hR1.sm Smx11 (by unfold fBA; omega)
              refine e_aload_n dX10_branches_288 rfl rfl ?_
              refine e_callV (k := 89) [] dX10_branches_289 cc_X10_takes lk_RX10_259 im_X10_takes se_X10_takes (by decide) (Ms11.s 89 rfl) (Ms11.n (by decide)) rfl (Nat.le_of_ble_eq_true rfl) (Nat.le_of_ble_eq_true rfl) ?_
              refine t_X10_takes Ms11 Mr11 hD (by omega) hdp11 hR11 (fun σ12 Smx12 Mr12 hdp12 m912 => ?_)
              show fEv g _ mX10_branches 292 [some (.ref 89), some (.int (nI fl)), some (.int (nI c9)), some (.int x3), some (.long (nL w)), none, some (.int (nI a)), some (.int (nI i)), o8, o9] [] σ12 Q
              have Sm12 := Sm11.tr (Smx12.to (B := fBA dp) (fun a q => by unfold fTA at q; unfold fBA; omega))
              have Ms12 := Ms.sm Sm12
              have hX12 : ∀ q, q ≠ 21 → fI σ12 89 q = fI σ 89 q := fun q hq => (m912.1 q hq).trans (hX11 q hq)
              skip
              have hsm12 := (congrFun m912.2 32).trans hsm11
              have hW12 := hW
              have hC12 := hC
              have hN12 := hN
              have hI9 : fI σ12 89 = fI σ 89 := by funext q; by_cases e : q = 21; rw [e, hdp12, hdp]; exact hX12 q e
              refine e_return dX10_branches_292 rfl (h σ12 Sm12 Mr12 hI9 (hsm12.trans ?_))
              rw [Nat.mul_comm 4 w, Nat.mul_assoc]
            · rw [nI_zle (by omega)] at c261
              refine e_aload_n dX10_branches_264 rfl rfl ?_
              refine e_iload dX10_branches_265 rfl ?_
              refine e_callV (k := 89) [.int (nI i)] dX10_branches_267 cc_X10_bruises lk_RX10_208 im_X10_bruises se_X10_bruises (by decide) (Ms1.s 89 rfl) (Ms1.n (by decide)) rfl (Nat.le_of_ble_eq_true rfl) (Nat.le_of_ble_eq_true rfl) ?_
              refine t_X10_bruises Ms1 Mr1 hD hW1 hN1 (by omega) hi (fun σ13 Smx13 Mr13 => ?_)
              show fEv g _ mX10_branches 270 [some (.ref 89), some (.int (nI fl)), some (.int (nI c9)), some (.int x3), some (.long (nL w)), none, some (.int (nI a)), some (.int (nI i)), o8, o9] [] σ13 Q
              have Sm13 := Sm1.tr (Smx13.to (B := fBA dp) (fun a q => by unfold fRA9 at q; unfold fBA; omega))
              have Ms13 := Ms.sm Sm13
              have hX13 : ∀ q, q ≠ 21 → fI σ13 89 q = fI σ 89 q := fun q hq => (Smx13.i (by unfold fRA9; omega) q).trans (hX1 q hq)
              have hdp13 := (Smx13.i (by unfold fRA9; omega) 21).trans hdp1
              have hsm13 := (Smx13.j (by unfold fRA9; omega) 32).trans hsm1
              have hR13 := hR1.sm Smx13 (by unfold fRA9; omega)
              have hq13 : mq D S c9 i = mbru S i := by unfold mq; rw [if_neg (fun q => by have q1 := q.1; have q2 := q.2; first | omega | exact absurd (c219.symm.trans q1) Bool.false_ne_true | exact absurd (c257.symm.trans q1) Bool.false_ne_true), if_pos ⟨hal, by omega⟩]
              have r13 := (mR_q (k := i) (cold := c9) hD hn0 hi hR0).1
              rw [hq13] at r13
              have n13 := fWN_bru (k := i) (by omega) hN
              have hq := hq13
              rw [hq] at h
              refine e_aload_n dX10_branches_270 rfl rfl ?_
              refine e_iload_n dX10_branches_271 rfl rfl ?_
              refine e_iload_n dX10_branches_272 rfl rfl ?_
              refine e_iload dX10_branches_273 rfl ?_
              refine e_iconst (nI 1) dX10_branches_275 (by decide) ?_
              refine e_iadd dX10_branches_276 ?_
              refine e_int (nI (i + 1)) (nI_add i 1) ?_
              refine e_ldc2 (4) dX10_branches_277 kc_RX10_281 ?_
              refine e_long (nL 4) rfl ?_
              refine e_lload dX10_branches_280 rfl ?_
              refine e_lmul dX10_branches_282 ?_
              refine e_long (nL (4 * w)) (nL_mul 4 w) ?_
              refine e_iload dX10_branches_283 rfl ?_
              refine e_callV (k := 89) [.int (nI fl), .int (nI c9), .int (nI (i + 1)), .long (nL (4 * w)), .int (nI a)] dX10_branches_285 cc_X10_branches lk_RX10_277 im_X10_branches se_X10_branches (by decide) (Ms13.s 89 rfl) (Ms13.n (by decide)) rfl (Nat.le_of_ble_eq_true rfl) (Nat.le_of_ble_eq_true rfl) ?_
              show fEv g _ mX10_branches 0 [some (.ref 89), some (.int (nI fl)), some (.int (nI c9)), some (.int (nI (i + 1))), some (.long (nL (4 * w))), none, some (.int (nI a)), none, none, none] [] σ13 _
              refine e_iload_n dX10_branches_0 rfl rfl ?_
              refine e_istore (L1 := [some (.ref 89), some (.int (nI fl)), some (.int (nI c9)), some (.int (nI (i + 1))), some (.long (nL (4 * w))), none, some (.int (nI a)), some (.int (nI (i + 1))), none, none]) dX10_branches_1 (by decide) rfl ?_
              refine ih (i + 1) _ d _ _ _ (4 * w) (s0) (dp + 1) σ13 (mbru S i) sd (by omega) Ms13 Mr13 r13 n13 ((hX13 31 (by decide)).trans htr) hdp13 (by omega) hsm13 ((hX13 33 (by decide)).trans htn) (fun σ14 Smx14 Mr14 hI14 hJ14 => ?_)
              show fEv g _ mX10_branches 288 [some (.ref 89), some (.int (nI fl)), some (.int (nI c9)), some (.int x3), some (.long (nL w)), none, some (.int (nI a)), some (.int (nI i)), o8, o9] [] σ14 Q
              have Sm14 := Sm13.tr (Smx14.to (B := fBA dp) (fun a q => by unfold fBA at q; unfold fBA; omega))
              have Ms14 := Ms.sm Sm14
              have hX14 : ∀ q, q ≠ 21 → fI σ14 89 q = fI σ 89 q := fun q hq => (congrFun hI14 q).trans (hX13 q hq)
              have hdp14 := (congrFun hI14 21).trans hdp13
              have hsm14 := hJ14
              have hR14 := hR13.sm Smx14 (by unfold fBA; omega)
              refine e_aload_n dX10_branches_288 rfl rfl ?_
              refine e_callV (k := 89) [] dX10_branches_289 cc_X10_takes lk_RX10_259 im_X10_takes se_X10_takes (by decide) (Ms14.s 89 rfl) (Ms14.n (by decide)) rfl (Nat.le_of_ble_eq_true rfl) (Nat.le_of_ble_eq_true rfl) ?_
              refine t_X10_takes Ms14 Mr14 hD (by omega) hdp14 hR14 (fun σ15 Smx15 Mr15 hdp15 m915 => ?_)
              show fEv g _ mX10_branches 292 [some (.ref 89), some (.int (nI fl)), some (.int (nI c9)), some (.int x3), some (.long (nL w)), none, some (.int (nI a)), some (.int (nI i)), o8, o9] [] σ15 Q
              have Sm15 := Sm14.tr (Smx15.to (B := fBA dp) (fun a q => by unfold fTA at q; unfold fBA; omega))
              have Ms15 := Ms.sm Sm15
              have hX15 : ∀ q, q ≠ 21 → fI σ15 89 q = fI σ 89 q := fun q hq => (m915.1 q hq).trans (hX14 q hq)
              skip
              have hsm15 := (congrFun m915.2 32).trans hsm14
              have hW15 := hW
              have hC15 := hC
              have hN15 := hN
              have hI9 : fI σ15 89 = fI σ 89 := by funext q; by_cases e : q = 21; rw [e, hdp15, hdp]; exact hX15 q e
              refine e_return dX10_branches_292 rfl (h σ15 Sm15 Mr15 hI9 (hsm15.trans ?_))
              rw [Nat.mul_comm 4 w, Nat.mul_assoc]
        · rw [nI_lt' (by omega) (by omega)] at c229
          refine e_aload_n dX10_branches_232 rfl rfl ?_
          refine e_iload dX10_branches_233 rfl ?_
          refine e_aload_n dX10_branches_235 rfl rfl ?_
          refine e_getR (q := 120) dX10_branches_236 fl_RX10_34 (Ms1.s 89 rfl) (Ms1.n (by decide)) rfl (Ms1.r 89 14 rfl) (by unfold fscr; omega) ?_
          refine e_iload dX10_branches_239 rfl ?_
          refine e_aaload (q := 121 + i) i dX10_branches_241 (Ms1.s 120 rfl) (by decide) (Ms1.n (by decide)) rfl (by omega) (by decide) (Ms1.r 120 _ (frf_slot _ (by omega))) (by unfold fscr; omega) ?_
          refine e_iconst (nI 2) dX10_branches_242 (by decide) ?_
          refine e_iaload 2 dX10_branches_243 (Ms1.s _ (fsh_slot _ (by omega))) (Ms1.n (by omega)) rfl (by omega) (by decide) ?_
          refine e_int (nI (dS D i 2)) (Mr1.slot i (by omega) 2 (by omega)) ?_
          refine e_iload_n dX10_branches_244 rfl rfl ?_
          refine e_callV (k := 89) [.int (nI i), .int (nI (dS D i 2)), .int (nI c9)] dX10_branches_245 cc_X10_splits lk_RX10_204 im_X10_splits se_X10_splits (by decide) (Ms1.s 89 rfl) (Ms1.n (by decide)) rfl (Nat.le_of_ble_eq_true rfl) (Nat.le_of_ble_eq_true rfl) ?_
          refine t_X10_splits (T := fun _ => 0) (tr := false) Ms1 Mr1 hD hW1 hC1 hN1 ((hX1 31 (by decide)).trans htr) hi hz hpc (by omega) (fun σ16 Smx16 Mr16 _ => ?_)
          show fEv g _ mX10_branches 248 [some (.ref 89), some (.int (nI fl)), some (.int (nI c9)), some (.int x3), some (.long (nL w)), none, some (.int (nI a)), some (.int (nI i)), o8, o9] [] σ16 Q
          have Sm16 := Sm1.tr (Smx16.to (B := fBA dp) (fun a q => q.elim (fun z => Or.inr (Or.inl z)) (fun z => absurd z.1 Bool.false_ne_true)))
          have Ms16 := Ms.sm Sm16
          have hX16 : ∀ q, q ≠ 21 → fI σ16 89 q = fI σ 89 q := fun q hq => (Smx16.i (by unfold fRA; omega) q).trans (hX1 q hq)
          have hdp16 := (Smx16.i (by unfold fRA; omega) 21).trans hdp1
          have hsm16 := (Smx16.j (by unfold fRA; omega) 32).trans hsm1
          have hR16 := hR1.sm Smx16 (by unfold fRA; omega)
          have r16 := (mR_spl hD hn0 hi hR0 hal hpc hi9).1
          have n16 := (fWN_spl (line := dS D i 2) hD hW hC hi hz hpc hN).mono (Nat.le_refl _) (show i ≤ i + 1 by omega)
          refine e_goto 270 dX10_branches_248 (by decide) ?_
          have hq : mq D S c9 i = mspl D S i (dS D i 2) := by unfold mq; exact if_pos ⟨hal, by omega⟩
          rw [hq] at h
          refine e_aload_n dX10_branches_270 rfl rfl ?_
          refine e_iload_n dX10_branches_271 rfl rfl ?_
          refine e_iload_n dX10_branches_272 rfl rfl ?_
          refine e_iload dX10_branches_273 rfl ?_
          refine e_iconst (nI 1) dX10_branches_275 (by decide) ?_
          refine e_iadd dX10_branches_276 ?_
          refine e_int (nI (i + 1)) (nI_add i 1) ?_
          refine e_ldc2 (4) dX10_branches_277 kc_RX10_281 ?_
          refine e_long (nL 4) rfl ?_
          refine e_lload dX10_branches_280 rfl ?_
          refine e_lmul dX10_branches_282 ?_
          refine e_long (nL (4 * w)) (nL_mul 4 w) ?_
          refine e_iload dX10_branches_283 rfl ?_
          refine e_callV (k := 89) [.int (nI fl), .int (nI c9), .int (nI (i + 1)), .long (nL (4 * w)), .int (nI a)] dX10_branches_285 cc_X10_branches lk_RX10_277 im_X10_branches se_X10_branches (by decide) (Ms16.s 89 rfl) (Ms16.n (by decide)) rfl (Nat.le_of_ble_eq_true rfl) (Nat.le_of_ble_eq_true rfl) ?_
          show fEv g _ mX10_branches 0 [some (.ref 89), some (.int (nI fl)), some (.int (nI c9)), some (.int (nI (i + 1))), some (.long (nL (4 * w))), none, some (.int (nI a)), none, none, none] [] σ16 _
          refine e_iload_n dX10_branches_0 rfl rfl ?_
          refine e_istore (L1 := [some (.ref 89), some (.int (nI fl)), some (.int (nI c9)), some (.int (nI (i + 1))), some (.long (nL (4 * w))), none, some (.int (nI a)), some (.int (nI (i + 1))), none, none]) dX10_branches_1 (by decide) rfl ?_
          refine ih (i + 1) _ d _ _ _ (4 * w) (s0) (dp + 1) σ16 (mspl D S i (dS D i 2)) sd (by omega) Ms16 Mr16 r16 n16 ((hX16 31 (by decide)).trans htr) hdp16 (by omega) hsm16 ((hX16 33 (by decide)).trans htn) (fun σ17 Smx17 Mr17 hI17 hJ17 => ?_)
          show fEv g _ mX10_branches 288 [some (.ref 89), some (.int (nI fl)), some (.int (nI c9)), some (.int x3), some (.long (nL w)), none, some (.int (nI a)), some (.int (nI i)), o8, o9] [] σ17 Q
          have Sm17 := Sm16.tr (Smx17.to (B := fBA dp) (fun a q => by unfold fBA at q; unfold fBA; omega))
          have Ms17 := Ms.sm Sm17
          have hX17 : ∀ q, q ≠ 21 → fI σ17 89 q = fI σ 89 q := fun q hq => (congrFun hI17 q).trans (hX16 q hq)
          have hdp17 := (congrFun hI17 21).trans hdp16
          have hsm17 := hJ17
          have hR17 := hR16.sm Smx17 (by unfold fBA; omega)
          refine e_aload_n dX10_branches_288 rfl rfl ?_
          refine e_callV (k := 89) [] dX10_branches_289 cc_X10_takes lk_RX10_259 im_X10_takes se_X10_takes (by decide) (Ms17.s 89 rfl) (Ms17.n (by decide)) rfl (Nat.le_of_ble_eq_true rfl) (Nat.le_of_ble_eq_true rfl) ?_
          refine t_X10_takes Ms17 Mr17 hD (by omega) hdp17 hR17 (fun σ18 Smx18 Mr18 hdp18 m918 => ?_)
          show fEv g _ mX10_branches 292 [some (.ref 89), some (.int (nI fl)), some (.int (nI c9)), some (.int x3), some (.long (nL w)), none, some (.int (nI a)), some (.int (nI i)), o8, o9] [] σ18 Q
          have Sm18 := Sm17.tr (Smx18.to (B := fBA dp) (fun a q => by unfold fTA at q; unfold fBA; omega))
          have Ms18 := Ms.sm Sm18
          have hX18 : ∀ q, q ≠ 21 → fI σ18 89 q = fI σ 89 q := fun q hq => (m918.1 q hq).trans (hX17 q hq)
          skip
          have hsm18 := (congrFun m918.2 32).trans hsm17
          have hW18 := hW
          have hC18 := hC
          have hN18 := hN
          have hI9 : fI σ18 89 = fI σ 89 := by funext q; by_cases e : q = 21; rw [e, hdp18, hdp]; exact hX18 q e
          refine e_return dX10_branches_292 rfl (h σ18 Sm18 Mr18 hI9 (hsm18.trans ?_))
          rw [Nat.mul_comm 4 w, Nat.mul_assoc]
    refine e_iload dX10_branches_3 rfl ?_
    refine e_aload_n dX10_branches_5 rfl rfl ?_
    refine e_getR (q := 92) dX10_branches_6 fl_RX10_20 (Ms.s 89 rfl) (Ms.n (by decide)) rfl (Ms.r 89 10 rfl) (by unfold fscr; omega) ?_
    refine e_iconst (nI 1) dX10_branches_9 (by decide) ?_
    refine e_iaload 1 dX10_branches_10 (Ms.s 92 rfl) (Ms.n (by decide)) rfl (by omega) (by decide) ?_
    refine e_int (nI (dT D 1)) (Mr.t 1 (by omega)) ?_
    refine e_icmp_ge 29 dX10_branches_11 (by decide) (fun cz => absurd ((nI_le' (by omega) (by omega)).mp cz) (by omega)) (fun cz => ?_)
    refine e_iload_n dX10_branches_14 rfl rfl ?_
    refine e_iload dX10_branches_15 rfl ?_
    refine e_ishr dX10_branches_17 ?_
    refine e_int (nI (fl / 2 ^ i)) (nI_shr (by omega) (by omega)) ?_
    refine e_iconst (nI 1) dX10_branches_18 (by decide) ?_
    refine e_iand dX10_branches_19 ?_
    refine e_int (nI (fl / 2 ^ i % 2)) (nI_and1 (by omega)) ?_
    refine e_if_ne 29 dX10_branches_20 (by decide) (fun c20 => ?_) (fun c20 => ?_)
    · rw [nI_z (by omega)] at c20
      refine e_iload dX10_branches_29 rfl ?_
      refine e_aload_n dX10_branches_31 rfl rfl ?_
      refine e_getR (q := 92) dX10_branches_32 fl_RX10_20 (Ms.s 89 rfl) (Ms.n (by decide)) rfl (Ms.r 89 10 rfl) (by unfold fscr; omega) ?_
      refine e_iconst (nI 1) dX10_branches_35 (by decide) ?_
      refine e_iaload 1 dX10_branches_36 (Ms.s 92 rfl) (Ms.n (by decide)) rfl (by omega) (by decide) ?_
      refine e_int (nI (dT D 1)) (Mr.t 1 (by omega)) ?_
      refine e_icmp_ne 112 dX10_branches_37 (by decide) (fun cz => ?_) (fun cz => absurd ((nI_inj (by omega) (by omega)).mp cz) (by omega))
      refine e_aload_n dX10_branches_112 rfl rfl ?_
      refine e_iload dX10_branches_113 rfl ?_
      refine e_callV (k := 89) [.int (nI i)] dX10_branches_115 cc_X10_isAlive lk_RX10_183 im_X10_isAlive se_X10_isAlive (by decide) (Ms.s 89 rfl) (Ms.n (by decide)) rfl (Nat.le_of_ble_eq_true rfl) (Nat.le_of_ble_eq_true rfl) ?_
      refine t_X10_isAlive Ms Mr hD hW (by omega) (fK_i ?_)
      show fEv g _ mX10_branches 118 [some (.ref 89), some (.int (nI fl)), some (.int (nI c9)), some (.int x3), some (.long (nL w)), none, some (.int (nI a)), some (.int (nI i)), o8, o9] [.int (nI (bn (mal D S i)))] σ Q
      refine e_if_eq 209 dX10_branches_118 (by decide) (fun c118 => ?_) (fun c118 => ?_)
      · have c118 := bn0 c118
        exact k209 (by omega) (by unfold mdrw; first | (rw [c118, Bool.and_false]; rfl) | (rw [decide_eq_false (show ¬ mneed D S i ≤ c9 by omega), Bool.and_false]; rfl) | (rw [c138, Bool.and_false]))
      · have c118 := bn1 c118
        refine e_iload_n dX10_branches_121 rfl rfl ?_
        refine e_aload_n dX10_branches_122 rfl rfl ?_
        refine e_iload dX10_branches_123 rfl ?_
        refine e_callV (k := 89) [.int (nI i)] dX10_branches_125 cc_X10_needOf lk_RX10_180 im_X10_needOf se_X10_needOf (by decide) (Ms.s 89 rfl) (Ms.n (by decide)) rfl (Nat.le_of_ble_eq_true rfl) (Nat.le_of_ble_eq_true rfl) ?_
        refine t_X10_needOf Ms Mr hD hW (by omega) (fK_i ?_)
        show fEv g _ mX10_branches 128 [some (.ref 89), some (.int (nI fl)), some (.int (nI c9)), some (.int x3), some (.long (nL w)), none, some (.int (nI a)), some (.int (nI i)), o8, o9] [.int (nI (mneed D S i)), .int (nI c9)] σ Q
        refine e_icmp_lt 209 dX10_branches_128 (by decide) (fun c128 => ?_) (fun c128 => ?_)
        · rw [nI_lt' (by omega) (by omega)] at c128
          exact k209 (by omega) (by unfold mdrw; first | (rw [c118, Bool.and_false]; rfl) | (rw [decide_eq_false (show ¬ mneed D S i ≤ c9 by omega), Bool.and_false]; rfl) | (rw [c138, Bool.and_false]))
        · rw [nI_lt' (by omega) (by omega)] at c128
          refine e_aload_n dX10_branches_131 rfl rfl ?_
          refine e_iload dX10_branches_132 rfl ?_
          refine e_iload_n dX10_branches_134 rfl rfl ?_
          refine e_callV (k := 89) [.int (nI i), .int (nI c9)] dX10_branches_135 cc_X10_mayStray lk_RX10_197 im_X10_mayStray se_X10_mayStray (by decide) (Ms.s 89 rfl) (Ms.n (by decide)) rfl (Nat.le_of_ble_eq_true rfl) (Nat.le_of_ble_eq_true rfl) ?_
          refine t_X10_mayStray Ms Mr hD hW (by omega) (by omega) (fK_i ?_)
          show fEv g _ mX10_branches 138 [some (.ref 89), some (.int (nI fl)), some (.int (nI c9)), some (.int x3), some (.long (nL w)), none, some (.int (nI a)), some (.int (nI i)), o8, o9] [.int (nI (bn (mstr D S i c9)))] σ Q
          refine e_if_eq 209 dX10_branches_138 (by decide) (fun c138 => ?_) (fun c138 => ?_)
          · have c138 := bn0 c138
            exact k209 (by omega) (by unfold mdrw; first | (rw [c118, Bool.and_false]; rfl) | (rw [decide_eq_false (show ¬ mneed D S i ≤ c9 by omega), Bool.and_false]; rfl) | (rw [c138, Bool.and_false]))
          · have c138 := bn1 c138
            have hbit : fl / 2 ^ i % 2 = 1 := by omega
            rw [hbit] at hdeep
            have hdw : mdrw D S fl c9 i = true := by unfold mdrw; rw [decide_eq_true hbit, c118, decide_eq_true (show mneed D S i ≤ c9 by omega), c138]; rfl
            obtain ⟨p, hpc, hp, hz, hi9⟩ := mal_pc c118
            have hV : mbr D (lf0 D a) fl c9 (n + 1) i S = mbr D (lf0 D a) fl c9 n (i + 1) (mspl D S i (mln D S i 0)) + mbr D (lf0 D a) fl c9 n (i + 1) (mspl D S i (mln D S i 1)) + 2 * mbr D (lf0 D a) fl c9 n (i + 1) (mspl D S i (mln D S i 2)) := by rw [mbr, if_pos hbit, if_pos hdw]
            rw [hV] at h
            refine e_iconst (nI 0) dX10_branches_141 (by decide) ?_
            refine e_istore (L1 := [some (.ref 89), some (.int (nI fl)), some (.int (nI c9)), some (.int x3), some (.long (nL w)), none, some (.int (nI a)), some (.int (nI i)), some (.int (nI 0)), o9]) dX10_branches_142 (by decide) rfl ?_
            refine e_iload dX10_branches_144 rfl ?_
            refine e_iconst (nI 3) dX10_branches_146 (by decide) ?_
            refine e_icmp_ge 208 dX10_branches_147 (by decide) (fun c => absurd c (by decide)) (fun _ => ?_)
            refine e_aload_n dX10_branches_150 rfl rfl ?_
            refine e_callV (k := 89) [] dX10_branches_151 cc_X10_puts lk_RX10_253 im_X10_puts se_X10_puts (by decide) (Ms.s 89 rfl) (Ms.n (by decide)) rfl (Nat.le_of_ble_eq_true rfl) (Nat.le_of_ble_eq_true rfl) ?_
            refine t_X10_puts Ms Mr hD (by omega) hdp (fun σ1 Smx1 Mr1 hR1 hdp1 m91 => ?_)
            show fEv g _ mX10_branches 154 [some (.ref 89), some (.int (nI fl)), some (.int (nI c9)), some (.int x3), some (.long (nL w)), none, some (.int (nI a)), some (.int (nI i)), some (.int (nI 0)), o9] [] σ1 Q
            have Sm1 := (Smx1.to (B := fBA dp) (fun a q => by unfold fPA at q; unfold fBA; omega))
            have Ms1 := Ms.sm Sm1
            have hX1 : ∀ q, q ≠ 21 → fI σ1 89 q = fI σ 89 q := m91.1
            skip
            have hsm1 := (congrFun m91.2 32).trans hsm
            have hW1 := hW
            have hC1 := hC
            have hN1 := hN
            refine e_aload_n dX10_branches_154 rfl rfl ?_
            refine e_iload dX10_branches_155 rfl ?_
            refine e_aload_n dX10_branches_157 rfl rfl ?_
            refine e_iload dX10_branches_158 rfl ?_
            refine e_iload dX10_branches_160 rfl ?_
            refine e_callV (k := 89) [.int (nI i), .int (nI 0)] dX10_branches_162 cc_X10_lineOf lk_RX10_201 im_X10_lineOf se_X10_lineOf (by decide) (Ms1.s 89 rfl) (Ms1.n (by decide)) rfl (Nat.le_of_ble_eq_true rfl) (Nat.le_of_ble_eq_true rfl) ?_
            refine t_X10_lineOf Ms1 Mr1 hD hW1 hi (by omega) hpc (fK_i ?_)
            show fEv g _ mX10_branches 165 [some (.ref 89), some (.int (nI fl)), some (.int (nI c9)), some (.int x3), some (.long (nL w)), none, some (.int (nI a)), some (.int (nI i)), some (.int (nI 0)), o9] [.int (nI (mln D S i 0)), .int (nI i), .ref 89] σ1 Q
            refine e_iload_n dX10_branches_165 rfl rfl ?_
            refine e_callV (k := 89) [.int (nI i), .int (nI (mln D S i 0)), .int (nI c9)] dX10_branches_166 cc_X10_splits lk_RX10_204 im_X10_splits se_X10_splits (by decide) (Ms1.s 89 rfl) (Ms1.n (by decide)) rfl (Nat.le_of_ble_eq_true rfl) (Nat.le_of_ble_eq_true rfl) ?_
            refine t_X10_splits (T := fun _ => 0) (tr := false) Ms1 Mr1 hD hW1 hC1 hN1 ((hX1 31 (by decide)).trans htr) hi hz hpc (mln_lt (by omega)) (fun σ2 Smx2 Mr2 _ => ?_)
            show fEv g _ mX10_branches 169 [some (.ref 89), some (.int (nI fl)), some (.int (nI c9)), some (.int x3), some (.long (nL w)), none, some (.int (nI a)), some (.int (nI i)), some (.int (nI 0)), o9] [] σ2 Q
            have Sm2 := Sm1.tr (Smx2.to (B := fBA dp) (fun a q => q.elim (fun z => Or.inr (Or.inl z)) (fun z => absurd z.1 Bool.false_ne_true)))
            have Ms2 := Ms.sm Sm2
            have hX2 : ∀ q, q ≠ 21 → fI σ2 89 q = fI σ 89 q := fun q hq => (Smx2.i (by unfold fRA; omega) q).trans (hX1 q hq)
            have hdp2 := (Smx2.i (by unfold fRA; omega) 21).trans hdp1
            have hsm2 := (Smx2.j (by unfold fRA; omega) 32).trans hsm1
            have hR2 := hR1.sm Smx2 (by unfold fRA; omega)
            have r2 := (mR_d 0 hD hn0 hi hR0 hdw).1
            have n2 := (fWN_spl (line := mln D S i 0) hD hW hC hi hz hpc hN).mono (Nat.le_refl _) (show i ≤ i + 1 by omega)
            refine e_aload_n dX10_branches_169 rfl rfl ?_
            refine e_iload_n dX10_branches_170 rfl rfl ?_
            refine e_iload_n dX10_branches_171 rfl rfl ?_
            refine e_iload dX10_branches_172 rfl ?_
            refine e_iconst (nI 1) dX10_branches_174 (by decide) ?_
            refine e_iadd dX10_branches_175 ?_
            refine e_int (nI (i + 1)) (nI_add i 1) ?_
            refine e_iload dX10_branches_176 rfl ?_
            refine e_iconst (nI 2) dX10_branches_178 (by decide) ?_
            refine e_icmp_ge 187 dX10_branches_179 (by decide) (fun c => absurd c (by decide)) (fun _ => ?_)
            refine e_lload dX10_branches_182 rfl ?_
            refine e_goto 193 dX10_branches_184 (by decide) ?_
            refine e_iload dX10_branches_193 rfl ?_
            refine e_callV (k := 89) [.int (nI fl), .int (nI c9), .int (nI (i + 1)), .long (nL w), .int (nI a)] dX10_branches_195 cc_X10_branches lk_RX10_277 im_X10_branches se_X10_branches (by decide) (Ms2.s 89 rfl) (Ms2.n (by decide)) rfl (Nat.le_of_ble_eq_true rfl) (Nat.le_of_ble_eq_true rfl) ?_
            show fEv g _ mX10_branches 0 [some (.ref 89), some (.int (nI fl)), some (.int (nI c9)), some (.int (nI (i + 1))), some (.long (nL w)), none, some (.int (nI a)), none, none, none] [] σ2 _
            refine e_iload_n dX10_branches_0 rfl rfl ?_
            refine e_istore (L1 := [some (.ref 89), some (.int (nI fl)), some (.int (nI c9)), some (.int (nI (i + 1))), some (.long (nL w)), none, some (.int (nI a)), some (.int (nI (i + 1))), none, none]) dX10_branches_1 (by decide) rfl ?_
            refine ih (i + 1) _ d _ _ _ w (s0) (dp + 1) σ2 (mspl D S i (mln D S i 0)) sd (by omega) Ms2 Mr2 r2 n2 ((hX2 31 (by decide)).trans htr) hdp2 (by omega) hsm2 ((hX2 33 (by decide)).trans htn) (fun σ3 Smx3 Mr3 hI3 hJ3 => ?_)
            show fEv g _ mX10_branches 198 [some (.ref 89), some (.int (nI fl)), some (.int (nI c9)), some (.int x3), some (.long (nL w)), none, some (.int (nI a)), some (.int (nI i)), some (.int (nI 0)), o9] [] σ3 Q
            have Sm3 := Sm2.tr (Smx3.to (B := fBA dp) (fun a q => by unfold fBA at q; unfold fBA; omega))
            have Ms3 := Ms.sm Sm3
            have hX3 : ∀ q, q ≠ 21 → fI σ3 89 q = fI σ 89 q := fun q hq => (congrFun hI3 q).trans (hX2 q hq)
            have hdp3 := (congrFun hI3 21).trans hdp2
            have hsm3 := hJ3
            have hR3 := hR2.sm Smx3 (by unfold fBA; omega)
            refine e_aload_n dX10_branches_198 rfl rfl ?_
            refine e_callV (k := 89) [] dX10_branches_199 cc_X10_takes lk_RX10_259 im_X10_takes se_X10_takes (by decide) (Ms3.s 89 rfl) (Ms3.n (by decide)) rfl (Nat.le_of_ble_eq_true rfl) (Nat.le_of_ble_eq_true rfl) ?_
            refine t_X10_takes Ms3 Mr3 hD (by omega) hdp3 hR3 (fun σ4 Smx4 Mr4 hdp4 m94 => ?_)
            show fEv g _ mX10_branches 202 [some (.ref 89), some (.int (nI fl)), some (.int (nI c9)), some (.int x3), some (.long (nL w)), none, some (.int (nI a)), some (.int (nI i)), some (.int (nI 0)), o9] [] σ4 Q
            have Sm4 := Sm3.tr (Smx4.to (B := fBA dp) (fun a q => by unfold fTA at q; unfold fBA; omega))
            have Ms4 := Ms.sm Sm4
            have hX4 : ∀ q, q ≠ 21 → fI σ4 89 q = fI σ 89 q := fun q hq => (m94.1 q hq).trans (hX3 q hq)
            skip
            have hsm4 := (congrFun m94.2 32).trans hsm3
            have hW4 := hW
            have hC4 := hC
            have hN4 := hN
            refine e_iinc (v := nI 1) (L1 := [some (.ref 89), some (.int (nI fl)), some (.int (nI c9)), some (.int x3), some (.long (nL w)), none, some (.int (nI a)), some (.int (nI i)), some (.int (nI 1)), o9]) dX10_branches_202 rfl (by decide) (by decide) rfl ?_
            refine e_goto 144 dX10_branches_205 (by decide) ?_
            refine e_iload dX10_branches_144 rfl ?_
            refine e_iconst (nI 3) dX10_branches_146 (by decide) ?_
            refine e_icmp_ge 208 dX10_branches_147 (by decide) (fun c => absurd c (by decide)) (fun _ => ?_)
            refine e_aload_n dX10_branches_150 rfl rfl ?_
            refine e_callV (k := 89) [] dX10_branches_151 cc_X10_puts lk_RX10_253 im_X10_puts se_X10_puts (by decide) (Ms4.s 89 rfl) (Ms4.n (by decide)) rfl (Nat.le_of_ble_eq_true rfl) (Nat.le_of_ble_eq_true rfl) ?_
            refine t_X10_puts Ms4 Mr4 hD (by omega) hdp4 (fun σ5 Smx5 Mr5 hR5 hdp5 m95 => ?_)
            show fEv g _ mX10_branches 154 [some (.ref 89), some (.int (nI fl)), some (.int (nI c9)), some (.int x3), some (.long (nL w)), none, some (.int (nI a)), some (.int (nI i)), some (.int (nI 1)), o9] [] σ5 Q
            have Sm5 := Sm4.tr (Smx5.to (B := fBA dp) (fun a q => by unfold fPA at q; unfold fBA; omega))
            have Ms5 := Ms.sm Sm5
            have hX5 : ∀ q, q ≠ 21 → fI σ5 89 q = fI σ 89 q := fun q hq => (m95.1 q hq).trans (hX4 q hq)
            skip
            have hsm5 := (congrFun m95.2 32).trans hsm4
            have hW5 := hW4
            have hC5 := hC4
            have hN5 := hN4
            refine e_aload_n dX10_branches_154 rfl rfl ?_
            refine e_iload dX10_branches_155 rfl ?_
            refine e_aload_n dX10_branches_157 rfl rfl ?_
            refine e_iload dX10_branches_158 rfl ?_
            refine e_iload dX10_branches_160 rfl ?_
            refine e_callV (k := 89) [.int (nI i), .int (nI 1)] dX10_branches_162 cc_X10_lineOf lk_RX10_201 im_X10_lineOf se_X10_lineOf (by decide) (Ms5.s 89 rfl) (Ms5.n (by decide)) rfl (Nat.le_of_ble_eq_true rfl) (Nat.le_of_ble_eq_true rfl) ?_
            refine t_X10_lineOf Ms5 Mr5 hD hW5 hi (by omega) hpc (fK_i ?_)
            show fEv g _ mX10_branches 165 [some (.ref 89), some (.int (nI fl)), some (.int (nI c9)), some (.int x3), some (.long (nL w)), none, some (.int (nI a)), some (.int (nI i)), some (.int (nI 1)), o9] [.int (nI (mln D S i 1)), .int (nI i), .ref 89] σ5 Q
            refine e_iload_n dX10_branches_165 rfl rfl ?_
            refine e_callV (k := 89) [.int (nI i), .int (nI (mln D S i 1)), .int (nI c9)] dX10_branches_166 cc_X10_splits lk_RX10_204 im_X10_splits se_X10_splits (by decide) (Ms5.s 89 rfl) (Ms5.n (by decide)) rfl (Nat.le_of_ble_eq_true rfl) (Nat.le_of_ble_eq_true rfl) ?_
            refine t_X10_splits (T := fun _ => 0) (tr := false) Ms5 Mr5 hD hW5 hC5 hN5 ((hX5 31 (by decide)).trans htr) hi hz hpc (mln_lt (by omega)) (fun σ6 Smx6 Mr6 _ => ?_)
            show fEv g _ mX10_branches 169 [some (.ref 89), some (.int (nI fl)), some (.int (nI c9)), some (.int x3), some (.long (nL w)), none, some (.int (nI a)), some (.int (nI i)), some (.int (nI 1)), o9] [] σ6 Q
            have Sm6 := Sm5.tr (Smx6.to (B := fBA dp) (fun a q => q.elim (fun z => Or.inr (Or.inl z)) (fun z => absurd z.1 Bool.false_ne_true)))
            have Ms6 := Ms.sm Sm6
            have hX6 : ∀ q, q ≠ 21 → fI σ6 89 q = fI σ 89 q := fun q hq => (Smx6.i (by unfold fRA; omega) q).trans (hX5 q hq)
            have hdp6 := (Smx6.i (by unfold fRA; omega) 21).trans hdp5
            have hsm6 := (Smx6.j (by unfold fRA; omega) 32).trans hsm5
            have hR6 := hR5.sm Smx6 (by unfold fRA; omega)
            have r6 := (mR_d 1 hD hn0 hi hR0 hdw).1
            have n6 := (fWN_spl (line := mln D S i 1) hD hW hC hi hz hpc hN).mono (Nat.le_refl _) (show i ≤ i + 1 by omega)
            refine e_aload_n dX10_branches_169 rfl rfl ?_
            refine e_iload_n dX10_branches_170 rfl rfl ?_
            refine e_iload_n dX10_branches_171 rfl rfl ?_
            refine e_iload dX10_branches_172 rfl ?_
            refine e_iconst (nI 1) dX10_branches_174 (by decide) ?_
            refine e_iadd dX10_branches_175 ?_
            refine e_int (nI (i + 1)) (nI_add i 1) ?_
            refine e_iload dX10_branches_176 rfl ?_
            refine e_iconst (nI 2) dX10_branches_178 (by decide) ?_
            refine e_icmp_ge 187 dX10_branches_179 (by decide) (fun c => absurd c (by decide)) (fun _ => ?_)
            refine e_lload dX10_branches_182 rfl ?_
            refine e_goto 193 dX10_branches_184 (by decide) ?_
            refine e_iload dX10_branches_193 rfl ?_
            refine e_callV (k := 89) [.int (nI fl), .int (nI c9), .int (nI (i + 1)), .long (nL w), .int (nI a)] dX10_branches_195 cc_X10_branches lk_RX10_277 im_X10_branches se_X10_branches (by decide) (Ms6.s 89 rfl) (Ms6.n (by decide)) rfl (Nat.le_of_ble_eq_true rfl) (Nat.le_of_ble_eq_true rfl) ?_
            show fEv g _ mX10_branches 0 [some (.ref 89), some (.int (nI fl)), some (.int (nI c9)), some (.int (nI (i + 1))), some (.long (nL w)), none, some (.int (nI a)), none, none, none] [] σ6 _
            refine e_iload_n dX10_branches_0 rfl rfl ?_
            refine e_istore (L1 := [some (.ref 89), some (.int (nI fl)), some (.int (nI c9)), some (.int (nI (i + 1))), some (.long (nL w)), none, some (.int (nI a)), some (.int (nI (i + 1))), none, none]) dX10_branches_1 (by decide) rfl ?_
            refine ih (i + 1) _ d _ _ _ w (s0 + w * mbr D (lf0 D a) fl c9 n (i + 1) (mspl D S i (mln D S i 0))) (dp + 1) σ6 (mspl D S i (mln D S i 1)) sd (by omega) Ms6 Mr6 r6 n6 ((hX6 31 (by decide)).trans htr) hdp6 (by omega) hsm6 ((hX6 33 (by decide)).trans htn) (fun σ7 Smx7 Mr7 hI7 hJ7 => ?_)
            show fEv g _ mX10_branches 198 [some (.ref 89), some (.int (nI fl)), some (.int (nI c9)), some (.int x3), some (.long (nL w)), none, some (.int (nI a)), some (.int (nI i)), some (.int (nI 1)), o9] [] σ7 Q
            have Sm7 := Sm6.tr (Smx7.to (B := fBA dp) (fun a q => by unfold fBA at q; unfold fBA; omega))
            have Ms7 := Ms.sm Sm7
            have hX7 : ∀ q, q ≠ 21 → fI σ7 89 q = fI σ 89 q := fun q hq => (congrFun hI7 q).trans (hX6 q hq)
            have hdp7 := (congrFun hI7 21).trans hdp6
            have hsm7 := hJ7
            have hR7 := hR6.sm Smx7 (by unfold fBA; omega)
            refine e_aload_n dX10_branches_198 rfl rfl ?_
            refine e_callV (k := 89) [] dX10_branches_199 cc_X10_takes lk_RX10_259 im_X10_takes se_X10_takes (by decide) (Ms7.s 89 rfl) (Ms7.n (by decide)) rfl (Nat.le_of_ble_eq_true rfl) (Nat.le_of_ble_eq_true rfl) ?_
            refine t_X10_takes Ms7 Mr7 hD (by omega) hdp7 hR7 (fun σ8 Smx8 Mr8 hdp8 m98 => ?_)
            show fEv g _ mX10_branches 202 [some (.ref 89), some (.int (nI fl)), some (.int (nI c9)), some (.int x3), some (.long (nL w)), none, some (.int (nI a)), some (.int (nI i)), some (.int (nI 1)), o9] [] σ8 Q
            have Sm8 := Sm7.tr (Smx8.to (B := fBA dp) (fun a q => by unfold fTA at q; unfold fBA; omega))
            have Ms8 := Ms.sm Sm8
            have hX8 : ∀ q, q ≠ 21 → fI σ8 89 q = fI σ 89 q := fun q hq => (m98.1 q hq).trans (hX7 q hq)
            skip
            have hsm8 := (congrFun m98.2 32).trans hsm7
            have hW8 := hW
            have hC8 := hC
            have hN8 := hN
            refine e_iinc (v := nI 2) (L1 := [some (.ref 89), some (.int (nI fl)), some (.int (nI c9)), some (.int x3), some (.long (nL w)), none, some (.int (nI a)), some (.int (nI i)), some (.int (nI 2)), o9]) dX10_branches_202 rfl (by decide) (by decide) rfl ?_
            refine e_goto 144 dX10_branches_205 (by decide) ?_
            refine e_iload dX10_branches_144 rfl ?_
            refine e_iconst (nI 3) dX10_branches_146 (by decide) ?_
            refine e_icmp_ge 208 dX10_branches_147 (by decide) (fun c => absurd c (by decide)) (fun _ => ?_)
            refine e_aload_n dX10_branches_150 rfl rfl ?_
            refine e_callV (k := 89) [] dX10_branches_151 cc_X10_puts lk_RX10_253 im_X10_puts se_X10_puts (by decide) (Ms8.s 89 rfl) (Ms8.n (by decide)) rfl (Nat.le_of_ble_eq_true rfl) (Nat.le_of_ble_eq_true rfl) ?_
            refine t_X10_puts Ms8 Mr8 hD (by omega) hdp8 (fun σ9 Smx9 Mr9 hR9 hdp9 m99 => ?_)
            show fEv g _ mX10_branches 154 [some (.ref 89), some (.int (nI fl)), some (.int (nI c9)), some (.int x3), some (.long (nL w)), none, some (.int (nI a)), some (.int (nI i)), some (.int (nI 2)), o9] [] σ9 Q
            have Sm9 := Sm8.tr (Smx9.to (B := fBA dp) (fun a q => by unfold fPA at q; unfold fBA; omega))
            have Ms9 := Ms.sm Sm9
            have hX9 : ∀ q, q ≠ 21 → fI σ9 89 q = fI σ 89 q := fun q hq => (m99.1 q hq).trans (hX8 q hq)
            skip
            have hsm9 := (congrFun m99.2 32).trans hsm8
            have hW9 := hW8
            have hC9 := hC8
            have hN9 := hN8
            refine e_aload_n dX10_branches_154 rfl rfl ?_
            refine e_iload dX10_branches_155 rfl ?_
            refine e_aload_n dX10_branches_157 rfl rfl ?_
            refine e_iload dX10_branches_158 rfl ?_
            refine e_iload dX10_branches_160 rfl ?_
            refine e_callV (k := 89) [.int (nI i), .int (nI 2)] dX10_branches_162 cc_X10_lineOf lk_RX10_201 im_X10_lineOf se_X10_lineOf (by decide) (Ms9.s 89 rfl) (Ms9.n (by decide)) rfl (Nat.le_of_ble_eq_true rfl) (Nat.le_of_ble_eq_true rfl) ?_
            refine t_X10_lineOf Ms9 Mr9 hD hW9 hi (by omega) hpc (fK_i ?_)
            show fEv g _ mX10_branches 165 [some (.ref 89), some (.int (nI fl)), some (.int (nI c9)), some (.int x3), some (.long (nL w)), none, some (.int (nI a)), some (.int (nI i)), some (.int (nI 2)), o9] [.int (nI (mln D S i 2)), .int (nI i), .ref 89] σ9 Q
            refine e_iload_n dX10_branches_165 rfl rfl ?_
            refine e_callV (k := 89) [.int (nI i), .int (nI (mln D S i 2)), .int (nI c9)] dX10_branches_166 cc_X10_splits lk_RX10_204 im_X10_splits se_X10_splits (by decide) (Ms9.s 89 rfl) (Ms9.n (by decide)) rfl (Nat.le_of_ble_eq_true rfl) (Nat.le_of_ble_eq_true rfl) ?_
            refine t_X10_splits (T := fun _ => 0) (tr := false) Ms9 Mr9 hD hW9 hC9 hN9 ((hX9 31 (by decide)).trans htr) hi hz hpc (mln_lt (by omega)) (fun σ10 Smx10 Mr10 _ => ?_)
            show fEv g _ mX10_branches 169 [some (.ref 89), some (.int (nI fl)), some (.int (nI c9)), some (.int x3), some (.long (nL w)), none, some (.int (nI a)), some (.int (nI i)), some (.int (nI 2)), o9] [] σ10 Q
            have Sm10 := Sm9.tr (Smx10.to (B := fBA dp) (fun a q => q.elim (fun z => Or.inr (Or.inl z)) (fun z => absurd z.1 Bool.false_ne_true)))
            have Ms10 := Ms.sm Sm10
            have hX10 : ∀ q, q ≠ 21 → fI σ10 89 q = fI σ 89 q := fun q hq => (Smx10.i (by unfold fRA; omega) q).trans (hX9 q hq)
            have hdp10 := (Smx10.i (by unfold fRA; omega) 21).trans hdp9
            have hsm10 := (Smx10.j (by unfold fRA; omega) 32).trans hsm9
            have hR10 := hR9.sm Smx10 (by unfold fRA; omega)
            have r10 := (mR_d 2 hD hn0 hi hR0 hdw).1
            have n10 := (fWN_spl (line := mln D S i 2) hD hW hC hi hz hpc hN).mono (Nat.le_refl _) (show i ≤ i + 1 by omega)
            refine e_aload_n dX10_branches_169 rfl rfl ?_
            refine e_iload_n dX10_branches_170 rfl rfl ?_
            refine e_iload_n dX10_branches_171 rfl rfl ?_
            refine e_iload dX10_branches_172 rfl ?_
            refine e_iconst (nI 1) dX10_branches_174 (by decide) ?_
            refine e_iadd dX10_branches_175 ?_
            refine e_int (nI (i + 1)) (nI_add i 1) ?_
            refine e_iload dX10_branches_176 rfl ?_
            refine e_iconst (nI 2) dX10_branches_178 (by decide) ?_
            refine e_icmp_ge 187 dX10_branches_179 (by decide) (fun _ => ?_) (fun c => absurd c (by decide))
            refine e_ldc2 (2) dX10_branches_187 kc_RX10_275 ?_
            refine e_long (nL 2) rfl ?_
            refine e_lload dX10_branches_190 rfl ?_
            refine e_lmul dX10_branches_192 ?_
            refine e_long (nL (2 * w)) (nL_mul 2 w) ?_
            refine e_iload dX10_branches_193 rfl ?_
            refine e_callV (k := 89) [.int (nI fl), .int (nI c9), .int (nI (i + 1)), .long (nL (2 * w)), .int (nI a)] dX10_branches_195 cc_X10_branches lk_RX10_277 im_X10_branches se_X10_branches (by decide) (Ms10.s 89 rfl) (Ms10.n (by decide)) rfl (Nat.le_of_ble_eq_true rfl) (Nat.le_of_ble_eq_true rfl) ?_
            show fEv g _ mX10_branches 0 [some (.ref 89), some (.int (nI fl)), some (.int (nI c9)), some (.int (nI (i + 1))), some (.long (nL (2 * w))), none, some (.int (nI a)), none, none, none] [] σ10 _
            refine e_iload_n dX10_branches_0 rfl rfl ?_
            refine e_istore (L1 := [some (.ref 89), some (.int (nI fl)), some (.int (nI c9)), some (.int (nI (i + 1))), some (.long (nL (2 * w))), none, some (.int (nI a)), some (.int (nI (i + 1))), none, none]) dX10_branches_1 (by decide) rfl ?_
            refine ih (i + 1) _ d _ _ _ (2 * w) (s0 + w * mbr D (lf0 D a) fl c9 n (i + 1) (mspl D S i (mln D S i 0)) + w * mbr D (lf0 D a) fl c9 n (i + 1) (mspl D S i (mln D S i 1))) (dp + 1) σ10 (mspl D S i (mln D S i 2)) sd (by omega) Ms10 Mr10 r10 n10 ((hX10 31 (by decide)).trans htr) hdp10 (by omega) hsm10 ((hX10 33 (by decide)).trans htn) (fun σ11 Smx11 Mr11 hI11 hJ11 => ?_)
            show fEv g _ mX10_branches 198 [some (.ref 89), some (.int (nI fl)), some (.int (nI c9)), some (.int x3), some (.long (nL w)), none, some (.int (nI a)), some (.int (nI i)), some (.int (nI 2)), o9] [] σ11 Q
            have Sm11 := Sm10.tr (Smx11.to (B := fBA dp) (fun a q => by unfold fBA at q; unfold fBA; omega))
            have Ms11 := Ms.sm Sm11
            have hX11 : ∀ q, q ≠ 21 → fI σ11 89 q = fI σ 89 q := fun q hq => (congrFun hI11 q).trans (hX10 q hq)
            have hdp11 := (congrFun hI11 21).trans hdp10
            have hsm11 := hJ11
            have hR11 := hR10.sm Smx11 (by unfold fBA; omega)
            refine e_aload_n dX10_branches_198 rfl rfl ?_
            refine e_callV (k := 89) [] dX10_branches_199 cc_X10_takes lk_RX10_259 im_X10_takes se_X10_takes (by decide) (Ms11.s 89 rfl) (Ms11.n (by decide)) rfl (Nat.le_of_ble_eq_true rfl) (Nat.le_of_ble_eq_true rfl) ?_
            refine t_X10_takes Ms11 Mr11 hD (by omega) hdp11 hR11 (fun σ12 Smx12 Mr12 hdp12 m912 => ?_)
            show fEv g _ mX10_branches 202 [some (.ref 89), some (.int (nI fl)), some (.int (nI c9)), some (.int x3), some (.long (nL w)), none, some (.int (nI a)), some (.int (nI i)), some (.int (nI 2)), o9] [] σ12 Q
            have Sm12 := Sm11.tr (Smx12.to (B := fBA dp) (fun a q => by unfold fTA at q; unfold fBA; omega))
            have Ms12 := Ms.sm Sm12
            have hX12 : ∀ q, q ≠ 21 → fI σ12 89 q = fI σ 89 q := fun q hq => (m912.1 q hq).trans (hX11 q hq)
            skip
            have hsm12 := (congrFun m912.2 32).trans hsm11
            have hW12 := hW
            have hC12 := hC
            have hN12 := hN
            refine e_iinc (v := nI 3) (L1 := [some (.ref 89), some (.int (nI fl)), some (.int (nI c9)), some (.int x3), some (.long (nL w)), none, some (.int (nI a)), some (.int (nI i)), some (.int (nI 3)), o9]) dX10_branches_202 rfl (by decide) (by decide) rfl ?_
            refine e_goto 144 dX10_branches_205 (by decide) ?_
            refine e_iload dX10_branches_144 rfl ?_
            refine e_iconst (nI 3) dX10_branches_146 (by decide) ?_
            refine e_icmp_ge 208 dX10_branches_147 (by decide) (fun _ => ?_) (fun c => absurd c (by decide))
            have hI9 : fI σ12 89 = fI σ 89 := by funext q; by_cases e : q = 21; rw [e, hdp12, hdp]; exact hX12 q e
            refine e_return dX10_branches_208 rfl (h σ12 Sm12 Mr12 hI9 (hsm12.trans ?_))
            rw [Nat.mul_add, Nat.mul_add, Nat.mul_comm 2 w, Nat.mul_assoc, Nat.add_assoc, Nat.add_assoc, Nat.add_assoc]
    · rw [nI_z (by omega)] at c20
      refine e_iinc (v := nI (i + 1)) (L1 := [some (.ref 89), some (.int (nI fl)), some (.int (nI c9)), some (.int x3), some (.long (nL w)), none, some (.int (nI a)), some (.int (nI (i + 1))), o8, o9]) dX10_branches_23 rfl (show nI i + Int32.ofInt 1 = nI (i + 1) from nI_add i 1) (by decide) rfl ?_
      refine e_goto 3 dX10_branches_26 (by decide) ?_
      have hV : mbr D (lf0 D a) fl c9 (n + 1) i S = mbr D (lf0 D a) fl c9 n (i + 1) S := by rw [mbr, if_neg (by omega)]
      rw [hV] at h
      have hh := ih (i + 1) Q (d + 1) x3 o8 o9 w s0 dp σ S sd (by omega) Ms Mr hR0 (hN.mono (Nat.le_refl _) (by omega)) htr hdp (by omega) hsm htn h
      rw [show d + 1 + n + 4 = d + (n + 1) + 4 by omega] at hh
      exact hh
