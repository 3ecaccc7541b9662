def fF1 : Nat → Prop := fun a => 34 ≤ a ∧ a ≤ 45
def fF2 : Nat → Prop := fun a => 34 ≤ a ∧ a ≤ 54
def fWx1 (σ : fAH) : Prop := ∃ z, fWr σ 44 z
def fWx2 (σ : fAH) : Prop := (∃ z, fWr σ 44 z) ∧ ∃ z, fWr σ 53 z
theorem fGr.P {σ : fAH} {q : Nat} {D : fSD} (h : fGr σ q D) {t c : Nat} (ht : t < 30) (hc : c < 10) : fI σ (q + 5) (t * 10 + c) = nI (mP D t c) := by
  unfold mP
  by_cases e : c = 0
  · rw [if_pos e, e]
    exact (h.2.2.2.2.2 t ht).1
  · rw [if_neg e]
    exact (h.2.2.2.2.2 t ht).2 c (by omega) hc
theorem mpart_le {D : fSD} {t c : Nat} : ∀ n, msum (fun i => if dZ D i 0 = t ∧ dZ D i 1 = c then dZ D i 2 else 0) n ≤ msum (fun i => if dZ D i 0 = t then dZ D i 2 else 0) n
  | 0 => Nat.le_refl _
  | n + 1 => by
    have := mpart_le (D := D) (t := t) (c := c) n
    show msum _ n + (if _ then _ else _) ≤ msum _ n + (if _ then _ else _)
    by_cases e : dZ D n 0 = t
    · rw [if_pos e]
      split <;> omega
    · rw [if_neg e, if_neg (fun q => e q.1)]
      omega
theorem mP_le {D : fSD} (hD : fWD D) (t c : Nat) : mP D t c ≤ 8 := by
  unfold mP
  split
  · omega
  · exact Nat.le_trans (mpart_le _) (hD.2.2.2.2.2 t)
theorem nx_e (s a : Nat) (ha : a < 4294967296) : nI s - nI a &&& nI a = nI (nxs a s) := by
  unfold nxs
  rw [← nI_and]
  congr 1
  apply Int32.toBitVec_inj.1
  show BitVec.ofNat 32 s - BitVec.ofNat 32 a = BitVec.ofNat 32 ((s + 4294967296 - a) % 4294967296)
  apply BitVec.eq_of_toNat_eq
  rw [BitVec.toNat_sub, BitVec.toNat_ofNat, BitVec.toNat_ofNat, BitVec.toNat_ofNat]
  omega
theorem sqn_le (a : Nat) : ∀ i, sqn a i ≤ a
  | 0 => Nat.zero_le _
  | _ + 1 => Nat.and_le_right
theorem m3_lt (al : Nat) : m3 al < 4096 := mfa_lt (Nat.le_refl _)
theorem ob_ge {b : Option Nat} (hb : ∀ x, b = some x → x < 9223372036854775808) : ¬ ob b < -1 := by
  cases b with
  | none => exact Int64.lt_irrefl
  | some x =>
    intro h
    have h : nL x < -1 := h
    rw [Int64.lt_iff_toInt_lt, nL_toInt (hb x rfl)] at h
    have : (-1 : Int64).toInt = -1 := rfl
    omega
theorem cF_s {D : fSD} {S : Nat → Nat} {i : Nat} (h : mon (sqn (m3 (mbits D S)) i) 12 0 ≤ dT D 3) : cF D S i = some (sqn (m3 (mbits D S)) i) := if_pos h
theorem cF_n {D : fSD} {S : Nat → Nat} {i : Nat} (h : ¬ mon (sqn (m3 (mbits D S)) i) 12 0 ≤ dT D 3) : cF D S i = none := if_neg h
set_option maxRecDepth 20000 in
theorem l_X2_in10 {g : fGP} {d : Nat} {σ : fAH} {Q : fRes → fAH → Prop} {k fl a e c i : Nat} {o12 o13 : Option Value} (hi : i ≤ 4096) (h : fEv g d mX2_sumOf 216 [some (.ref 34), some (.ref k), some (.int (nI fl)), some (.int (nI 1)), some (.ref 37), some (.ref 44), some (.long (nL a)), none, some (.int (nI e)), some (.int (nI c)), some (.int (nI 0)), some (.int (nI i)), o12, o13] [] σ Q) : fEv g d mX2_sumOf 120 [some (.ref 34), some (.ref k), some (.int (nI fl)), some (.int (nI 1)), some (.ref 37), some (.ref 44), some (.long (nL a)), none, some (.int (nI e)), some (.int (nI c)), some (.int (nI 0)), some (.int (nI i)), o12, o13] [] σ Q := by
  refine e_iload dX2_sumOf_120 rfl ?_
  refine e_sipush (nI 4096) dX2_sumOf_122 (by decide) ?_
  refine e_icmp_ge 216 dX2_sumOf_125 (by decide) (fun c125 => ?_) (fun c125 => ?_)
  · rw [nI_le' (by omega) (by omega)] at c125
    exact h
  · rw [nI_le' (by omega) (by omega)] at c125
    refine e_iload dX2_sumOf_128 rfl ?_
    refine e_if_eq 216 dX2_sumOf_130 (by decide) (fun _ => ?_) (fun c => absurd c (by decide))
    exact h
set_option maxRecDepth 20000 in
theorem l_X2_in1 {g : fGP} {d : Nat} {Q : fRes → fAH → Prop} {k : Nat} {D : fSD} {S : Nat → Nat} {T : Nat → Int32} {m : Nat} {sd : Int32} {fl e c : Nat} (hY : k ∈ [15, 22, 37, 46, 59, 69, 79]) (hkA : ∀ i, i < 7 → ¬ fF1 (k + i)) (hD : fWD D) (hW : fWS D S) (hC : fWC D S) (hn : S 155 < 30) (hf2 : fl < 4096) (he : e ≤ 100) (hc : c < 10) : ∀ (n i a : Nat) (z : fZW) (o12 o13 : Option Value) (σ : fAH), i + n = 4096 → fMs g σ → fGr σ 2 D → fYr σ k D S m sd → fYt σ k S T → fWr σ 44 z → (∀ σ' o10 o11 p12 p13, fSm fF1 σ σ' → fWx1 σ' → fEv g (d + 5) mX2_sumOf 216 [some (.ref 34), some (.ref k), some (.int (nI fl)), some (.int (nI 1)), some (.ref 37), some (.ref 44), some (.long (nL (a + e * mlp D (lf0 D (S 151)) fl c S n z))), none, some (.int (nI e)), some (.int (nI c)), o10, o11, p12, p13] [] σ' Q) → fEv g (d + 5) mX2_sumOf 120 [some (.ref 34), some (.ref k), some (.int (nI fl)), some (.int (nI 1)), some (.ref 37), some (.ref 44), some (.long (nL a)), none, some (.int (nI e)), some (.int (nI c)), some (.int (nI 1)), some (.int (nI i)), o12, o13] [] σ Q := by
  intro n
  induction n with
  | zero =>
    intro i a z o12 o13 σ hin Ms Gr Yr Yt Wr h
    refine e_iload dX2_sumOf_120 rfl ?_
    refine e_sipush (nI 4096) dX2_sumOf_122 (by decide) ?_
    refine e_icmp_ge 216 dX2_sumOf_125 (by decide) (fun _ => ?_) (fun q => absurd ((nI_le' (by omega) (by omega)).mpr (by omega)) q)
    have h9 := h σ (some (.int (nI 1))) (some (.int (nI i))) o12 o13 fSm.rfl' ⟨_, Wr⟩
    exact h9
  | succ n ih =>
    intro i a z o12 o13 σ hin Ms Gr Yr Yt Wr h
    have yl := fyl hY
    have Gs := Ms.ground (k := 2) (by decide)
    have Ys := Ms.yard hY
    have ky := Ys.1.1
    have kn := Ys.2.1.1
    obtain ⟨t0, t1, t2, t3, t4, t5, t6⟩ := id hD.1
    have np := hW.n hD
    have hZ : 37 ∈ [15, 22, 37, 46, 59, 69, 79] := by decide
    have hw : 44 ∈ [44, 53] := by decide
    have kz : k ≠ 37 := fun e9 => hkA 0 (by decide) (by rw [e9]; unfold fF1; decide)
    have hC9 := hC
    have n5 := hW.2.2.2.2
    have hT := mfrz_T wdr D fl c (dT D 1) 0 S T (fun _ => 0) z
    have r9 := mR_frz (dr := wdr) (fill := fl) (cold := c) hD hn (dT D 1) 0 (S, T, z) (by omega) ⟨hW, hC, rfl, rfl, fun _ _ => rfl⟩
    have pp := mend_p hD r9.1 r9.2.1
    rw [r9.2.2.2.1] at pp
    have w9 := fWS_end hD r9.1 r9.2.1 (by rw [r9.2.2.1]; exact hn)
    have hm : mlp D (lf0 D (S 151)) fl c S (n + 1) z = wwt (mfrz wdr D fl c (dT D 1) 0 (S, T, z)).2.2 6 0 * (lf0 D (S 151)) (mfrz wdr D fl c (dT D 1) 0 (S, T, z)).1 + (if (wadv (mfrz wdr D fl c (dT D 1) 0 (S, T, z)).2.2).2 then mlp D (lf0 D (S 151)) fl c S n (wadv (mfrz wdr D fl c (dT D 1) 0 (S, T, z)).2.2).1 else 0) := by rw [hT.1, hT.2]; rfl
    rw [hm] at h
    refine e_iload dX2_sumOf_120 rfl ?_
    refine e_sipush (nI 4096) dX2_sumOf_122 (by decide) ?_
    refine e_icmp_ge 216 dX2_sumOf_125 (by decide) (fun q => absurd ((nI_le' (by omega) (by omega)).mp q) (by omega)) (fun _ => ?_)
    refine e_iload dX2_sumOf_128 rfl ?_
    refine e_if_eq 216 dX2_sumOf_130 (by decide) (fun c => absurd c (by decide)) (fun _ => ?_)
    refine e_aload dX2_sumOf_133 rfl ?_
    refine e_aload_n dX2_sumOf_135 rfl rfl ?_
    refine e_callV (k := 37) [.ref k] dX2_sumOf_136 cc_X8_copyFrom lk_RX2_73 im_X8_copyFrom se_X8_copyFrom (by decide) (Ms.s 37 rfl) (Ms.n (by decide)) rfl (Nat.le_of_ble_eq_true rfl) (Nat.le_of_ble_eq_true rfl) ?_
    refine t_X8_copyFrom Ms hZ hY kz hD Yr Yt hW (fun σ1 Smx1 Yf1z => ?_)
    show fEv g _ mX2_sumOf 139 [some (.ref 34), some (.ref k), some (.int (nI fl)), some (.int (nI 1)), some (.ref 37), some (.ref 44), some (.long (nL a)), none, some (.int (nI e)), some (.int (nI c)), some (.int (nI 1)), some (.int (nI i)), o12, o13] [] σ1 Q
    have Sm1 := (Smx1.to (B := fF1) (fun a q => by unfold fYA at q; unfold fF1; omega))
    have Ms1 := Ms.sm Sm1
    have en1 : fnx σ1 = fnx σ := Sm1.n
    have Gs1 := Ms1.ground (k := 2) (by decide)
    have Ys1 := Ms1.yard hY
    have Gr1 := Gr.sm Sm1 (fun i hi => by unfold fF1; omega)
    have Yr1 := Yr.sm Sm1 hkA
    have Yt1 := Yt.sm Sm1 hkA
    have hW1 := hW
    obtain ⟨⟨m1z, Yr1z⟩, Yt1z⟩ := Yf1z
    have Wr1 := Wr.sm Smx1 (by unfold fYA; omega) (by unfold fYA; omega)
    refine e_aload dX2_sumOf_139 rfl ?_
    refine e_iload_n dX2_sumOf_141 rfl rfl ?_
    refine e_iload dX2_sumOf_142 rfl ?_
    refine e_aload dX2_sumOf_144 rfl ?_
    refine e_callV (k := 37) [.int (nI fl), .int (nI c), .ref 44] dX2_sumOf_146 cc_X8_goThrough lk_RX2_77 im_X8_goThrough se_X8_goThrough (by decide) (Ms1.s 37 rfl) (Ms1.n (by decide)) rfl (Nat.le_of_ble_eq_true rfl) (Nat.le_of_ble_eq_true rfl) ?_
    refine t_X8_goThroughW Ms1 hZ Gr1 hD Yr1z Yt1z hW1 hC9 hw Wr1 hf2 (by omega) hn (fun σ2 Smx2 Yf2z Wr2 => ?_)
    show fEv g _ mX2_sumOf 149 [some (.ref 34), some (.ref k), some (.int (nI fl)), some (.int (nI 1)), some (.ref 37), some (.ref 44), some (.long (nL a)), none, some (.int (nI e)), some (.int (nI c)), some (.int (nI 1)), some (.int (nI i)), o12, o13] [.int (nI ((mgo wdr D fl c (S, T, z)).1 152) - nI (S 152))] σ2 Q
    have Sm2 := Sm1.tr (Smx2.to (B := fF1) (fun a q => by unfold fYA fWA at q; unfold fF1; omega))
    have Ms2 := Ms.sm Sm2
    have en2 : fnx σ2 = fnx σ := Sm2.n
    have Gs2 := Ms2.ground (k := 2) (by decide)
    have Ys2 := Ms2.yard hY
    have Gr2 := Gr.sm Sm2 (fun i hi => by unfold fF1; omega)
    have Yr2 := Yr.sm Sm2 hkA
    have Yt2 := Yt.sm Sm2 hkA
    have hW2 := hW
    obtain ⟨⟨m2z, Yr2z⟩, Yt2z⟩ := Yf2z
    refine e_pop dX2_sumOf_149 rfl ?_
    refine e_aload dX2_sumOf_150 rfl ?_
    refine e_getI dX2_sumOf_152 fl_RX2_81 (Ms2.s 37 rfl) (Ms2.n (by decide)) rfl ?_
    refine e_int (nI (mend D (mfrz wdr D fl c (dT D 1) 0 (S, T, z)).1 151)) Yr2z.1.2.2.2.1 ?_
    refine e_aload_n dX2_sumOf_155 rfl rfl ?_
    refine e_getI dX2_sumOf_156 fl_RX2_81 ky (show k < fnx σ2 by omega) rfl ?_
    refine e_int (nI (S 151)) Yr2.1.2.2.2.1 ?_
    refine e_isub dX2_sumOf_159 ?_
    refine e_int (nI ((mend D (mfrz wdr D fl c (dT D 1) 0 (S, T, z)).1 151) - (S 151))) (pk_sub (by omega)) ?_
    refine e_i2l dX2_sumOf_160 ?_
    refine e_long (nL ((mend D (mfrz wdr D fl c (dT D 1) 0 (S, T, z)).1 151) - (S 151))) (nL_i (by omega)) ?_
    refine e_lstore (L1 := [some (.ref 34), some (.ref k), some (.int (nI fl)), some (.int (nI 1)), some (.ref 37), some (.ref 44), some (.long (nL a)), none, some (.int (nI e)), some (.int (nI c)), some (.int (nI 1)), some (.int (nI i)), some (.long (nL ((mend D (mfrz wdr D fl c (dT D 1) 0 (S, T, z)).1 151) - (S 151)))), none]) dX2_sumOf_161 (by decide) rfl ?_
    have hl : mend D (mfrz wdr D fl c (dT D 1) 0 (S, T, z)).1 151 - S 151 = lf0 D (S 151) (mfrz wdr D fl c (dT D 1) 0 (S, T, z)).1 := rfl
    refine e_iload_n dX2_sumOf_163 rfl rfl ?_
    refine e_iconst (nI 1) dX2_sumOf_164 (by decide) ?_
    refine e_icmp_le 186 dX2_sumOf_165 (by decide) (fun _ => ?_) (fun c => absurd c (by decide))
    refine e_lload dX2_sumOf_186 rfl ?_
    refine e_iload dX2_sumOf_188 rfl ?_
    refine e_i2l dX2_sumOf_190 ?_
    refine e_long (nL e) (nL_i (by omega)) ?_
    refine e_aload dX2_sumOf_191 rfl ?_
    refine e_callV (k := 44) [] dX2_sumOf_193 cc_X7_weight lk_RX2_90 im_X7_weight se_X7_weight (by decide) (Ms2.s 44 rfl) (Ms2.n (by decide)) rfl (Nat.le_of_ble_eq_true rfl) (Nat.le_of_ble_eq_true rfl) ?_
    refine t_X7_weight Ms2 hw Wr2 (fK_i ?_)
    show fEv g _ mX2_sumOf 196 [some (.ref 34), some (.ref k), some (.int (nI fl)), some (.int (nI 1)), some (.ref 37), some (.ref 44), some (.long (nL a)), none, some (.int (nI e)), some (.int (nI c)), some (.int (nI 1)), some (.int (nI i)), some (.long (nL ((mend D (mfrz wdr D fl c (dT D 1) 0 (S, T, z)).1 151) - (S 151)))), none] [.long (nL (wwt (mfrz wdr D fl c (dT D 1) 0 (S, T, z)).2.2 6 0)), .long (nL e), .long (nL a)] σ2 Q
    refine e_lmul dX2_sumOf_196 ?_
    refine e_long (nL (e * (wwt (mfrz wdr D fl c (dT D 1) 0 (S, T, z)).2.2 6 0))) (nL_mul e (wwt (mfrz wdr D fl c (dT D 1) 0 (S, T, z)).2.2 6 0)) ?_
    refine e_lload dX2_sumOf_197 rfl ?_
    refine e_lmul dX2_sumOf_199 ?_
    refine e_long (nL ((e * (wwt (mfrz wdr D fl c (dT D 1) 0 (S, T, z)).2.2 6 0)) * ((mend D (mfrz wdr D fl c (dT D 1) 0 (S, T, z)).1 151) - (S 151)))) (nL_mul (e * (wwt (mfrz wdr D fl c (dT D 1) 0 (S, T, z)).2.2 6 0)) ((mend D (mfrz wdr D fl c (dT D 1) 0 (S, T, z)).1 151) - (S 151))) ?_
    refine e_ladd dX2_sumOf_200 ?_
    refine e_long (nL (a + ((e * (wwt (mfrz wdr D fl c (dT D 1) 0 (S, T, z)).2.2 6 0)) * ((mend D (mfrz wdr D fl c (dT D 1) 0 (S, T, z)).1 151) - (S 151))))) (nL_add a ((e * (wwt (mfrz wdr D fl c (dT D 1) 0 (S, T, z)).2.2 6 0)) * ((mend D (mfrz wdr D fl c (dT D 1) 0 (S, T, z)).1 151) - (S 151)))) ?_
    refine e_lstore (L1 := [some (.ref 34), some (.ref k), some (.int (nI fl)), some (.int (nI 1)), some (.ref 37), some (.ref 44), some (.long (nL (a + ((e * (wwt (mfrz wdr D fl c (dT D 1) 0 (S, T, z)).2.2 6 0)) * ((mend D (mfrz wdr D fl c (dT D 1) 0 (S, T, z)).1 151) - (S 151)))))), none, some (.int (nI e)), some (.int (nI c)), some (.int (nI 1)), some (.int (nI i)), some (.long (nL ((mend D (mfrz wdr D fl c (dT D 1) 0 (S, T, z)).1 151) - (S 151)))), none]) dX2_sumOf_201 (by decide) rfl ?_
    refine e_aload dX2_sumOf_203 rfl ?_
    refine e_callV (k := 44) [] dX2_sumOf_205 cc_X7_advance lk_RX2_94 im_X7_advance se_X7_advance (by decide) (Ms2.s 44 rfl) (Ms2.n (by decide)) rfl (Nat.le_of_ble_eq_true rfl) (Nat.le_of_ble_eq_true rfl) ?_
    refine t_X7_advance Ms2 hw Wr2 (fun σ3 Smx3 Wr3 => ?_)
    show fEv g _ mX2_sumOf 208 [some (.ref 34), some (.ref k), some (.int (nI fl)), some (.int (nI 1)), some (.ref 37), some (.ref 44), some (.long (nL (a + ((e * (wwt (mfrz wdr D fl c (dT D 1) 0 (S, T, z)).2.2 6 0)) * ((mend D (mfrz wdr D fl c (dT D 1) 0 (S, T, z)).1 151) - (S 151)))))), none, some (.int (nI e)), some (.int (nI c)), some (.int (nI 1)), some (.int (nI i)), some (.long (nL ((mend D (mfrz wdr D fl c (dT D 1) 0 (S, T, z)).1 151) - (S 151)))), none] [.int (nI (bn (wadv (mfrz wdr D fl c (dT D 1) 0 (S, T, z)).2.2).2))] σ3 Q
    have Sm3 := Sm2.tr (Smx3.to (B := fF1) (fun a q => by unfold fWA at q; unfold fF1; omega))
    have Ms3 := Ms.sm Sm3
    have en3 : fnx σ3 = fnx σ := Sm3.n
    have Gs3 := Ms3.ground (k := 2) (by decide)
    have Ys3 := Ms3.yard hY
    have Gr3 := Gr.sm Sm3 (fun i hi => by unfold fF1; omega)
    have Yr3 := Yr.sm Sm3 hkA
    have Yt3 := Yt.sm Sm3 hkA
    have hW3 := hW
    refine e_istore (L1 := [some (.ref 34), some (.ref k), some (.int (nI fl)), some (.int (nI 1)), some (.ref 37), some (.ref 44), some (.long (nL (a + ((e * (wwt (mfrz wdr D fl c (dT D 1) 0 (S, T, z)).2.2 6 0)) * ((mend D (mfrz wdr D fl c (dT D 1) 0 (S, T, z)).1 151) - (S 151)))))), none, some (.int (nI e)), some (.int (nI c)), some (.int (nI (bn (wadv (mfrz wdr D fl c (dT D 1) 0 (S, T, z)).2.2).2))), some (.int (nI i)), some (.long (nL ((mend D (mfrz wdr D fl c (dT D 1) 0 (S, T, z)).1 151) - (S 151)))), none]) dX2_sumOf_208 (by decide) rfl ?_
    refine e_iinc (v := nI (i + 1)) (L1 := [some (.ref 34), some (.ref k), some (.int (nI fl)), some (.int (nI 1)), some (.ref 37), some (.ref 44), some (.long (nL (a + ((e * (wwt (mfrz wdr D fl c (dT D 1) 0 (S, T, z)).2.2 6 0)) * ((mend D (mfrz wdr D fl c (dT D 1) 0 (S, T, z)).1 151) - (S 151)))))), none, some (.int (nI e)), some (.int (nI c)), some (.int (nI (bn (wadv (mfrz wdr D fl c (dT D 1) 0 (S, T, z)).2.2).2))), some (.int (nI (i + 1))), some (.long (nL ((mend D (mfrz wdr D fl c (dT D 1) 0 (S, T, z)).1 151) - (S 151)))), none]) dX2_sumOf_210 rfl (show nI i + Int32.ofInt 1 = nI (i + 1) from nI_add i 1) (by decide) rfl ?_
    refine e_goto 120 dX2_sumOf_213 (by decide) ?_
    cases hb : (wadv (mfrz wdr D fl c (dT D 1) 0 (S, T, z)).2.2).2
    · rw [hb] at h
      rw [show wwt (mfrz wdr D fl c (dT D 1) 0 (S, T, z)).2.2 6 0 * (lf0 D (S 151)) (mfrz wdr D fl c (dT D 1) 0 (S, T, z)).1 + (if false = true then mlp D (lf0 D (S 151)) fl c S n (wadv (mfrz wdr D fl c (dT D 1) 0 (S, T, z)).2.2).1 else 0) = wwt (mfrz wdr D fl c (dT D 1) 0 (S, T, z)).2.2 6 0 * (lf0 D (S 151)) (mfrz wdr D fl c (dT D 1) 0 (S, T, z)).1 from rfl, ← Nat.mul_assoc] at h
      exact l_X2_in10 (by omega) (h σ3 _ _ _ _ Sm3 ⟨_, Wr3⟩)
    · rw [hb] at h
      rw [show (if true = true then mlp D (lf0 D (S 151)) fl c S n (wadv (mfrz wdr D fl c (dT D 1) 0 (S, T, z)).2.2).1 else 0) = mlp D (lf0 D (S 151)) fl c S n (wadv (mfrz wdr D fl c (dT D 1) 0 (S, T, z)).2.2).1 from rfl, Nat.mul_add, ← Nat.add_assoc, ← Nat.mul_assoc] at h
      exact ih (i + 1) _ _ _ _ σ3 (by omega) Ms3 Gr3 Yr3 Yt3 Wr3 (fun σ' o10 o11 p12 p13 Sm' Wx' => h σ' o10 o11 p12 p13 (Sm3.tr Sm') Wx')
set_option maxRecDepth 20000 in
theorem l_X2_out1 {g : fGP} {d : Nat} {Q : fRes → fAH → Prop} {k : Nat} {D : fSD} {S : Nat → Nat} {T : Nat → Int32} {m : Nat} {sd : Int32} {fl : Nat} (hY : k ∈ [15, 22, 37, 46, 59, 69, 79]) (hkA : ∀ i, i < 7 → ¬ fF1 (k + i)) (hD : fWD D) (hW : fWS D S) (hC : fWC D S) (hn : S 155 < 30) (hf : ∀ j, dT D 1 ≤ j → fl / 2 ^ j % 2 = 0) (hf2 : fl < 4096) (h6 : mon fl 12 0 ≤ 6) : ∀ (n c e a : Nat) (o10 o11 o12 o13 : Option Value) (σ : fAH), c + n = 10 → fMs g σ → fGr σ 2 D → fYr σ k D S m sd → fYt σ k S T → fWx1 σ → e ≤ 8 * c → (∀ σ', fSm fF1 σ σ' → fWx1 σ' → Q (.inl (some (.long (nL (msm D S fl (fun c => mtr D (lf0 D (S 151)) fl c (dT D 1) 0 0 S) n c e a))))) σ') → fEv g (d + 5) mX2_sumOf 50 [some (.ref 34), some (.ref k), some (.int (nI fl)), some (.int (nI 1)), some (.ref 37), some (.ref 44), some (.long (nL a)), none, some (.int (nI e)), some (.int (nI c)), o10, o11, o12, o13] [] σ Q := by
  intro n
  induction n with
  | zero =>
    intro c e a o10 o11 o12 o13 σ hin Ms Gr Yr Yt Wx he h
    refine e_iload dX2_sumOf_50 rfl ?_
    refine e_bipush (nI 10) dX2_sumOf_52 (by decide) ?_
    refine e_icmp_ge 225 dX2_sumOf_54 (by decide) (fun _ => ?_) (fun q => absurd ((nI_le' (by omega) (by omega)).mpr (by omega)) q)
    refine e_lload dX2_sumOf_225 rfl ?_
    exact e_lreturn dX2_sumOf_227 rfl (h σ fSm.rfl' Wx)
  | succ n ih =>
    intro c e a o10 o11 o12 o13 σ hin Ms Gr Yr Yt Wx he h
    have yl := fyl hY
    have Gs := Ms.ground (k := 2) (by decide)
    have Ys := Ms.yard hY
    have ky := Ys.1.1
    have kn := Ys.2.1.1
    obtain ⟨t0, t1, t2, t3, t4, t5, t6⟩ := id hD.1
    have np := hW.n hD
    have hZ : 37 ∈ [15, 22, 37, 46, 59, 69, 79] := by decide
    have hw : 44 ∈ [44, 53] := by decide
    have kz : k ≠ 37 := fun e9 => hkA 0 (by decide) (by rw [e9]; unfold fF1; decide)
    have hC9 := hC
    have n5 := hW.2.2.2.2
    have pl := mP_le hD (S 155) c
    obtain ⟨z, Wr⟩ := Wx
    refine e_iload dX2_sumOf_50 rfl ?_
    refine e_bipush (nI 10) dX2_sumOf_52 (by decide) ?_
    refine e_icmp_ge 225 dX2_sumOf_54 (by decide) (fun q => absurd ((nI_le' (by omega) (by omega)).mp q) (by omega)) (fun _ => ?_)
    refine e_iload dX2_sumOf_57 rfl ?_
    refine e_aload_n dX2_sumOf_59 rfl rfl ?_
    refine e_getR (q := 2) dX2_sumOf_60 fl_RX2_27 (Ms.s 34 rfl) (Ms.n (by decide)) rfl (Ms.r 34 0 rfl) (by unfold fscr; omega) ?_
    refine e_getR (q := 7) dX2_sumOf_63 fl_RX2_62 (Ms.s 2 rfl) (Ms.n (by decide)) rfl (Ms.r 2 4 rfl) (by unfold fscr; omega) ?_
    refine e_aload_n dX2_sumOf_66 rfl rfl ?_
    refine e_getI dX2_sumOf_67 fl_RX2_35 ky (show k < fnx σ by omega) rfl ?_
    refine e_int (nI (S 155)) Yr.1.2.2.1 ?_
    refine e_bipush (nI 10) dX2_sumOf_70 (by decide) ?_
    refine e_imul dX2_sumOf_72 ?_
    refine e_int (nI ((S 155) * 10)) (pk_mul (S 155) 10) ?_
    refine e_iload dX2_sumOf_73 rfl ?_
    refine e_iadd dX2_sumOf_75 ?_
    refine e_int (nI ((S 155) * 10 + c)) (nI_add ((S 155) * 10) c) ?_
    refine e_iaload ((S 155) * 10 + c) dX2_sumOf_76 (Ms.s 7 rfl) (Ms.n (by decide)) rfl (by omega) (by decide) ?_
    refine e_int (nI (mP D (S 155) c)) (Gr.P (by omega) (by omega)) ?_
    refine e_iadd dX2_sumOf_77 ?_
    refine e_int (nI (e + mP D (S 155) c)) (nI_add e (mP D (S 155) c)) ?_
    refine e_istore (L1 := [some (.ref 34), some (.ref k), some (.int (nI fl)), some (.int (nI 1)), some (.ref 37), some (.ref 44), some (.long (nL a)), none, some (.int (nI (e + mP D (S 155) c))), some (.int (nI c)), o10, o11, o12, o13]) dX2_sumOf_78 (by decide) rfl ?_
    refine e_iload dX2_sumOf_80 rfl ?_
    refine e_if_eq 219 dX2_sumOf_82 (by decide) (fun c82 => ?_) (fun c82 => ?_)
    · rw [nI_z (by omega)] at c82
      refine e_iinc (v := nI (c + 1)) (L1 := [some (.ref 34), some (.ref k), some (.int (nI fl)), some (.int (nI 1)), some (.ref 37), some (.ref 44), some (.long (nL a)), none, some (.int (nI (e + mP D (S 155) c))), some (.int (nI (c + 1))), o10, o11, o12, o13]) dX2_sumOf_219 rfl (show nI c + Int32.ofInt 1 = nI (c + 1) from nI_add c 1) (by decide) rfl ?_
      refine e_goto 50 dX2_sumOf_222 (by decide) ?_
      have hm : msm D S fl (fun c => mtr D (lf0 D (S 151)) fl c (dT D 1) 0 0 S) (n + 1) c e a = msm D S fl (fun c => mtr D (lf0 D (S 151)) fl c (dT D 1) 0 0 S) n (c + 1) (e + mP D (S 155) c) a := by rw [msm, if_pos (by first | exact Or.inl (by omega) | exact Or.inr ⟨by omega, c103⟩)]
      rw [hm] at h
      exact ih (c + 1) _ a _ _ _ _ σ (by omega) Ms Gr Yr Yt ⟨_, Wr⟩ (by omega) h
    · rw [nI_z (by omega)] at c82
      refine e_iload dX2_sumOf_85 rfl ?_
      refine e_bipush (nI 9) dX2_sumOf_87 (by decide) ?_
      refine e_icmp_ge 109 dX2_sumOf_89 (by decide) (fun c89 => ?_) (fun c89 => ?_)
      · rw [nI_le' (by omega) (by omega)] at c89
        refine e_aload dX2_sumOf_109 rfl ?_
        refine e_callV (k := 44) [] dX2_sumOf_111 cc_X7_begin lk_RX2_70 im_X7_begin se_X7_begin (by decide) (Ms.s 44 rfl) (Ms.n (by decide)) rfl (Nat.le_of_ble_eq_true rfl) (Nat.le_of_ble_eq_true rfl) ?_
        refine t_X7_begin Ms hw Wr (fun σ1 Smx1 Wr1 => ?_)
        show fEv g _ mX2_sumOf 114 [some (.ref 34), some (.ref k), some (.int (nI fl)), some (.int (nI 1)), some (.ref 37), some (.ref 44), some (.long (nL a)), none, some (.int (nI (e + mP D (S 155) c))), some (.int (nI c)), o10, o11, o12, o13] [] σ1 Q
        have Sm1 := (Smx1.to (B := fF1) (fun a q => by unfold fWA at q; unfold fF1; omega))
        have Ms1 := Ms.sm Sm1
        have en1 : fnx σ1 = fnx σ := Sm1.n
        have Gs1 := Ms1.ground (k := 2) (by decide)
        have Ys1 := Ms1.yard hY
        have Gr1 := Gr.sm Sm1 (fun i hi => by unfold fF1; omega)
        have Yr1 := Yr.sm Sm1 hkA
        have Yt1 := Yt.sm Sm1 hkA
        have hW1 := hW
        refine e_iconst (nI 1) dX2_sumOf_114 (by decide) ?_
        refine e_istore (L1 := [some (.ref 34), some (.ref k), some (.int (nI fl)), some (.int (nI 1)), some (.ref 37), some (.ref 44), some (.long (nL a)), none, some (.int (nI (e + mP D (S 155) c))), some (.int (nI c)), some (.int (nI 1)), o11, o12, o13]) dX2_sumOf_115 (by decide) rfl ?_
        refine e_iconst (nI 0) dX2_sumOf_117 (by decide) ?_
        refine e_istore (L1 := [some (.ref 34), some (.ref k), some (.int (nI fl)), some (.int (nI 1)), some (.ref 37), some (.ref 44), some (.long (nL a)), none, some (.int (nI (e + mP D (S 155) c))), some (.int (nI c)), some (.int (nI 1)), some (.int (nI 0)), o12, o13]) dX2_sumOf_118 (by decide) rfl ?_
        have hne : ¬ (e + mP D (S 155) c = 0 ∨ (c < 9 ∧ mak D S fl c (c + 1) (dT D 1) 0 = true)) := fun q => by first | omega | (rcases q with q | q; omega; exact absurd (c103.symm.trans q.2) Bool.false_ne_true)
        have hm : msm D S fl (fun c => mtr D (lf0 D (S 151)) fl c (dT D 1) 0 0 S) (n + 1) c e a = msm D S fl (fun c => mtr D (lf0 D (S 151)) fl c (dT D 1) 0 0 S) n (c + 1) 0 (a + (e + mP D (S 155) c) * mtr D (lf0 D (S 151)) fl c (dT D 1) 0 0 S) := by rw [msm, if_neg hne]
        rw [hm] at h
        refine l_X2_in1 hY hkA hD hW hC hn hf2 (by omega) (by omega) 4096 0 a _ _ _ σ1 (by omega) Ms1 Gr1 Yr1 Yt1 Wr1 (fun σ9 q10 q11 q12 q13 Sm9 Wx9 => ?_)
        rw [mlp_tr D (lf0 D (S 151)) fl c S t1 (by rw [mon_e hD hf]; exact h6)]
        refine e_iconst (nI 0) dX2_sumOf_216 (by decide) ?_
        refine e_istore (L1 := [some (.ref 34), some (.ref k), some (.int (nI fl)), some (.int (nI 1)), some (.ref 37), some (.ref 44), some (.long (nL (a + (e + mP D (S 155) c) * mtr D (lf0 D (S 151)) fl c (dT D 1) 0 0 S))), none, some (.int (nI 0)), some (.int (nI c)), q10, q11, q12, q13]) dX2_sumOf_217 (by decide) rfl ?_
        refine e_iinc (v := nI (c + 1)) (L1 := [some (.ref 34), some (.ref k), some (.int (nI fl)), some (.int (nI 1)), some (.ref 37), some (.ref 44), some (.long (nL (a + (e + mP D (S 155) c) * mtr D (lf0 D (S 151)) fl c (dT D 1) 0 0 S))), none, some (.int (nI 0)), some (.int (nI (c + 1))), q10, q11, q12, q13]) dX2_sumOf_219 rfl (show nI c + Int32.ofInt 1 = nI (c + 1) from nI_add c 1) (by decide) rfl ?_
        refine e_goto 50 dX2_sumOf_222 (by decide) ?_
        exact ih (c + 1) 0 _ _ _ _ _ σ9 (by omega) (Ms1.sm Sm9) (Gr1.sm Sm9 (fun i hi => by unfold fF1; omega)) (Yr1.sm Sm9 hkA) (Yt1.sm Sm9 hkA) Wx9 (by omega) (fun σ' Sm' Wx' => h σ' ((Sm1.tr Sm9).tr Sm') Wx')
      · rw [nI_le' (by omega) (by omega)] at c89
        refine e_aload_n dX2_sumOf_92 rfl rfl ?_
        refine e_iload_n dX2_sumOf_93 rfl rfl ?_
        refine e_iload dX2_sumOf_94 rfl ?_
        refine e_iload dX2_sumOf_96 rfl ?_
        refine e_iconst (nI 1) dX2_sumOf_98 (by decide) ?_
        refine e_iadd dX2_sumOf_99 ?_
        refine e_int (nI (c + 1)) (nI_add c 1) ?_
        refine e_callV (k := k) [.int (nI fl), .int (nI c), .int (nI (c + 1))] dX2_sumOf_100 cc_X8_actAlike lk_RX2_66 im_X8_actAlike se_X8_actAlike (by decide) ky (show k < fnx σ by omega) rfl (Nat.le_of_ble_eq_true rfl) (Nat.le_of_ble_eq_true rfl) ?_
        refine t_X8_actAlike Gs Gr hD Ys Yr hW (by omega) (by omega) (by omega) (fK_i ?_)
        show fEv g _ mX2_sumOf 103 [some (.ref 34), some (.ref k), some (.int (nI fl)), some (.int (nI 1)), some (.ref 37), some (.ref 44), some (.long (nL a)), none, some (.int (nI (e + mP D (S 155) c))), some (.int (nI c)), o10, o11, o12, o13] [.int (nI (bn (mak D S fl c (c + 1) (dT D 1) 0)))] σ Q
        refine e_if_eq 109 dX2_sumOf_103 (by decide) (fun c103 => ?_) (fun c103 => ?_)
        · have c103 := bn0 c103
          refine e_aload dX2_sumOf_109 rfl ?_
          refine e_callV (k := 44) [] dX2_sumOf_111 cc_X7_begin lk_RX2_70 im_X7_begin se_X7_begin (by decide) (Ms.s 44 rfl) (Ms.n (by decide)) rfl (Nat.le_of_ble_eq_true rfl) (Nat.le_of_ble_eq_true rfl) ?_
          refine t_X7_begin Ms hw Wr (fun σ2 Smx2 Wr2 => ?_)
          show fEv g _ mX2_sumOf 114 [some (.ref 34), some (.ref k), some (.int (nI fl)), some (.int (nI 1)), some (.ref 37), some (.ref 44), some (.long (nL a)), none, some (.int (nI (e + mP D (S 155) c))), some (.int (nI c)), o10, o11, o12, o13] [] σ2 Q
          have Sm2 := (Smx2.to (B := fF1) (fun a q => by unfold fWA at q; unfold fF1; omega))
          have Ms2 := Ms.sm Sm2
          have en2 : fnx σ2 = fnx σ := Sm2.n
          have Gs2 := Ms2.ground (k := 2) (by decide)
          have Ys2 := Ms2.yard hY
          have Gr2 := Gr.sm Sm2 (fun i hi => by unfold fF1; omega)
          have Yr2 := Yr.sm Sm2 hkA
          have Yt2 := Yt.sm Sm2 hkA
          have hW2 := hW
          refine e_iconst (nI 1) dX2_sumOf_114 (by decide) ?_
          refine e_istore (L1 := [some (.ref 34), some (.ref k), some (.int (nI fl)), some (.int (nI 1)), some (.ref 37), some (.ref 44), some (.long (nL a)), none, some (.int (nI (e + mP D (S 155) c))), some (.int (nI c)), some (.int (nI 1)), o11, o12, o13]) dX2_sumOf_115 (by decide) rfl ?_
          refine e_iconst (nI 0) dX2_sumOf_117 (by decide) ?_
          refine e_istore (L1 := [some (.ref 34), some (.ref k), some (.int (nI fl)), some (.int (nI 1)), some (.ref 37), some (.ref 44), some (.long (nL a)), none, some (.int (nI (e + mP D (S 155) c))), some (.int (nI c)), some (.int (nI 1)), some (.int (nI 0)), o12, o13]) dX2_sumOf_118 (by decide) rfl ?_
          have hne : ¬ (e + mP D (S 155) c = 0 ∨ (c < 9 ∧ mak D S fl c (c + 1) (dT D 1) 0 = true)) := fun q => by first | omega | (rcases q with q | q; omega; exact absurd (c103.symm.trans q.2) Bool.false_ne_true)
          have hm : msm D S fl (fun c => mtr D (lf0 D (S 151)) fl c (dT D 1) 0 0 S) (n + 1) c e a = msm D S fl (fun c => mtr D (lf0 D (S 151)) fl c (dT D 1) 0 0 S) n (c + 1) 0 (a + (e + mP D (S 155) c) * mtr D (lf0 D (S 151)) fl c (dT D 1) 0 0 S) := by rw [msm, if_neg hne]
          rw [hm] at h
          refine l_X2_in1 hY hkA hD hW hC hn hf2 (by omega) (by omega) 4096 0 a _ _ _ σ2 (by omega) Ms2 Gr2 Yr2 Yt2 Wr2 (fun σ9 q10 q11 q12 q13 Sm9 Wx9 => ?_)
          rw [mlp_tr D (lf0 D (S 151)) fl c S t1 (by rw [mon_e hD hf]; exact h6)]
          refine e_iconst (nI 0) dX2_sumOf_216 (by decide) ?_
          refine e_istore (L1 := [some (.ref 34), some (.ref k), some (.int (nI fl)), some (.int (nI 1)), some (.ref 37), some (.ref 44), some (.long (nL (a + (e + mP D (S 155) c) * mtr D (lf0 D (S 151)) fl c (dT D 1) 0 0 S))), none, some (.int (nI 0)), some (.int (nI c)), q10, q11, q12, q13]) dX2_sumOf_217 (by decide) rfl ?_
          refine e_iinc (v := nI (c + 1)) (L1 := [some (.ref 34), some (.ref k), some (.int (nI fl)), some (.int (nI 1)), some (.ref 37), some (.ref 44), some (.long (nL (a + (e + mP D (S 155) c) * mtr D (lf0 D (S 151)) fl c (dT D 1) 0 0 S))), none, some (.int (nI 0)), some (.int (nI (c + 1))), q10, q11, q12, q13]) dX2_sumOf_219 rfl (show nI c + Int32.ofInt 1 = nI (c + 1) from nI_add c 1) (by decide) rfl ?_
          refine e_goto 50 dX2_sumOf_222 (by decide) ?_
          exact ih (c + 1) 0 _ _ _ _ _ σ9 (by omega) (Ms2.sm Sm9) (Gr2.sm Sm9 (fun i hi => by unfold fF1; omega)) (Yr2.sm Sm9 hkA) (Yt2.sm Sm9 hkA) Wx9 (by omega) (fun σ' Sm' Wx' => h σ' ((Sm2.tr Sm9).tr Sm') Wx')
        · have c103 := bn1 c103
          refine e_goto 219 dX2_sumOf_106 (by decide) ?_
          refine e_iinc (v := nI (c + 1)) (L1 := [some (.ref 34), some (.ref k), some (.int (nI fl)), some (.int (nI 1)), some (.ref 37), some (.ref 44), some (.long (nL a)), none, some (.int (nI (e + mP D (S 155) c))), some (.int (nI (c + 1))), o10, o11, o12, o13]) dX2_sumOf_219 rfl (show nI c + Int32.ofInt 1 = nI (c + 1) from nI_add c 1) (by decide) rfl ?_
          refine e_goto 50 dX2_sumOf_222 (by decide) ?_
          have hm : msm D S fl (fun c => mtr D (lf0 D (S 151)) fl c (dT D 1) 0 0 S) (n + 1) c e a = msm D S fl (fun c => mtr D (lf0 D (S 151)) fl c (dT D 1) 0 0 S) n (c + 1) (e + mP D (S 155) c) a := by rw [msm, if_pos (by first | exact Or.inl (by omega) | exact Or.inr ⟨by omega, c103⟩)]
          rw [hm] at h
          exact ih (c + 1) _ a _ _ _ _ σ (by omega) Ms Gr Yr Yt ⟨_, Wr⟩ (by omega) h
set_option maxRecDepth 20000 in
theorem t_X2_sumOf1 {g : fGP} {d : Nat} {σ : fAH} {Q : fRes → fAH → Prop} {k : Nat} {D : fSD} {S : Nat → Nat} {T : Nat → Int32} {m : Nat} {sd : Int32} {fl : Nat} (Ms : fMs g σ) (hY : k ∈ [15, 22, 37, 46, 59, 69, 79]) (hkA : ∀ i, i < 7 → ¬ fF1 (k + i)) (Gr : fGr σ 2 D) (hD : fWD D) (Yr : fYr σ k D S m sd) (Yt : fYt σ k S T) (hW : fWS D S) (hC : fWC D S) (hn : S 155 < 30) (hf : ∀ j, dT D 1 ≤ j → fl / 2 ^ j % 2 = 0) (hf2 : fl < 4096) (h6 : mon fl 12 0 ≤ 6) (Wx : fWx1 σ) (h : ∀ σ', fSm fF1 σ σ' → fWx1 σ' → Q (.inl (some (.long (nL (cSum D (lf0 D (S 151)) S fl))))) σ') : fEv g (d + 5) mX2_sumOf 0 (fent [.ref 34, .ref k, .int (nI fl), .int (nI 1)] 14) [] σ Q := by
  have yl := fyl hY
  have Gs := Ms.ground (k := 2) (by decide)
  have Ys := Ms.yard hY
  have ky := Ys.1.1
  have kn := Ys.2.1.1
  obtain ⟨t0, t1, t2, t3, t4, t5, t6⟩ := id hD.1
  have np := hW.n hD
  show fEv g (d + 5) mX2_sumOf 0 [some (.ref 34), some (.ref k), some (.int (nI fl)), some (.int (nI 1)), none, none, none, none, none, none, none, none, none, none] [] σ Q
  refine e_iload_n dX2_sumOf_0 rfl rfl ?_
  refine e_iconst (nI 1) dX2_sumOf_1 (by decide) ?_
  refine e_icmp_lt 19 dX2_sumOf_2 (by decide) (fun c => absurd c (by decide)) (fun _ => ?_)
  refine e_iload_n dX2_sumOf_5 rfl rfl ?_
  refine e_iconst (nI 2) dX2_sumOf_6 (by decide) ?_
  refine e_icmp_gt 19 dX2_sumOf_7 (by decide) (fun c => absurd c (by decide)) (fun _ => ?_)
  refine e_aload_n dX2_sumOf_10 rfl rfl ?_
  refine e_getI dX2_sumOf_11 fl_RX2_35 ky (show k < fnx σ by omega) rfl ?_
  refine e_int (nI (S 155)) Yr.1.2.2.1 ?_
  refine e_bipush (nI 30) dX2_sumOf_14 (by decide) ?_
  refine e_icmp_lt 21 dX2_sumOf_16 (by decide) (fun _ => ?_) (fun q => absurd ((nI_lt' (by omega) (by omega)).mpr (by omega)) q)
  refine e_aload_n dX2_sumOf_21 rfl rfl ?_
  refine e_getR (q := 35) dX2_sumOf_22 fl_RX2_13 (Ms.s 34 rfl) (Ms.n (by decide)) rfl (Ms.r 34 1 rfl) (by unfold fscr; omega) ?_
  refine e_iload_n dX2_sumOf_25 rfl rfl ?_
  refine e_iconst (nI 1) dX2_sumOf_26 (by decide) ?_
  refine e_isub dX2_sumOf_27 ?_
  refine e_int (nI 0) (by decide) ?_
  refine e_aaload (q := 37) 0 dX2_sumOf_28 (Ms.s 35 rfl) (by decide) (Ms.n (by decide)) rfl (by omega) (by decide) (Ms.r 35 0 rfl) (by unfold fscr; omega) ?_
  refine e_astore (L1 := [some (.ref 34), some (.ref k), some (.int (nI fl)), some (.int (nI 1)), some (.ref 37), none, none, none, none, none, none, none, none, none]) dX2_sumOf_29 (by decide) rfl ?_
  refine e_aload_n dX2_sumOf_31 rfl rfl ?_
  refine e_getR (q := 36) dX2_sumOf_32 fl_RX2_19 (Ms.s 34 rfl) (Ms.n (by decide)) rfl (Ms.r 34 2 rfl) (by unfold fscr; omega) ?_
  refine e_iload_n dX2_sumOf_35 rfl rfl ?_
  refine e_iconst (nI 1) dX2_sumOf_36 (by decide) ?_
  refine e_isub dX2_sumOf_37 ?_
  refine e_int (nI 0) (by decide) ?_
  refine e_aaload (q := 44) 0 dX2_sumOf_38 (Ms.s 36 rfl) (by decide) (Ms.n (by decide)) rfl (by omega) (by decide) (Ms.r 36 0 rfl) (by unfold fscr; omega) ?_
  refine e_astore (L1 := [some (.ref 34), some (.ref k), some (.int (nI fl)), some (.int (nI 1)), some (.ref 37), some (.ref 44), none, none, none, none, none, none, none, none]) dX2_sumOf_39 (by decide) rfl ?_
  refine e_lconst 0 dX2_sumOf_41 (by decide) ?_
  refine e_long (nL 0) rfl ?_
  refine e_lstore (L1 := [some (.ref 34), some (.ref k), some (.int (nI fl)), some (.int (nI 1)), some (.ref 37), some (.ref 44), some (.long (nL 0)), none, none, none, none, none, none, none]) dX2_sumOf_42 (by decide) rfl ?_
  refine e_iconst (nI 0) dX2_sumOf_44 (by decide) ?_
  refine e_istore (L1 := [some (.ref 34), some (.ref k), some (.int (nI fl)), some (.int (nI 1)), some (.ref 37), some (.ref 44), some (.long (nL 0)), none, some (.int (nI 0)), none, none, none, none, none]) dX2_sumOf_45 (by decide) rfl ?_
  refine e_iconst (nI 0) dX2_sumOf_47 (by decide) ?_
  refine e_istore (L1 := [some (.ref 34), some (.ref k), some (.int (nI fl)), some (.int (nI 1)), some (.ref 37), some (.ref 44), some (.long (nL 0)), none, some (.int (nI 0)), some (.int (nI 0)), none, none, none, none]) dX2_sumOf_48 (by decide) rfl ?_
  exact l_X2_out1 hY hkA hD hW hC hn hf hf2 h6 10 0 0 0 _ _ _ _ σ (by omega) Ms Gr Yr Yt Wx (by omega) (fun σ' Sm' Wx' => by rw [cs_e hD hW hC hn hf h6]; exact h σ' Sm' Wx')
