theorem cSum_b {D : fSD} {S : Nat → Nat} {f : Nat} (hD : fWD D) (hW : fWS D S) (hC : fWC D S) (hn : S 155 < 30) (hf : ∀ j, dT D 1 ≤ j → f / 2 ^ j % 2 = 0) (h6 : mon f 12 0 ≤ 6) : cSum D (lf0 D (S 151)) S f ≤ 30000000 := by
  have hl : ∀ S9, mR D S S9 → lf0 D (S 151) S9 ≤ 891 := fun S9 hR => by have := mend_p hD hR.1 hR.2.1; unfold lf0; rw [hR.2.2.2.1] at this; omega
  have h1 := mby_le (D := D) (lf := lf0 D (S 151)) (fill := f) (S := S) (M := 4 ^ mon f 12 0 * 891) hD (fun c => by
    have := mbr_le (lf := lf0 D (S 151)) (B := 891) f c hD hn hl (dT D 1) 0 S (by omega) ⟨hW, hC, rfl, rfl, fun _ _ => rfl⟩
    rw [mon_e hD hf] at this
    exact this)
  unfold cSum
  have h2 : 4 ^ (6 - mon f 12 0) * 4 ^ mon f 12 0 = 4 ^ 6 := by rw [← Nat.pow_add, show 6 - mon f 12 0 + mon f 12 0 = 6 by omega]
  have h3 : (4 : Nat) ^ 6 = 4096 := by decide
  have h4 := Nat.mul_le_mul_left (4 ^ (6 - mon f 12 0)) h1
  have h5 : 4 ^ (6 - mon f 12 0) * (8 * (4 ^ mon f 12 0 * 891)) = 4 ^ (6 - mon f 12 0) * 4 ^ mon f 12 0 * 7128 := by
    rw [Nat.mul_assoc, show 8 * (4 ^ mon f 12 0 * 891) = 4 ^ mon f 12 0 * 7128 by omega]
  omega
/-- the slot k one deeper -/
def mdp (S : Nat → Nat) (k : Nat) : Nat → Nat := mup S (121 + k) (min 9 (S (121 + k) + 1))
/-- which slot is worth most, one deeper; n more from i on -/
def mdpr (D : fSD) (S : Nat → Nat) : Nat → Nat → Option Nat → Option Nat → Option Nat
  | 0, _, _, b => b
  | n + 1, i, v, b => if mal D S i = true ∧ mbt v ((mft D (mdp S i)).1.getD 0) = true then mdpr D S n (i + 1) (some ((mft D (mdp S i)).1.getD 0)) (some i) else mdpr D S n (i + 1) v b
theorem fW_dp {D : fSD} {S : Nat → Nat} {k : Nat} (hD : fWD D) (hW : fWS D S) (hC : fWC D S) (hk : k < dT D 1) : fWS D (mdp S k) ∧ fWC D (mdp S k) ∧ (mdp S k) 155 = S 155 ∧ ∀ j, (j < 121 ∨ 133 ≤ j) → mdp S k j = S j := by
  have t := hD.1
  have np := hW.n hD
  have o : ∀ j, (j < 121 ∨ 133 ≤ j) → mdp S k j = S j := fun j hj => mup_n _ _ (by omega)
  refine ⟨⟨?_, fun p hp => ?_, fun i hi => ?_, fun q hq => ?_, ?_⟩, ⟨?_, fun i h1 h2 => ?_⟩, o 155 (by omega), o⟩
  · rw [o 120 (by omega), o 152 (by omega)]; exact hW.1
  · rw [o 120 (by omega)] at hp
    rw [o _ (by omega), o _ (by omega), o _ (by omega), o _ (by omega), o _ (by omega), o _ (by omega)]
    exact hW.2.1 p hp
  · rw [o (133 + i) (by omega)]
    have h := hW.2.2.1 i hi
    unfold mdp mup
    split <;> omega
  · rw [o _ (by omega)]; exact hW.2.2.2.1 q hq
  · rw [o 155 (by omega)]; exact hW.2.2.2.2
  · rw [o 152 (by omega), hC.1]
    have e : fsp (mdp S k) = fsp S := by
      funext j
      unfold fsp
      rw [o (133 + j) (by omega)]
    rw [e]
  · rw [o (133 + i) (by omega)]; exact hC.2 i h1 h2
set_option maxRecDepth 20000 in
theorem t_X9_now {g : fGP} {d : Nat} {σ : fAH} {Q : fRes → fAH → Prop} {x : fXS} {f w : Nat}  (Ms : fMs g σ) (ok : fOK x) (Ic : fIc σ x) (hf : f < 4096) (hv1 : nI f &&& (nI (mfa (mal (xD x) (iS (xI x))) 12 (dT (xD x) 1) 0 0) ^^^ (-1)) = 0) (hv2 : mon f 12 0 ≤ dT (xD x) 3) (hfz : ∀ j, dT (xD x) 1 ≤ j → f / 2 ^ j % 2 = 0) (h6 : mon f 12 0 ≤ 6) (hw : w ≤ 1) (hn : (iS (xI x)) 155 < 30) (h : ∀ σ', fSm fClA σ σ' → fIc σ' x → Q (.inl (some (.long (vNow (xD x) (iS (xI x)) f w)))) σ') : fEv g (d + 6) mX9_now 0 (fent [.ref 0, .int (nI f), .int (nI w)] 3) [] σ Q := by
  obtain ⟨D, ⟨S, T, sd, pn, P, rn, R⟩, B, tp, pl, im, Im⟩ := x
  have hD : fWD D := ok.1
  have hW : fWS D S := ok.2.1.1
  have hC : fWC D S := ok.2.1.2.1
  have hN : fWN S 0 0 := ok.2.1.2.2.1
  have Gr : fGr σ 2 D := Ic.1
  obtain ⟨⟨m, Yr⟩, Yt⟩ : fYf σ 15 D S T sd := Ic.2.1
  have Gs := Ms.ground (k := 2) (by decide)
  have Ys := Ms.yard (k := 15) (by decide)
  obtain ⟨⟨g0, g1, g2, g3, g4, g5⟩, ⟨gn, gK⟩, ⟨gr0, gr1, gr2, gr3, gr4⟩⟩ := id Gs
  obtain ⟨⟨y0, y1, y2, y3, y4, y5, y6⟩, ⟨yn, yK⟩, ⟨yr0, yr1, yr2, yr3, yr4, yr5, yr6⟩⟩ := id Ys
  obtain ⟨t0, t1, t2, t3, t4, t5, t6⟩ := id hD.1
  have np := hW.n hD
  have n5 := hW.2.2.2.2
  have tp6 : tp ≤ 600 := ok.2.2.2.1
  have im3 : im ≤ 3 := ok.2.2.2.2.1
  have pn3 : pn ≤ 30 := ok.2.1.2.2.2.1
  have rn6 : rn ≤ 60 := ok.2.1.2.2.2.2.2.1
  have Dc : fDc σ 29 (S, T, sd, pn, P, rn, R) := Ic.2.2.1
  have w52 := hW.1
  have hn : S 155 < 30 := hn
  have cb := cSum_b hD hW hC hn hfz h6
  show fEv g (d + 6) mX9_now 0 [some (.ref 0), some (.int (nI f)), some (.int (nI w))] [] σ Q
  refine e_aload_n dX9_now_0 rfl rfl ?_
  refine e_iload_n dX9_now_1 rfl rfl ?_
  refine e_callV (k := 0) [.int (nI f)] dX9_now_2 cc_X9_checkFill lk_RX9_204 im_X9_checkFill se_X9_checkFill (by decide) (Ms.s 0 rfl) (Ms.n (by decide)) rfl (Nat.le_of_ble_eq_true rfl) (Nat.le_of_ble_eq_true rfl) ?_
  refine t_X9_checkFill Ms Gr Yr hD hW hf hv1 hv2 (fK_v ?_)
  show fEv g _ mX9_now 5 [some (.ref 0), some (.int (nI f)), some (.int (nI w))] [] σ Q
  refine e_iload_n dX9_now_5 rfl rfl ?_
  refine e_callS [.int (nI f)] dX9_now_6 cc_J6_bitCount_0f7a4 lk_RX9_287 st_J6_bitCount_0f7a4 in_RJ6 rfl (Nat.le_of_ble_eq_true rfl) (Nat.le_of_ble_eq_true rfl) ?_
  refine t_J6_bitCount (by omega) (fK_i ?_)
  show fEv g _ mX9_now 9 [some (.ref 0), some (.int (nI f)), some (.int (nI w))] [.int (nI (mon f 12 0))] σ Q
  refine e_iconst (nI 0) dX9_now_9 (by decide) ?_
  refine e_bipush (nI 6) dX9_now_10 (by decide) ?_
  refine e_callS [.int (nI (mon f 12 0)), .int (nI 0), .int (nI 6)] dX9_now_12 cc_X9_checkRange lk_RX9_153 st_X9_checkRange in_RX9 rfl (Nat.le_of_ble_eq_true rfl) (Nat.le_of_ble_eq_true rfl) ?_
  refine t_X9_checkRange ⟨(nI_le' (by omega) (by omega)).mpr (by omega), (nI_le' (by omega) (by omega)).mpr (by omega)⟩ (fK_v ?_)
  show fEv g _ mX9_now 15 [some (.ref 0), some (.int (nI f)), some (.int (nI w))] [] σ Q
  refine e_iload_n dX9_now_15 rfl rfl ?_
  refine e_iconst (nI 0) dX9_now_16 (by decide) ?_
  refine e_iconst (nI 1) dX9_now_17 (by decide) ?_
  refine e_callS [.int (nI w), .int (nI 0), .int (nI 1)] dX9_now_18 cc_X9_checkRange lk_RX9_153 st_X9_checkRange in_RX9 rfl (Nat.le_of_ble_eq_true rfl) (Nat.le_of_ble_eq_true rfl) ?_
  refine t_X9_checkRange ⟨(nI_le' (by omega) (by omega)).mpr (by omega), (nI_le' (by omega) (by omega)).mpr (by omega)⟩ (fK_v ?_)
  show fEv g _ mX9_now 21 [some (.ref 0), some (.int (nI f)), some (.int (nI w))] [] σ Q
  refine e_aload_n dX9_now_21 rfl rfl ?_
  refine e_callV (k := 0) [] dX9_now_22 cc_X9_checkNightLeft lk_RX9_207 im_X9_checkNightLeft se_X9_checkNightLeft (by decide) (Ms.s 0 rfl) (Ms.n (by decide)) rfl (Nat.le_of_ble_eq_true rfl) (Nat.le_of_ble_eq_true rfl) ?_
  refine t_X9_checkNightLeft Ms Yr n5 hn (fK_v ?_)
  show fEv g _ mX9_now 25 [some (.ref 0), some (.int (nI f)), some (.int (nI w))] [] σ Q
  refine e_aload_n dX9_now_25 rfl rfl ?_
  refine e_getR (q := 34) dX9_now_26 fl_RX9_69 (Ms.s 0 rfl) (Ms.n (by decide)) rfl (Ms.r 0 11 rfl) (by unfold fscr; omega) ?_
  refine e_aload_n dX9_now_29 rfl rfl ?_
  refine e_getR (q := 15) dX9_now_30 fl_RX9_41 (Ms.s 0 rfl) (Ms.n (by decide)) rfl (Ms.r 0 5 rfl) (by unfold fscr; omega) ?_
  refine e_iload_n dX9_now_33 rfl rfl ?_
  refine e_iconst (nI 1) dX9_now_34 (by decide) ?_
  refine e_callV (k := 34) [.ref 15, .int (nI f), .int (nI 1)] dX9_now_35 cc_X2_sumOf lk_RX9_292 im_X2_sumOf se_X2_sumOf (by decide) (Ms.s 34 rfl) (Ms.n (by decide)) rfl (Nat.le_of_ble_eq_true rfl) (Nat.le_of_ble_eq_true rfl) ?_
  refine t_X2_sumOf1 Ms ww9 (fun i hi q => by unfold fF1 at q; omega) Gr hD Yr Yt hW hC hn hfz hf h6 Ic.2.2.2.2.2.2.1 (fun σ1 Sm1 Wx1 => fK_i ?_)
  show fEv g _ mX9_now 38 [some (.ref 0), some (.int (nI f)), some (.int (nI w))] [.long (nL (cSum D (lf0 D (S 151)) S f))] σ1 Q
  have Ms1 := Ms.sm Sm1
  refine e_ldc2 (32768) dX9_now_38 kc_RX9_296 ?_
  refine e_long (nL 32768) rfl ?_
  refine e_iload_n dX9_now_41 rfl rfl ?_
  refine e_callS [.long (nL (cSum D (lf0 D (S 151)) S f)), .long (nL 32768), .int (nI w)] dX9_now_42 cc_X9_inLeastTerms lk_RX9_283 st_X9_inLeastTerms in_RX9 rfl (Nat.le_of_ble_eq_true rfl) (Nat.le_of_ble_eq_true rfl) ?_
  refine t_X9_inLeastTerms (by omega) (by omega) (by omega) (by omega) (fK_i ?_)
  show fEv g _ mX9_now 45 [some (.ref 0), some (.int (nI f)), some (.int (nI w))] [.long (nL (if w = 0 then (cSum D (lf0 D (S 151)) S f) / Nat.gcd (cSum D (lf0 D (S 151)) S f) (32768) else (32768) / Nat.gcd (cSum D (lf0 D (S 151)) S f) (32768)))] σ1 Q
  have W9 : fWx2 σ1 := ⟨Wx1, by obtain ⟨z, hz⟩ := Ic.2.2.2.2.2.2.2; exact ⟨z, hz.sm Sm1 (fun q => by unfold fF1 at q; omega) (fun q => by unfold fF1 at q; omega)⟩⟩
  exact e_lreturn dX9_now_45 rfl (h σ1 (Sm1.to (fun a q => by unfold fF1 at q; unfold fClA; omega)) (Ic.f0 ok Sm1 (fun a q => by unfold fF1 at q; unfold fCsA; omega) (fun j _ => Sm1.i (fun q => by unfold fF1 at q; omega) j) (Sm1.j (fun q => by unfold fF1 at q; omega) 16) W9))
set_option maxRecDepth 20000 in
theorem t_X9_nowE1 {g : fGP} {d : Nat} {σ : fAH} {Q : fRes → fAH → Prop} {x : fXS} {a b : Int32}  (Ms : fMs g σ) (ok : fOK x) (Ic : fIc σ x) (hv1 : ¬ a &&& (nI (mfa (mal (xD x) (iS (xI x))) 12 (dT (xD x) 1) 0 0) ^^^ (-1)) = 0) (rm : fnx σ + fgb σ + 1 ≤ 601024 ∧ fsu σ + 6 ≤ 7293034) (h : Q (.inr "java/lang/IllegalArgumentException") (fthr σ)) : fEv g (d + 5) mX9_now 0 (fent [.ref 0, .int a, .int b] 3) [] σ Q := by
  obtain ⟨D, ⟨S, T, sd, pn, P, rn, R⟩, B, tp, pl, im, Im⟩ := x
  have hD : fWD D := ok.1
  have hW : fWS D S := ok.2.1.1
  have hC : fWC D S := ok.2.1.2.1
  have hN : fWN S 0 0 := ok.2.1.2.2.1
  have Gr : fGr σ 2 D := Ic.1
  obtain ⟨⟨m, Yr⟩, Yt⟩ : fYf σ 15 D S T sd := Ic.2.1
  have Gs := Ms.ground (k := 2) (by decide)
  have Ys := Ms.yard (k := 15) (by decide)
  obtain ⟨⟨g0, g1, g2, g3, g4, g5⟩, ⟨gn, gK⟩, ⟨gr0, gr1, gr2, gr3, gr4⟩⟩ := id Gs
  obtain ⟨⟨y0, y1, y2, y3, y4, y5, y6⟩, ⟨yn, yK⟩, ⟨yr0, yr1, yr2, yr3, yr4, yr5, yr6⟩⟩ := id Ys
  obtain ⟨t0, t1, t2, t3, t4, t5, t6⟩ := id hD.1
  have np := hW.n hD
  have n5 := hW.2.2.2.2
  have tp6 : tp ≤ 600 := ok.2.2.2.1
  have im3 : im ≤ 3 := ok.2.2.2.2.1
  have pn3 : pn ≤ 30 := ok.2.1.2.2.2.1
  have rn6 : rn ≤ 60 := ok.2.1.2.2.2.2.2.1
  have Dc : fDc σ 29 (S, T, sd, pn, P, rn, R) := Ic.2.2.1
  have w52 := hW.1
  show fEv g (d + 5) mX9_now 0 [some (.ref 0), some (.int a), some (.int b)] [] σ Q
  refine e_aload_n dX9_now_0 rfl rfl ?_
  refine e_iload_n dX9_now_1 rfl rfl ?_
  refine e_callV (k := 0) [.int a] dX9_now_2 cc_X9_checkFill lk_RX9_204 im_X9_checkFill se_X9_checkFill (by decide) (Ms.s 0 rfl) (Ms.n (by decide)) rfl (Nat.le_of_ble_eq_true rfl) (Nat.le_of_ble_eq_true rfl) ?_
  exact t_X9_checkFillE1 Ms Gr Yr hD hW hv1 rm (t_out rfl h)
set_option maxRecDepth 20000 in
theorem t_X9_nowE2 {g : fGP} {d : Nat} {σ : fAH} {Q : fRes → fAH → Prop} {x : fXS} {f : Nat} {b : Int32}  (Ms : fMs g σ) (ok : fOK x) (Ic : fIc σ x) (hf : f < 4096) (hv1 : nI f &&& (nI (mfa (mal (xD x) (iS (xI x))) 12 (dT (xD x) 1) 0 0) ^^^ (-1)) = 0) (hv2 : ¬ mon f 12 0 ≤ dT (xD x) 3) (rm : fnx σ + fgb σ + 1 ≤ 601024 ∧ fsu σ + 6 ≤ 7293034) (h : Q (.inr "java/lang/IllegalArgumentException") (fthr σ)) : fEv g (d + 5) mX9_now 0 (fent [.ref 0, .int (nI f), .int b] 3) [] σ Q := by
  obtain ⟨D, ⟨S, T, sd, pn, P, rn, R⟩, B, tp, pl, im, Im⟩ := x
  have hD : fWD D := ok.1
  have hW : fWS D S := ok.2.1.1
  have hC : fWC D S := ok.2.1.2.1
  have hN : fWN S 0 0 := ok.2.1.2.2.1
  have Gr : fGr σ 2 D := Ic.1
  obtain ⟨⟨m, Yr⟩, Yt⟩ : fYf σ 15 D S T sd := Ic.2.1
  have Gs := Ms.ground (k := 2) (by decide)
  have Ys := Ms.yard (k := 15) (by decide)
  obtain ⟨⟨g0, g1, g2, g3, g4, g5⟩, ⟨gn, gK⟩, ⟨gr0, gr1, gr2, gr3, gr4⟩⟩ := id Gs
  obtain ⟨⟨y0, y1, y2, y3, y4, y5, y6⟩, ⟨yn, yK⟩, ⟨yr0, yr1, yr2, yr3, yr4, yr5, yr6⟩⟩ := id Ys
  obtain ⟨t0, t1, t2, t3, t4, t5, t6⟩ := id hD.1
  have np := hW.n hD
  have n5 := hW.2.2.2.2
  have tp6 : tp ≤ 600 := ok.2.2.2.1
  have im3 : im ≤ 3 := ok.2.2.2.2.1
  have pn3 : pn ≤ 30 := ok.2.1.2.2.2.1
  have rn6 : rn ≤ 60 := ok.2.1.2.2.2.2.2.1
  have Dc : fDc σ 29 (S, T, sd, pn, P, rn, R) := Ic.2.2.1
  have w52 := hW.1
  show fEv g (d + 5) mX9_now 0 [some (.ref 0), some (.int (nI f)), some (.int b)] [] σ Q
  refine e_aload_n dX9_now_0 rfl rfl ?_
  refine e_iload_n dX9_now_1 rfl rfl ?_
  refine e_callV (k := 0) [.int (nI f)] dX9_now_2 cc_X9_checkFill lk_RX9_204 im_X9_checkFill se_X9_checkFill (by decide) (Ms.s 0 rfl) (Ms.n (by decide)) rfl (Nat.le_of_ble_eq_true rfl) (Nat.le_of_ble_eq_true rfl) ?_
  exact t_X9_checkFillE2 Ms Gr Yr hD hW hf hv1 hv2 rm (t_out rfl h)
set_option maxRecDepth 20000 in
theorem t_X9_nowE3 {g : fGP} {d : Nat} {σ : fAH} {Q : fRes → fAH → Prop} {x : fXS} {f : Nat} {b : Int32}  (Ms : fMs g σ) (ok : fOK x) (Ic : fIc σ x) (hf : f < 4096) (hv1 : nI f &&& (nI (mfa (mal (xD x) (iS (xI x))) 12 (dT (xD x) 1) 0 0) ^^^ (-1)) = 0) (hv2 : mon f 12 0 ≤ dT (xD x) 3) (hv : ¬ mon f 12 0 ≤ 6) (rm : fnx σ + fgb σ + 1 ≤ 601024 ∧ fsu σ + 6 ≤ 7293034) (h : Q (.inr "java/lang/IllegalArgumentException") (fthr σ)) : fEv g (d + 5) mX9_now 0 (fent [.ref 0, .int (nI f), .int b] 3) [] σ Q := by
  obtain ⟨D, ⟨S, T, sd, pn, P, rn, R⟩, B, tp, pl, im, Im⟩ := x
  have hD : fWD D := ok.1
  have hW : fWS D S := ok.2.1.1
  have hC : fWC D S := ok.2.1.2.1
  have hN : fWN S 0 0 := ok.2.1.2.2.1
  have Gr : fGr σ 2 D := Ic.1
  obtain ⟨⟨m, Yr⟩, Yt⟩ : fYf σ 15 D S T sd := Ic.2.1
  have Gs := Ms.ground (k := 2) (by decide)
  have Ys := Ms.yard (k := 15) (by decide)
  obtain ⟨⟨g0, g1, g2, g3, g4, g5⟩, ⟨gn, gK⟩, ⟨gr0, gr1, gr2, gr3, gr4⟩⟩ := id Gs
  obtain ⟨⟨y0, y1, y2, y3, y4, y5, y6⟩, ⟨yn, yK⟩, ⟨yr0, yr1, yr2, yr3, yr4, yr5, yr6⟩⟩ := id Ys
  obtain ⟨t0, t1, t2, t3, t4, t5, t6⟩ := id hD.1
  have np := hW.n hD
  have n5 := hW.2.2.2.2
  have tp6 : tp ≤ 600 := ok.2.2.2.1
  have im3 : im ≤ 3 := ok.2.2.2.2.1
  have pn3 : pn ≤ 30 := ok.2.1.2.2.2.1
  have rn6 : rn ≤ 60 := ok.2.1.2.2.2.2.2.1
  have Dc : fDc σ 29 (S, T, sd, pn, P, rn, R) := Ic.2.2.1
  have w52 := hW.1
  show fEv g (d + 5) mX9_now 0 [some (.ref 0), some (.int (nI f)), some (.int b)] [] σ Q
  refine e_aload_n dX9_now_0 rfl rfl ?_
  refine e_iload_n dX9_now_1 rfl rfl ?_
  refine e_callV (k := 0) [.int (nI f)] dX9_now_2 cc_X9_checkFill lk_RX9_204 im_X9_checkFill se_X9_checkFill (by decide) (Ms.s 0 rfl) (Ms.n (by decide)) rfl (Nat.le_of_ble_eq_true rfl) (Nat.le_of_ble_eq_true rfl) ?_
  refine t_X9_checkFill Ms Gr Yr hD hW hf hv1 hv2 (fK_v ?_)
  show fEv g _ mX9_now 5 [some (.ref 0), some (.int (nI f)), some (.int b)] [] σ Q
  refine e_iload_n dX9_now_5 rfl rfl ?_
  refine e_callS [.int (nI f)] dX9_now_6 cc_J6_bitCount_0f7a4 lk_RX9_287 st_J6_bitCount_0f7a4 in_RJ6 rfl (Nat.le_of_ble_eq_true rfl) (Nat.le_of_ble_eq_true rfl) ?_
  refine t_J6_bitCount (by omega) (fK_i ?_)
  show fEv g _ mX9_now 9 [some (.ref 0), some (.int (nI f)), some (.int b)] [.int (nI (mon f 12 0))] σ Q
  refine e_iconst (nI 0) dX9_now_9 (by decide) ?_
  refine e_bipush (nI 6) dX9_now_10 (by decide) ?_
  refine e_callS [.int (nI (mon f 12 0)), .int (nI 0), .int (nI 6)] dX9_now_12 cc_X9_checkRange lk_RX9_153 st_X9_checkRange in_RX9 rfl (Nat.le_of_ble_eq_true rfl) (Nat.le_of_ble_eq_true rfl) ?_
  exact t_X9_checkRangeE (fun q => hv ((nI_le' (by have := mon_le (b := f) 12 0; omega) (by omega)).mp q.2)) rm (t_out rfl h)
set_option maxRecDepth 20000 in
theorem t_X9_nowE4 {g : fGP} {d : Nat} {σ : fAH} {Q : fRes → fAH → Prop} {x : fXS} {f : Nat} {b : Int32}  (Ms : fMs g σ) (ok : fOK x) (Ic : fIc σ x) (hf : f < 4096) (hv1 : nI f &&& (nI (mfa (mal (xD x) (iS (xI x))) 12 (dT (xD x) 1) 0 0) ^^^ (-1)) = 0) (hv2 : mon f 12 0 ≤ dT (xD x) 3) (h6 : mon f 12 0 ≤ 6) (hv : ¬ (nI 0 ≤ b ∧ b ≤ nI 1)) (rm : fnx σ + fgb σ + 1 ≤ 601024 ∧ fsu σ + 6 ≤ 7293034) (h : Q (.inr "java/lang/IllegalArgumentException") (fthr σ)) : fEv g (d + 5) mX9_now 0 (fent [.ref 0, .int (nI f), .int b] 3) [] σ Q := by
  obtain ⟨D, ⟨S, T, sd, pn, P, rn, R⟩, B, tp, pl, im, Im⟩ := x
  have hD : fWD D := ok.1
  have hW : fWS D S := ok.2.1.1
  have hC : fWC D S := ok.2.1.2.1
  have hN : fWN S 0 0 := ok.2.1.2.2.1
  have Gr : fGr σ 2 D := Ic.1
  obtain ⟨⟨m, Yr⟩, Yt⟩ : fYf σ 15 D S T sd := Ic.2.1
  have Gs := Ms.ground (k := 2) (by decide)
  have Ys := Ms.yard (k := 15) (by decide)
  obtain ⟨⟨g0, g1, g2, g3, g4, g5⟩, ⟨gn, gK⟩, ⟨gr0, gr1, gr2, gr3, gr4⟩⟩ := id Gs
  obtain ⟨⟨y0, y1, y2, y3, y4, y5, y6⟩, ⟨yn, yK⟩, ⟨yr0, yr1, yr2, yr3, yr4, yr5, yr6⟩⟩ := id Ys
  obtain ⟨t0, t1, t2, t3, t4, t5, t6⟩ := id hD.1
  have np := hW.n hD
  have n5 := hW.2.2.2.2
  have tp6 : tp ≤ 600 := ok.2.2.2.1
  have im3 : im ≤ 3 := ok.2.2.2.2.1
  have pn3 : pn ≤ 30 := ok.2.1.2.2.2.1
  have rn6 : rn ≤ 60 := ok.2.1.2.2.2.2.2.1
  have Dc : fDc σ 29 (S, T, sd, pn, P, rn, R) := Ic.2.2.1
  have w52 := hW.1
  show fEv g (d + 5) mX9_now 0 [some (.ref 0), some (.int (nI f)), some (.int b)] [] σ Q
  refine e_aload_n dX9_now_0 rfl rfl ?_
  refine e_iload_n dX9_now_1 rfl rfl ?_
  refine e_callV (k := 0) [.int (nI f)] dX9_now_2 cc_X9_checkFill lk_RX9_204 im_X9_checkFill se_X9_checkFill (by decide) (Ms.s 0 rfl) (Ms.n (by decide)) rfl (Nat.le_of_ble_eq_true rfl) (Nat.le_of_ble_eq_true rfl) ?_
  refine t_X9_checkFill Ms Gr Yr hD hW hf hv1 hv2 (fK_v ?_)
  show fEv g _ mX9_now 5 [some (.ref 0), some (.int (nI f)), some (.int b)] [] σ Q
  refine e_iload_n dX9_now_5 rfl rfl ?_
  refine e_callS [.int (nI f)] dX9_now_6 cc_J6_bitCount_0f7a4 lk_RX9_287 st_J6_bitCount_0f7a4 in_RJ6 rfl (Nat.le_of_ble_eq_true rfl) (Nat.le_of_ble_eq_true rfl) ?_
  refine t_J6_bitCount (by omega) (fK_i ?_)
  show fEv g _ mX9_now 9 [some (.ref 0), some (.int (nI f)), some (.int b)] [.int (nI (mon f 12 0))] σ Q
  refine e_iconst (nI 0) dX9_now_9 (by decide) ?_
  refine e_bipush (nI 6) dX9_now_10 (by decide) ?_
  refine e_callS [.int (nI (mon f 12 0)), .int (nI 0), .int (nI 6)] dX9_now_12 cc_X9_checkRange lk_RX9_153 st_X9_checkRange in_RX9 rfl (Nat.le_of_ble_eq_true rfl) (Nat.le_of_ble_eq_true rfl) ?_
  refine t_X9_checkRange ⟨(nI_le' (by omega) (by omega)).mpr (by omega), (nI_le' (by omega) (by omega)).mpr (by omega)⟩ (fK_v ?_)
  show fEv g _ mX9_now 15 [some (.ref 0), some (.int (nI f)), some (.int b)] [] σ Q
  refine e_iload_n dX9_now_15 rfl rfl ?_
  refine e_iconst (nI 0) dX9_now_16 (by decide) ?_
  refine e_iconst (nI 1) dX9_now_17 (by decide) ?_
  refine e_callS [.int b, .int (nI 0), .int (nI 1)] dX9_now_18 cc_X9_checkRange lk_RX9_153 st_X9_checkRange in_RX9 rfl (Nat.le_of_ble_eq_true rfl) (Nat.le_of_ble_eq_true rfl) ?_
  exact t_X9_checkRangeE hv rm (t_out rfl h)
set_option maxRecDepth 20000 in
theorem t_X9_nowE5 {g : fGP} {d : Nat} {σ : fAH} {Q : fRes → fAH → Prop} {x : fXS} {f w : Nat}  (Ms : fMs g σ) (ok : fOK x) (Ic : fIc σ x) (hf : f < 4096) (hv1 : nI f &&& (nI (mfa (mal (xD x) (iS (xI x))) 12 (dT (xD x) 1) 0 0) ^^^ (-1)) = 0) (hv2 : mon f 12 0 ≤ dT (xD x) 3) (h6 : mon f 12 0 ≤ 6) (hw : w ≤ 1) (hn : ¬ (iS (xI x)) 155 < 30) (rm : fnx σ + fgb σ + 1 ≤ 601024 ∧ fsu σ + 6 ≤ 7293034) (h : Q (.inr "java/lang/IllegalStateException") (fthr σ)) : fEv g (d + 5) mX9_now 0 (fent [.ref 0, .int (nI f), .int (nI w)] 3) [] σ Q := by
  obtain ⟨D, ⟨S, T, sd, pn, P, rn, R⟩, B, tp, pl, im, Im⟩ := x
  have hD : fWD D := ok.1
  have hW : fWS D S := ok.2.1.1
  have hC : fWC D S := ok.2.1.2.1
  have hN : fWN S 0 0 := ok.2.1.2.2.1
  have Gr : fGr σ 2 D := Ic.1
  obtain ⟨⟨m, Yr⟩, Yt⟩ : fYf σ 15 D S T sd := Ic.2.1
  have Gs := Ms.ground (k := 2) (by decide)
  have Ys := Ms.yard (k := 15) (by decide)
  obtain ⟨⟨g0, g1, g2, g3, g4, g5⟩, ⟨gn, gK⟩, ⟨gr0, gr1, gr2, gr3, gr4⟩⟩ := id Gs
  obtain ⟨⟨y0, y1, y2, y3, y4, y5, y6⟩, ⟨yn, yK⟩, ⟨yr0, yr1, yr2, yr3, yr4, yr5, yr6⟩⟩ := id Ys
  obtain ⟨t0, t1, t2, t3, t4, t5, t6⟩ := id hD.1
  have np := hW.n hD
  have n5 := hW.2.2.2.2
  have tp6 : tp ≤ 600 := ok.2.2.2.1
  have im3 : im ≤ 3 := ok.2.2.2.2.1
  have pn3 : pn ≤ 30 := ok.2.1.2.2.2.1
  have rn6 : rn ≤ 60 := ok.2.1.2.2.2.2.2.1
  have Dc : fDc σ 29 (S, T, sd, pn, P, rn, R) := Ic.2.2.1
  have w52 := hW.1
  show fEv g (d + 5) mX9_now 0 [some (.ref 0), some (.int (nI f)), some (.int (nI w))] [] σ Q
  refine e_aload_n dX9_now_0 rfl rfl ?_
  refine e_iload_n dX9_now_1 rfl rfl ?_
  refine e_callV (k := 0) [.int (nI f)] dX9_now_2 cc_X9_checkFill lk_RX9_204 im_X9_checkFill se_X9_checkFill (by decide) (Ms.s 0 rfl) (Ms.n (by decide)) rfl (Nat.le_of_ble_eq_true rfl) (Nat.le_of_ble_eq_true rfl) ?_
  refine t_X9_checkFill Ms Gr Yr hD hW hf hv1 hv2 (fK_v ?_)
  show fEv g _ mX9_now 5 [some (.ref 0), some (.int (nI f)), some (.int (nI w))] [] σ Q
  refine e_iload_n dX9_now_5 rfl rfl ?_
  refine e_callS [.int (nI f)] dX9_now_6 cc_J6_bitCount_0f7a4 lk_RX9_287 st_J6_bitCount_0f7a4 in_RJ6 rfl (Nat.le_of_ble_eq_true rfl) (Nat.le_of_ble_eq_true rfl) ?_
  refine t_J6_bitCount (by omega) (fK_i ?_)
  show fEv g _ mX9_now 9 [some (.ref 0), some (.int (nI f)), some (.int (nI w))] [.int (nI (mon f 12 0))] σ Q
  refine e_iconst (nI 0) dX9_now_9 (by decide) ?_
  refine e_bipush (nI 6) dX9_now_10 (by decide) ?_
  refine e_callS [.int (nI (mon f 12 0)), .int (nI 0), .int (nI 6)] dX9_now_12 cc_X9_checkRange lk_RX9_153 st_X9_checkRange in_RX9 rfl (Nat.le_of_ble_eq_true rfl) (Nat.le_of_ble_eq_true rfl) ?_
  refine t_X9_checkRange ⟨(nI_le' (by omega) (by omega)).mpr (by omega), (nI_le' (by omega) (by omega)).mpr (by omega)⟩ (fK_v ?_)
  show fEv g _ mX9_now 15 [some (.ref 0), some (.int (nI f)), some (.int (nI w))] [] σ Q
  refine e_iload_n dX9_now_15 rfl rfl ?_
  refine e_iconst (nI 0) dX9_now_16 (by decide) ?_
  refine e_iconst (nI 1) dX9_now_17 (by decide) ?_
  refine e_callS [.int (nI w), .int (nI 0), .int (nI 1)] dX9_now_18 cc_X9_checkRange lk_RX9_153 st_X9_checkRange in_RX9 rfl (Nat.le_of_ble_eq_true rfl) (Nat.le_of_ble_eq_true rfl) ?_
  refine t_X9_checkRange ⟨(nI_le' (by omega) (by omega)).mpr (by omega), (nI_le' (by omega) (by omega)).mpr (by omega)⟩ (fK_v ?_)
  show fEv g _ mX9_now 21 [some (.ref 0), some (.int (nI f)), some (.int (nI w))] [] σ Q
  refine e_aload_n dX9_now_21 rfl rfl ?_
  refine e_callV (k := 0) [] dX9_now_22 cc_X9_checkNightLeft lk_RX9_207 im_X9_checkNightLeft se_X9_checkNightLeft (by decide) (Ms.s 0 rfl) (Ms.n (by decide)) rfl (Nat.le_of_ble_eq_true rfl) (Nat.le_of_ble_eq_true rfl) ?_
  exact t_X9_checkNightLeftE Ms Yr n5 hn rm (t_out rfl h)
set_option maxRecDepth 20000 in
theorem t_X9_sumIfDeeper {g : fGP} {d : Nat} {σ : fAH} {Q : fRes → fAH → Prop} {x : fXS} {k : Nat}  (Ms : fMs g σ) (ok : fOK x) (Ic : fIc σ x) (hk : k < dT (xD x) 1) (hn : (iS (xI x)) 155 < 30) (h : ∀ σ', fSm fClA σ σ' → fIc σ' x → Q (.inl (some (.long (nL (4096 * (mft (xD x) (mdp (iS (xI x)) k)).1.getD 0))))) σ') : fEv g (d + 9) mX9_sumIfDeeper 0 (fent [.ref 0, .int (nI k)] 2) [] σ Q := by
  obtain ⟨D, ⟨S, T, sd, pn, P, rn, R⟩, B, tp, pl, im, Im⟩ := x
  have hD : fWD D := ok.1
  have hW : fWS D S := ok.2.1.1
  have hC : fWC D S := ok.2.1.2.1
  have hN : fWN S 0 0 := ok.2.1.2.2.1
  have Gr : fGr σ 2 D := Ic.1
  obtain ⟨⟨m, Yr⟩, Yt⟩ : fYf σ 15 D S T sd := Ic.2.1
  have Gs := Ms.ground (k := 2) (by decide)
  have Ys := Ms.yard (k := 15) (by decide)
  obtain ⟨⟨g0, g1, g2, g3, g4, g5⟩, ⟨gn, gK⟩, ⟨gr0, gr1, gr2, gr3, gr4⟩⟩ := id Gs
  obtain ⟨⟨y0, y1, y2, y3, y4, y5, y6⟩, ⟨yn, yK⟩, ⟨yr0, yr1, yr2, yr3, yr4, yr5, yr6⟩⟩ := id Ys
  obtain ⟨t0, t1, t2, t3, t4, t5, t6⟩ := id hD.1
  have np := hW.n hD
  have n5 := hW.2.2.2.2
  have tp6 : tp ≤ 600 := ok.2.2.2.1
  have im3 : im ≤ 3 := ok.2.2.2.2.1
  have pn3 : pn ≤ 30 := ok.2.1.2.2.2.1
  have rn6 : rn ≤ 60 := ok.2.1.2.2.2.2.2.1
  have Dc : fDc σ 29 (S, T, sd, pn, P, rn, R) := Ic.2.2.1
  have w52 := hW.1
  have hk : k < dT D 1 := hk
  have hn : S 155 < 30 := hn
  have dk := hW.2.2.1 k hk
  show fEv g (d + 9) mX9_sumIfDeeper 0 [some (.ref 0), some (.int (nI k))] [] σ Q
  refine e_aload_n dX9_sumIfDeeper_0 rfl rfl ?_
  refine e_getR (q := 22) dX9_sumIfDeeper_1 fl_RX9_45 (Ms.s 0 rfl) (Ms.n (by decide)) rfl (Ms.r 0 6 rfl) (by unfold fscr; omega) ?_
  refine e_aload_n dX9_sumIfDeeper_4 rfl rfl ?_
  refine e_getR (q := 15) dX9_sumIfDeeper_5 fl_RX9_41 (Ms.s 0 rfl) (Ms.n (by decide)) rfl (Ms.r 0 5 rfl) (by unfold fscr; omega) ?_
  refine e_callV (k := 22) [.ref 15] dX9_sumIfDeeper_8 cc_X8_copyFrom lk_RX9_323 im_X8_copyFrom se_X8_copyFrom (by decide) (Ms.s 22 rfl) (Ms.n (by decide)) rfl (Nat.le_of_ble_eq_true rfl) (Nat.le_of_ble_eq_true rfl) ?_
  refine t_X8_copyFrom Ms ww8 ww9 (by decide) hD Yr Yt hW (fun σ1 Sm1 Yf1 => fK_v ?_)
  show fEv g _ mX9_sumIfDeeper 11 [some (.ref 0), some (.int (nI k))] [] σ1 Q
  obtain ⟨⟨m1, Yr1⟩, Yt1⟩ := Yf1
  have Ms1 := Ms.sm Sm1
  have Yr15 := Yr.sm Sm1 (fun i hi (q : 22 ≤ 15 + i ∧ 15 + i ≤ 22 + 6) => by omega)
  refine e_aload_n dX9_sumIfDeeper_11 rfl rfl ?_
  refine e_getR (q := 22) dX9_sumIfDeeper_12 fl_RX9_45 (Ms1.s 0 rfl) (Ms1.n (by decide)) rfl (Ms1.r 0 6 rfl) (by unfold fscr; omega) ?_
  refine e_getR (q := 24) dX9_sumIfDeeper_15 fl_RX9_157 (Ms1.s 22 rfl) (Ms1.n (by decide)) rfl (Ms1.r 22 3 rfl) (by unfold fscr; omega) ?_
  refine e_iload_n dX9_sumIfDeeper_18 rfl rfl ?_
  refine e_bipush (nI 9) dX9_sumIfDeeper_19 (by decide) ?_
  refine e_aload_n dX9_sumIfDeeper_21 rfl rfl ?_
  refine e_getR (q := 15) dX9_sumIfDeeper_22 fl_RX9_41 (Ms1.s 0 rfl) (Ms1.n (by decide)) rfl (Ms1.r 0 5 rfl) (by unfold fscr; omega) ?_
  refine e_getR (q := 17) dX9_sumIfDeeper_25 fl_RX9_157 (Ms1.s 15 rfl) (Ms1.n (by decide)) rfl (Ms1.r 15 3 rfl) (by unfold fscr; omega) ?_
  refine e_iload_n dX9_sumIfDeeper_28 rfl rfl ?_
  refine e_iaload k dX9_sumIfDeeper_29 (Ms1.s 17 rfl) (Ms1.n (by decide)) rfl (by omega) (by decide) ?_
  refine e_int (nI (S (121 + k))) (Yr15.2.2.1 k (by omega)) ?_
  refine e_iconst (nI 1) dX9_sumIfDeeper_30 (by decide) ?_
  refine e_iadd dX9_sumIfDeeper_31 ?_
  refine e_int (nI (S (121 + k) + 1)) (nI_add (S (121 + k)) 1) ?_
  refine e_min dX9_sumIfDeeper_32 ml_RX9_360 w_min (Nat.le_of_ble_eq_true rfl) ?_
  refine e_int (nI (min 9 (S (121 + k) + 1))) (nI_mn (by omega) (by omega)) ?_
  refine e_iastore k dX9_sumIfDeeper_35 (Ms1.s 24 rfl) (Ms1.n (by decide)) rfl (by omega) (by decide) ?_
  refine e_aload_n dX9_sumIfDeeper_36 rfl rfl ?_
  refine e_getR (q := 34) dX9_sumIfDeeper_37 fl_RX9_69 (Ms1.s 0 rfl) (Ms1.n (by decide)) rfl (Ms1.r 0 11 rfl) (by unfold fscr; omega) ?_
  refine e_aload_n dX9_sumIfDeeper_40 rfl rfl ?_
  refine e_getR (q := 22) dX9_sumIfDeeper_41 fl_RX9_45 (Ms1.s 0 rfl) (Ms1.n (by decide)) rfl (Ms1.r 0 6 rfl) (by unfold fscr; omega) ?_
  refine e_iconst (nI 2) dX9_sumIfDeeper_44 (by decide) ?_
  have Sm2 : fSm (fYA 22) σ1 (fsI σ1 24 k (nI (min 9 (S (121 + k) + 1)))) := fSm_I ⟨by omega, by omega⟩
  have Yr9 : fYr (fsI σ1 24 k (nI (min 9 (S (121 + k) + 1)))) 22 D (mdp S k) m1 sd := Yr1.dep (s := k) (v := min 9 (S (121 + k) + 1)) (by omega) hD np
  have Yt9 : fYt (fsI σ1 24 k (nI (min 9 (S (121 + k) + 1)))) 22 (mdp S k) T := Yt1.cg (fI_ne (by omega)) (fI_ne (by omega)) (mup_n _ _ (by omega)) (mup_n _ _ (by omega))
  have S12 := Sm1.tr Sm2
  have fw := fW_dp hD hW hC hk
  refine e_callV (k := 34) [.ref 22, .int (nI 2)] dX9_sumIfDeeper_45 cc_X2_mostOf lk_RX9_353 im_X2_mostOf se_X2_mostOf (by decide) (Ms1.s 34 rfl) (Ms1.n (by decide)) rfl (Nat.le_of_ble_eq_true rfl) (Nat.le_of_ble_eq_true rfl) ?_
  refine t_X2_mostOf2 (Ms.sm S12) ww8 (fun i hi q => by unfold fF2 at q; omega) (Gr.y S12 ww8) hD Yr9 Yt9 fw.1 fw.2.1 (by rw [fw.2.2.1]; exact hn) (Ic.2.2.2.2.2.2.sm S12 (fun a (q : 22 ≤ a ∧ a ≤ 22 + 6) => by omega)) (fun σ3 Sm3 Wx3 b3 => fK_i ?_)
  show fEv g _ mX9_sumIfDeeper 48 [some (.ref 0), some (.int (nI k))] [.long (ob ((mft D (mdp S k)).1.map (4096 * ·)))] σ3 Q
  have A9 : fSm (fun a => fYA 22 a ∨ fF2 a) σ σ3 := (S12.to (fun a q => Or.inl q)).tr (Sm3.to (fun a q => Or.inr q))
  have h9 := (mft_some (S := mdp S k) hD)
  obtain ⟨v9, hv9⟩ := h9
  rw [hv9]
  have h : ∀ σ', fSm fClA σ σ' → fIc σ' (D, (S, T, sd, pn, P, rn, R), B, tp, pl, im, Im) → Q (.inl (some (.long (nL (4096 * (mft D (mdp S k)).1.getD 0))))) σ' := h
  rw [hv9] at h
  exact e_lreturn dX9_sumIfDeeper_48 rfl (h σ3 (A9.to (fun a q => by unfold fYA fF2 at q; unfold fClA; omega)) (Ic.f0 ok A9 (fun a q => by unfold fYA fF2 at q; unfold fCsA; omega) (fun j _ => A9.i (fun q => by unfold fYA fF2 at q; omega) j) (A9.j (fun q => by unfold fYA fF2 at q; omega) 16) Wx3))
