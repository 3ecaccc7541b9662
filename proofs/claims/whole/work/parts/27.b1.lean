theorem mal_pc {D : fSD} {S : Nat → Nat} {k : Nat} (h : mal D S k = true) : ∃ p, mpc D S k = some p ∧ p < S 120 ∧ S (133 + k) = 0 ∧ mins D S k p (dS D k 2) = true := by
  unfold mal at h
  rw [Bool.and_eq_true] at h
  cases e : mpc D S k with
  | none => rw [e] at h; exact absurd h.2 Bool.false_ne_true
  | some p =>
    rw [e] at h
    exact ⟨p, rfl, (mpc_lt e).1, of_decide_eq_true h.1, h.2⟩
theorem bn_inj {a b : Bool} (h : bn a = bn b) : a = b := by cases a <;> cases b <;> first | rfl | exact absurd h (by decide)
theorem mneed_le (D : fSD) (S : Nat → Nat) (k : Nat) : mneed D S k ≤ 6 := by unfold mneed; split <;> omega
def mcs (D : fSD) (S : Nat → Nat) (k ln : Nat) : Bool := mal D S k && mins D S k ((mpc D S k).getD 0) ln
def msd (D : fSD) (S : Nat → Nat) (k p ln part side : Nat) : Nat := if dS D k 1 = side then (if part = 0 then ln - S (p * 6 + (1 + 2 * side)) else S (p * 6 + (2 + 2 * side)) - ln) else S (p * 6 + (2 + 2 * side)) - S (p * 6 + (1 + 2 * side))
def meff (D : fSD) (S : Nat → Nat) (k c : Nat) : Nat := if c < mneed D S k then (if c = 0 then 0 else 1) else if mstr D S k c then 2 else 3
theorem meff_le (D : fSD) (S : Nat → Nat) (k c : Nat) : meff D S k c ≤ 3 := by
  unfold meff
  split
  · split <;> decide
  · split <;> decide
def mak (D : fSD) (S : Nat → Nat) (fill c c2 : Nat) : Nat → Nat → Bool
  | 0, _ => true
  | n + 1, i => if fill / 2 ^ i % 2 = 1 ∧ meff D S i c ≠ meff D S i c2 then false else mak D S fill c c2 n (i + 1)
theorem dv0 {f i : Nat} (h : f / 2 ^ i = 0) : f / 2 ^ (i + 1) = 0 := by
  rw [Nat.pow_succ, ← Nat.div_div_eq_div_mul, h]
theorem mak_0 {D : fSD} {S : Nat → Nat} {fill c c2 : Nat} : ∀ {n i : Nat}, fill / 2 ^ i = 0 → mak D S fill c c2 n i = true
  | 0, _, _ => rfl
  | n + 1, i, h => by
    unfold mak
    rw [if_neg (by rw [h]; intro q; exact absurd q.1 (by decide))]
    exact mak_0 (dv0 h)
def mmp (D : fSD) (S : Nat → Nat) : Bool := decide (S 155 < dT D 5 ∧ dT D 4 ≠ 0) && (mfd (mopen D S) (dT D 2) 0).isSome
def mstn (S : Nat → Nat) (b : Bool) (p : Nat) : Nat := if decide (S (p * 6 + 5) = 1) = b then mwd S p * mhg S p else 0
def muw (D : fSD) (S : Nat → Nat) (p : Nat) : Bool := decide (S (p * 6 + 5) = 1) && (mof D (mwd S p) (mhg S p)).isNone
/-- the cold into which a draw falls; a of 8 are passed -/
def mco (D : fSD) (t v : Nat) : Nat → Nat → Nat → Nat
  | 0, _, _ => 0
  | n + 1, i, a => if dZ D i 0 = t then (if v < a + dZ D i 2 then dZ D i 1 else mco D t v n (i + 1) (a + dZ D i 2)) else mco D t v n (i + 1) a
theorem mco_le {D : fSD} (hD : fWD D) {t v : Nat} : ∀ (n i a : Nat), i + n = dT D 6 → mco D t v n i a ≤ 9
  | 0, _, _, _ => Nat.zero_le _
  | n + 1, i, a, h => by
    have z := hD.2.2.2.2.1 i (by omega)
    unfold mco
    repeat' split
    · omega
    · exact mco_le hD n _ _ (by omega)
    · exact mco_le hD n _ _ (by omega)
/-- the seed's step; the draws below 8 and below 4 -/
def sdn (x : Int32) : Int32 := x * 1103515245 + 12345
def d8 (x : Int32) : Nat := (sdn x).toBitVec.toNat / 65536 % 8
def d4 (x : Int32) : Nat := (sdn x).toBitVec.toNat / 65536 % 4
theorem ush16 (x : Int32) (m : Int32) (w : Nat) (hm : m.toBitVec = BitVec.ofNat 32 (2 ^ w - 1)) (hw : w ≤ 8) : (x.toUInt32 >>> ((nI 16).toUInt32 &&& Int32.toUInt32 31)).toInt32 &&& m = nI (x.toBitVec.toNat / 65536 % 2 ^ w) := by
  have e : ((nI 16).toUInt32 &&& Int32.toUInt32 31) = 16 := by decide
  rw [e]
  apply Int32.toBitVec_inj.1
  show (x.toBitVec >>> (16 : Nat)) &&& m.toBitVec = BitVec.ofNat 32 (x.toBitVec.toNat / 65536 % 2 ^ w)
  rw [hm]
  apply BitVec.eq_of_toNat_eq
  rw [BitVec.toNat_and, BitVec.toNat_ushiftRight, BitVec.toNat_ofNat, BitVec.toNat_ofNat, Nat.shiftRight_eq_div_pow]
  have h8 : 2 ^ w ≤ 256 := Nat.le_trans (Nat.pow_le_pow_right (by decide) hw) (by decide)
  rw [Nat.mod_eq_of_lt (show 2 ^ w - 1 < 2 ^ 32 by omega), Nat.and_two_pow_sub_one_eq_mod]
  have := Nat.mod_lt (x.toBitVec.toNat / 65536) (show 0 < 2 ^ w from Nat.two_pow_pos w)
  rw [Nat.mod_eq_of_lt (show x.toBitVec.toNat / 65536 % 2 ^ w < 2 ^ 32 by omega)]
/-- the cold drawn, and the seed behind it -/
def mdc (D : fSD) (S : Nat → Nat) (x : Int32) : Nat × Int32 := if 0 < mall D (S 155) then (mco D (S 155) (d8 x) (dT D 6) 0 0, sdn x) else (0, x)
theorem mdc_le {D : fSD} (hD : fWD D) (S : Nat → Nat) (x : Int32) : (mdc D S x).1 ≤ 9 := by
  unfold mdc
  split
  · exact mco_le hD _ _ _ (by omega)
  · exact Nat.zero_le _
theorem d8_lt (x : Int32) : d8 x < 8 := Nat.mod_lt _ (by decide)
theorem d4_lt (x : Int32) : d4 x < 4 := Nat.mod_lt _ (by decide)
def fYA (k : Nat) : Nat → Prop := fun a => k ≤ a ∧ a ≤ k + 6
/-- the whole yard -/
def fYf (σ : fAH) (k : Nat) (D : fSD) (S : Nat → Nat) (T : Nat → Int32) (sd : Int32) : Prop := (∃ m, fYr σ k D S m sd) ∧ fYt σ k S T
set_option maxRecDepth 20000 in
theorem t_X8_canSplit {g : fGP} {d : Nat} {σ : fAH} {Q : fRes → fAH → Prop} {k q m : Nat} {D : fSD} {S : Nat → Nat} {sd : Int32} {s ln : Nat} {aw : Int32} (Gs : fGs g σ q) (Gr : fGr σ q D) (hD : fWD D) (Ys : fYs g σ k q) (Yr : fYr σ k D S m sd) (hW : fWS D S) (hs : s < dT D 1) (hl : nI (dS D s 2) + aw = nI ln) (hl9 : ln < 1000) (h : Q (.inl (some (.int (nI (bn (mcs D S s ln)))))) σ) : fEv g (d + 3) mX8_canSplit 0 (fent [.ref k, .int (nI s), .int aw] 3) [] σ Q := by
  obtain ⟨⟨g0, g1, g2, g3, g4, g5⟩, ⟨gn, gK⟩, ⟨gr0, gr1, gr2, gr3, gr4⟩⟩ := id Gs
  obtain ⟨⟨y0, y1, y2, y3, y4, y5, y6⟩, ⟨yn, yK⟩, ⟨yr0, yr1, yr2, yr3, yr4, yr5, yr6⟩⟩ := id Ys
  obtain ⟨t0, t1, t2, t3, t4, t5, t6⟩ := id hD.1
  obtain ⟨s0, s1, s2, s3, s4, s5, s6⟩ := hD.2.2.1 s hs
  have sb := hD.s2 hs
  have np := hW.n hD
  show fEv g (d + 3) mX8_canSplit 0 [some (.ref k), some (.int (nI s)), some (.int aw)] [] σ Q
  refine e_aload_n dX8_canSplit_0 rfl rfl ?_
  refine e_iload_n dX8_canSplit_1 rfl rfl ?_
  refine e_callV (k := k) [.int (nI s)] dX8_canSplit_2 cc_X8_isAlive lk_RX8_105 im_X8_isAlive se_X8_isAlive (by decide) y0 (show k < fnx σ by omega) rfl (Nat.le_of_ble_eq_true rfl) (Nat.le_of_ble_eq_true rfl) ?_
  refine t_X8_isAlive Gs Gr hD Ys Yr hW (by omega) (fK_i ?_)
  show fEv g _ mX8_canSplit 5 [some (.ref k), some (.int (nI s)), some (.int aw)] [.int (nI (bn (mal D S s)))] σ Q
  refine e_if_eq 40 dX8_canSplit_5 (by decide) (fun c5 => ?_) (fun c5 => ?_)
  · have c5 := bn0 c5
    have hcs : mcs D S s ln = false := by unfold mcs; rw [c5]; rfl
    refine e_iconst (nI 0) dX8_canSplit_40 (by decide) ?_
    rw [hcs] at h
    exact e_ireturn .boolean dX8_canSplit_41 rfl (by decide) h
  · have c5 := bn1 c5
    refine e_aload_n dX8_canSplit_8 rfl rfl ?_
    refine e_aload_n dX8_canSplit_9 rfl rfl ?_
    refine e_iload_n dX8_canSplit_10 rfl rfl ?_
    refine e_callV (k := k) [.int (nI s)] dX8_canSplit_11 cc_X8_pieceUnder lk_RX8_97 im_X8_pieceUnder se_X8_pieceUnder (by decide) y0 (show k < fnx σ by omega) rfl (Nat.le_of_ble_eq_true rfl) (Nat.le_of_ble_eq_true rfl) ?_
    refine t_X8_pieceUnder Gs Gr hD Ys Yr hW (by omega) (fK_i ?_)
    show fEv g _ mX8_canSplit 14 [some (.ref k), some (.int (nI s)), some (.int aw)] [.int (mo (mpc D S s)), .ref k] σ Q
    obtain ⟨p, hpc, hp, hz, hi9⟩ := mal_pc c5
    have hcs : mcs D S s ln = mins D S s p ln := by unfold mcs; rw [c5, hpc]; rfl
    rw [hcs] at h
    refine e_int (nI p) (by rw [hpc]; rfl) ?_
    refine e_iload_n dX8_canSplit_14 rfl rfl ?_
    refine e_aload_n dX8_canSplit_15 rfl rfl ?_
    refine e_getR (q := q) dX8_canSplit_16 fl_RX8_56 y0 (show k < fnx σ by omega) rfl yr0 (by unfold fscr; omega) ?_
    refine e_getR (q := q + 2) dX8_canSplit_19 fl_RX8_71 g0 (show q < fnx σ by omega) rfl gr1 (by unfold fscr; omega) ?_
    refine e_iload_n dX8_canSplit_22 rfl rfl ?_
    refine e_iconst (nI 5) dX8_canSplit_23 (by decide) ?_
    refine e_imul dX8_canSplit_24 ?_
    refine e_int (nI (s * 5)) (pk_mul s 5) ?_
    refine e_iconst (nI 2) dX8_canSplit_25 (by decide) ?_
    refine e_iadd dX8_canSplit_26 ?_
    refine e_int (nI (s * 5 + 2)) (nI_add (s * 5) 2) ?_
    refine e_iaload (s * 5 + 2) dX8_canSplit_27 g2 (show q + 2 < fnx σ by omega) rfl (by omega) (by decide) ?_
    refine e_int (nI (dS D s 2)) (Gr.2.2.1 s (by omega) 2 (by decide)) ?_
    refine e_iload_n dX8_canSplit_28 rfl rfl ?_
    refine e_iadd dX8_canSplit_29 ?_
    refine e_int (nI ln) hl ?_
    refine e_callV (k := k) [.int (nI p), .int (nI s), .int (nI ln)] dX8_canSplit_30 cc_X8_isInside lk_RX8_101 im_X8_isInside se_X8_isInside (by decide) y0 (show k < fnx σ by omega) rfl (Nat.le_of_ble_eq_true rfl) (Nat.le_of_ble_eq_true rfl) ?_
    refine t_X8_isInside Gs Gr hD Ys Yr hW (by omega) (by omega) (by omega) (fK_i ?_)
    show fEv g _ mX8_canSplit 33 [some (.ref k), some (.int (nI s)), some (.int aw)] [.int (nI (bn (mins D S s p ln)))] σ Q
    refine e_if_eq 40 dX8_canSplit_33 (by decide) (fun c33 => ?_) (fun c33 => ?_)
    · have c33 := bn0 c33
      rw [c33] at h
      refine e_iconst (nI 0) dX8_canSplit_40 (by decide) ?_
      exact e_ireturn .boolean dX8_canSplit_41 rfl (by decide) h
    · have c33 := bn1 c33
      rw [c33] at h
      refine e_iconst (nI 1) dX8_canSplit_36 (by decide) ?_
      refine e_goto 41 dX8_canSplit_37 (by decide) ?_
      exact e_ireturn .boolean dX8_canSplit_41 rfl (by decide) h
set_option maxRecDepth 20000 in
theorem t_X8_partSide0 {g : fGP} {d : Nat} {σ : fAH} {Q : fRes → fAH → Prop} {k q m : Nat} {D : fSD} {S : Nat → Nat} {sd : Int32} {s ln p pt : Nat} {aw : Int32} (Gs : fGs g σ q) (Gr : fGr σ q D) (hD : fWD D) (Ys : fYs g σ k q) (Yr : fYr σ k D S m sd) (hW : fWS D S) (hs : s < dT D 1) (hl : nI (dS D s 2) + aw = nI ln) (hl9 : ln < 1000) (hpc : mpc D S s = some p) (hin : mins D S s p ln = true) (hpt : pt ≤ 1) (h : Q (.inl (some (.int (nI (msd D S s p ln pt 0))))) σ) : fEv g (d + 1) mX8_partSide 0 (fent [.ref k, .int (nI s), .int aw, .int (nI pt), .int (nI 1)] 10) [] σ Q := by
  obtain ⟨⟨g0, g1, g2, g3, g4, g5⟩, ⟨gn, gK⟩, ⟨gr0, gr1, gr2, gr3, gr4⟩⟩ := id Gs
  obtain ⟨⟨y0, y1, y2, y3, y4, y5, y6⟩, ⟨yn, yK⟩, ⟨yr0, yr1, yr2, yr3, yr4, yr5, yr6⟩⟩ := id Ys
  obtain ⟨t0, t1, t2, t3, t4, t5, t6⟩ := id hD.1
  obtain ⟨s0, s1, s2, s3, s4, s5, s6⟩ := hD.2.2.1 s hs
  have sb := hD.s2 hs
  have np := hW.n hD
  have hp := (mpc_lt hpc).1
  obtain ⟨p0, p1, p2, p3, p4, p5⟩ := hW.2.1 p hp
  have hin := of_decide_eq_true hin
  show fEv g (d + 1) mX8_partSide 0 [some (.ref k), some (.int (nI s)), some (.int aw), some (.int (nI pt)), some (.int (nI 1)), none, none, none, none, none] [] σ Q
  rcases (show dS D s 1 = 0 ∨ dS D s 1 = 1 by omega) with wy | wy <;> rw [wy] at hin
  · have hin : S (p * 6 + 1) < ln ∧ ln < S (p * 6 + 2) := hin
    refine e_aload_n dX8_partSide_0 rfl rfl ?_
    refine e_iload_n dX8_partSide_1 rfl rfl ?_
    refine e_callV (k := k) [.int (nI s)] dX8_partSide_2 cc_X8_pieceUnder lk_RX8_97 im_X8_pieceUnder se_X8_pieceUnder (by decide) y0 (show k < fnx σ by omega) rfl (Nat.le_of_ble_eq_true rfl) (Nat.le_of_ble_eq_true rfl) ?_
    refine t_X8_pieceUnder Gs Gr hD Ys Yr hW (by omega) (fK_i ?_)
    show fEv g _ mX8_partSide 5 [some (.ref k), some (.int (nI s)), some (.int aw), some (.int (nI pt)), some (.int (nI 1)), none, none, none, none, none] [.int (mo (mpc D S s))] σ Q
    refine e_int (nI p) (by rw [hpc]; rfl) ?_
    refine e_istore (L1 := [some (.ref k), some (.int (nI s)), some (.int aw), some (.int (nI pt)), some (.int (nI 1)), some (.int (nI p)), none, none, none, none]) dX8_partSide_5 (by decide) rfl ?_
    refine e_iload dX8_partSide_7 rfl ?_
    refine e_iconst (-1) dX8_partSide_9 (by decide) ?_
    refine e_icmp_ne 15 dX8_partSide_10 (by decide) (fun _ => ?_) (fun c => absurd c (nI_m1 (by omega)))
    refine e_iload_n dX8_partSide_15 rfl rfl ?_
    refine e_iconst (nI 5) dX8_partSide_16 (by decide) ?_
    refine e_imul dX8_partSide_17 ?_
    refine e_int (nI (s * 5)) (pk_mul s 5) ?_
    refine e_istore (L1 := [some (.ref k), some (.int (nI s)), some (.int aw), some (.int (nI pt)), some (.int (nI 1)), some (.int (nI p)), some (.int (nI (s * 5))), none, none, none]) dX8_partSide_18 (by decide) rfl ?_
    refine e_aload_n dX8_partSide_20 rfl rfl ?_
    refine e_getR (q := q) dX8_partSide_21 fl_RX8_56 y0 (show k < fnx σ by omega) rfl yr0 (by unfold fscr; omega) ?_
    refine e_getR (q := q + 2) dX8_partSide_24 fl_RX8_71 g0 (show q < fnx σ by omega) rfl gr1 (by unfold fscr; omega) ?_
    refine e_iload dX8_partSide_27 rfl ?_
    refine e_iconst (nI 1) dX8_partSide_29 (by decide) ?_
    refine e_iadd dX8_partSide_30 ?_
    refine e_int (nI (s * 5 + 1)) (nI_add (s * 5) 1) ?_
    refine e_iaload (s * 5 + 1) dX8_partSide_31 g2 (show q + 2 < fnx σ by omega) rfl (by omega) (by decide) ?_
    refine e_int (nI 0) ((Gr.2.2.1 s (by omega) 1 (by decide)).trans (by rw [wy])) ?_
    refine e_if_ne 39 dX8_partSide_32 (by decide) (fun c => absurd c (by decide)) (fun _ => ?_)
    refine e_iconst (nI 1) dX8_partSide_35 (by decide) ?_
    refine e_goto 40 dX8_partSide_36 (by decide) ?_
    refine e_istore (L1 := [some (.ref k), some (.int (nI s)), some (.int aw), some (.int (nI pt)), some (.int (nI 1)), some (.int (nI p)), some (.int (nI (s * 5))), some (.int (nI 1)), none, none]) dX8_partSide_40 (by decide) rfl ?_
    refine e_iload dX8_partSide_42 rfl ?_
    refine e_iload dX8_partSide_44 rfl ?_
    refine e_icmp_eq 70 dX8_partSide_46 (by decide) (fun _ => ?_) (fun c => absurd c (by decide))
    refine e_aload_n dX8_partSide_70 rfl rfl ?_
    refine e_iload dX8_partSide_71 rfl ?_
    refine e_iload_n dX8_partSide_73 rfl rfl ?_
    refine e_callV (k := k) [.int (nI p), .int (nI s)] dX8_partSide_74 cc_X8_lowEdge lk_RX8_93 im_X8_lowEdge se_X8_lowEdge (by decide) y0 (show k < fnx σ by omega) rfl (Nat.le_of_ble_eq_true rfl) (Nat.le_of_ble_eq_true rfl) ?_
    refine t_X8_lowEdge Gs Gr hD Ys (by omega) (by omega) (fK_i ?_)
    show fEv g _ mX8_partSide 77 [some (.ref k), some (.int (nI s)), some (.int aw), some (.int (nI pt)), some (.int (nI 1)), some (.int (nI p)), some (.int (nI (s * 5))), some (.int (nI 1)), none, none] [.int (nI (p * 6 + (1 + 2 * dS D s 1)))] σ Q
    refine e_int (nI (p * 6 + 1)) (by rw [wy]) ?_
    refine e_istore (L1 := [some (.ref k), some (.int (nI s)), some (.int aw), some (.int (nI pt)), some (.int (nI 1)), some (.int (nI p)), some (.int (nI (s * 5))), some (.int (nI 1)), some (.int (nI (p * 6 + 1))), none]) dX8_partSide_77 (by decide) rfl ?_
    refine e_aload_n dX8_partSide_79 rfl rfl ?_
    refine e_getR (q := q) dX8_partSide_80 fl_RX8_56 y0 (show k < fnx σ by omega) rfl yr0 (by unfold fscr; omega) ?_
    refine e_getR (q := q + 2) dX8_partSide_83 fl_RX8_71 g0 (show q < fnx σ by omega) rfl gr1 (by unfold fscr; omega) ?_
    refine e_iload dX8_partSide_86 rfl ?_
    refine e_iconst (nI 2) dX8_partSide_88 (by decide) ?_
    refine e_iadd dX8_partSide_89 ?_
    refine e_int (nI (s * 5 + 2)) (nI_add (s * 5) 2) ?_
    refine e_iaload (s * 5 + 2) dX8_partSide_90 g2 (show q + 2 < fnx σ by omega) rfl (by omega) (by decide) ?_
    refine e_int (nI (dS D s 2)) (Gr.2.2.1 s (by omega) 2 (by decide)) ?_
    refine e_iload_n dX8_partSide_91 rfl rfl ?_
    refine e_iadd dX8_partSide_92 ?_
    refine e_int (nI ln) hl ?_
    refine e_istore (L1 := [some (.ref k), some (.int (nI s)), some (.int aw), some (.int (nI pt)), some (.int (nI 1)), some (.int (nI p)), some (.int (nI (s * 5))), some (.int (nI 1)), some (.int (nI (p * 6 + 1))), some (.int (nI ln))]) dX8_partSide_93 (by decide) rfl ?_
    refine e_iload_n dX8_partSide_95 rfl rfl ?_
    refine e_if_ne 112 dX8_partSide_96 (by decide) (fun c96 => ?_) (fun c96 => ?_)
    · rw [nI_z (by omega)] at c96
      refine e_aload_n dX8_partSide_112 rfl rfl ?_
      refine e_getR (q := k + 1) dX8_partSide_113 fl_RX8_9 y0 (show k < fnx σ by omega) rfl yr1 (by unfold fscr; omega) ?_
      refine e_iload dX8_partSide_116 rfl ?_
      refine e_iconst (nI 1) dX8_partSide_118 (by decide) ?_
      refine e_iadd dX8_partSide_119 ?_
      refine e_int (nI (p * 6 + 2)) (nI_add (p * 6 + 1) 1) ?_
      refine e_iaload (p * 6 + 2) dX8_partSide_120 y1 (show k + 1 < fnx σ by omega) rfl (by omega) (by decide) ?_
      refine e_int (nI (S (p * 6 + 2))) (Yr.2.1 p (by omega) 2 (by decide)) ?_
      refine e_iload dX8_partSide_121 rfl ?_
      refine e_isub dX8_partSide_123 ?_
      refine e_int (nI ((S (p * 6 + 2)) - ln)) (pk_sub (by omega)) ?_
      unfold msd at h
      rw [if_pos (by omega), if_neg (by omega)] at h
      exact e_ireturn .int dX8_partSide_124 rfl rfl h
    · rw [nI_z (by omega)] at c96
      refine e_iload dX8_partSide_99 rfl ?_
      refine e_aload_n dX8_partSide_101 rfl rfl ?_
      refine e_getR (q := k + 1) dX8_partSide_102 fl_RX8_9 y0 (show k < fnx σ by omega) rfl yr1 (by unfold fscr; omega) ?_
      refine e_iload dX8_partSide_105 rfl ?_
      refine e_iaload (p * 6 + 1) dX8_partSide_107 y1 (show k + 1 < fnx σ by omega) rfl (by omega) (by decide) ?_
      refine e_int (nI (S (p * 6 + 1))) (Yr.2.1 p (by omega) 1 (by decide)) ?_
      refine e_isub dX8_partSide_108 ?_
      refine e_int (nI (ln - (S (p * 6 + 1)))) (pk_sub (by omega)) ?_
      refine e_goto 124 dX8_partSide_109 (by decide) ?_
      unfold msd at h
      rw [if_pos (by omega), if_pos (by omega)] at h
      exact e_ireturn .int dX8_partSide_124 rfl rfl h
  · have hin : S (p * 6 + 3) < ln ∧ ln < S (p * 6 + 4) := hin
    refine e_aload_n dX8_partSide_0 rfl rfl ?_
    refine e_iload_n dX8_partSide_1 rfl rfl ?_
    refine e_callV (k := k) [.int (nI s)] dX8_partSide_2 cc_X8_pieceUnder lk_RX8_97 im_X8_pieceUnder se_X8_pieceUnder (by decide) y0 (show k < fnx σ by omega) rfl (Nat.le_of_ble_eq_true rfl) (Nat.le_of_ble_eq_true rfl) ?_
    refine t_X8_pieceUnder Gs Gr hD Ys Yr hW (by omega) (fK_i ?_)
    show fEv g _ mX8_partSide 5 [some (.ref k), some (.int (nI s)), some (.int aw), some (.int (nI pt)), some (.int (nI 1)), none, none, none, none, none] [.int (mo (mpc D S s))] σ Q
    refine e_int (nI p) (by rw [hpc]; rfl) ?_
    refine e_istore (L1 := [some (.ref k), some (.int (nI s)), some (.int aw), some (.int (nI pt)), some (.int (nI 1)), some (.int (nI p)), none, none, none, none]) dX8_partSide_5 (by decide) rfl ?_
    refine e_iload dX8_partSide_7 rfl ?_
    refine e_iconst (-1) dX8_partSide_9 (by decide) ?_
    refine e_icmp_ne 15 dX8_partSide_10 (by decide) (fun _ => ?_) (fun c => absurd c (nI_m1 (by omega)))
    refine e_iload_n dX8_partSide_15 rfl rfl ?_
    refine e_iconst (nI 5) dX8_partSide_16 (by decide) ?_
    refine e_imul dX8_partSide_17 ?_
    refine e_int (nI (s * 5)) (pk_mul s 5) ?_
    refine e_istore (L1 := [some (.ref k), some (.int (nI s)), some (.int aw), some (.int (nI pt)), some (.int (nI 1)), some (.int (nI p)), some (.int (nI (s * 5))), none, none, none]) dX8_partSide_18 (by decide) rfl ?_
    refine e_aload_n dX8_partSide_20 rfl rfl ?_
    refine e_getR (q := q) dX8_partSide_21 fl_RX8_56 y0 (show k < fnx σ by omega) rfl yr0 (by unfold fscr; omega) ?_
    refine e_getR (q := q + 2) dX8_partSide_24 fl_RX8_71 g0 (show q < fnx σ by omega) rfl gr1 (by unfold fscr; omega) ?_
    refine e_iload dX8_partSide_27 rfl ?_
    refine e_iconst (nI 1) dX8_partSide_29 (by decide) ?_
    refine e_iadd dX8_partSide_30 ?_
    refine e_int (nI (s * 5 + 1)) (nI_add (s * 5) 1) ?_
    refine e_iaload (s * 5 + 1) dX8_partSide_31 g2 (show q + 2 < fnx σ by omega) rfl (by omega) (by decide) ?_
    refine e_int (nI 1) ((Gr.2.2.1 s (by omega) 1 (by decide)).trans (by rw [wy])) ?_
    refine e_if_ne 39 dX8_partSide_32 (by decide) (fun _ => ?_) (fun c => absurd c (by decide))
    refine e_iconst (nI 0) dX8_partSide_39 (by decide) ?_
    refine e_istore (L1 := [some (.ref k), some (.int (nI s)), some (.int aw), some (.int (nI pt)), some (.int (nI 1)), some (.int (nI p)), some (.int (nI (s * 5))), some (.int (nI 0)), none, none]) dX8_partSide_40 (by decide) rfl ?_
    refine e_iload dX8_partSide_42 rfl ?_
    refine e_iload dX8_partSide_44 rfl ?_
    refine e_icmp_eq 70 dX8_partSide_46 (by decide) (fun c => absurd c (by decide)) (fun _ => ?_)
    refine e_iload dX8_partSide_49 rfl ?_
    refine e_if_eq 63 dX8_partSide_51 (by decide) (fun c => absurd c (by decide)) (fun _ => ?_)
    refine e_aload_n dX8_partSide_54 rfl rfl ?_
    refine e_iload dX8_partSide_55 rfl ?_
    refine e_callV (k := k) [.int (nI p)] dX8_partSide_57 cc_X8_pieceWide lk_RX8_115 im_X8_pieceWide se_X8_pieceWide (by decide) y0 (show k < fnx σ by omega) rfl (Nat.le_of_ble_eq_true rfl) (Nat.le_of_ble_eq_true rfl) ?_
    refine t_X8_pieceWide hD Ys Yr hW (by omega) (fK_i ?_)
    show fEv g _ mX8_partSide 60 [some (.ref k), some (.int (nI s)), some (.int aw), some (.int (nI pt)), some (.int (nI 1)), some (.int (nI p)), some (.int (nI (s * 5))), some (.int (nI 0)), none, none] [.int (nI (mwd S p))] σ Q
    refine e_goto 69 dX8_partSide_60 (by decide) ?_
    unfold msd at h
    rw [if_neg (by omega)] at h
    exact e_ireturn .int dX8_partSide_69 rfl rfl h
set_option maxRecDepth 20000 in
theorem t_X8_partSide1 {g : fGP} {d : Nat} {σ : fAH} {Q : fRes → fAH → Prop} {k q m : Nat} {D : fSD} {S : Nat → Nat} {sd : Int32} {s ln p pt : Nat} {aw : Int32} (Gs : fGs g σ q) (Gr : fGr σ q D) (hD : fWD D) (Ys : fYs g σ k q) (Yr : fYr σ k D S m sd) (hW : fWS D S) (hs : s < dT D 1) (hl : nI (dS D s 2) + aw = nI ln) (hl9 : ln < 1000) (hpc : mpc D S s = some p) (hin : mins D S s p ln = true) (hpt : pt ≤ 1) (h : Q (.inl (some (.int (nI (msd D S s p ln pt 1))))) σ) : fEv g (d + 1) mX8_partSide 0 (fent [.ref k, .int (nI s), .int aw, .int (nI pt), .int (nI 0)] 10) [] σ Q := by
  obtain ⟨⟨g0, g1, g2, g3, g4, g5⟩, ⟨gn, gK⟩, ⟨gr0, gr1, gr2, gr3, gr4⟩⟩ := id Gs
  obtain ⟨⟨y0, y1, y2, y3, y4, y5, y6⟩, ⟨yn, yK⟩, ⟨yr0, yr1, yr2, yr3, yr4, yr5, yr6⟩⟩ := id Ys
  obtain ⟨t0, t1, t2, t3, t4, t5, t6⟩ := id hD.1
  obtain ⟨s0, s1, s2, s3, s4, s5, s6⟩ := hD.2.2.1 s hs
  have sb := hD.s2 hs
  have np := hW.n hD
  have hp := (mpc_lt hpc).1
  obtain ⟨p0, p1, p2, p3, p4, p5⟩ := hW.2.1 p hp
  have hin := of_decide_eq_true hin
  show fEv g (d + 1) mX8_partSide 0 [some (.ref k), some (.int (nI s)), some (.int aw), some (.int (nI pt)), some (.int (nI 0)), none, none, none, none, none] [] σ Q
  rcases (show dS D s 1 = 0 ∨ dS D s 1 = 1 by omega) with wy | wy <;> rw [wy] at hin
  · have hin : S (p * 6 + 1) < ln ∧ ln < S (p * 6 + 2) := hin
    refine e_aload_n dX8_partSide_0 rfl rfl ?_
    refine e_iload_n dX8_partSide_1 rfl rfl ?_
    refine e_callV (k := k) [.int (nI s)] dX8_partSide_2 cc_X8_pieceUnder lk_RX8_97 im_X8_pieceUnder se_X8_pieceUnder (by decide) y0 (show k < fnx σ by omega) rfl (Nat.le_of_ble_eq_true rfl) (Nat.le_of_ble_eq_true rfl) ?_
    refine t_X8_pieceUnder Gs Gr hD Ys Yr hW (by omega) (fK_i ?_)
    show fEv g _ mX8_partSide 5 [some (.ref k), some (.int (nI s)), some (.int aw), some (.int (nI pt)), some (.int (nI 0)), none, none, none, none, none] [.int (mo (mpc D S s))] σ Q
    refine e_int (nI p) (by rw [hpc]; rfl) ?_
    refine e_istore (L1 := [some (.ref k), some (.int (nI s)), some (.int aw), some (.int (nI pt)), some (.int (nI 0)), some (.int (nI p)), none, none, none, none]) dX8_partSide_5 (by decide) rfl ?_
    refine e_iload dX8_partSide_7 rfl ?_
    refine e_iconst (-1) dX8_partSide_9 (by decide) ?_
    refine e_icmp_ne 15 dX8_partSide_10 (by decide) (fun _ => ?_) (fun c => absurd c (nI_m1 (by omega)))
    refine e_iload_n dX8_partSide_15 rfl rfl ?_
    refine e_iconst (nI 5) dX8_partSide_16 (by decide) ?_
    refine e_imul dX8_partSide_17 ?_
    refine e_int (nI (s * 5)) (pk_mul s 5) ?_
    refine e_istore (L1 := [some (.ref k), some (.int (nI s)), some (.int aw), some (.int (nI pt)), some (.int (nI 0)), some (.int (nI p)), some (.int (nI (s * 5))), none, none, none]) dX8_partSide_18 (by decide) rfl ?_
    refine e_aload_n dX8_partSide_20 rfl rfl ?_
    refine e_getR (q := q) dX8_partSide_21 fl_RX8_56 y0 (show k < fnx σ by omega) rfl yr0 (by unfold fscr; omega) ?_
    refine e_getR (q := q + 2) dX8_partSide_24 fl_RX8_71 g0 (show q < fnx σ by omega) rfl gr1 (by unfold fscr; omega) ?_
    refine e_iload dX8_partSide_27 rfl ?_
    refine e_iconst (nI 1) dX8_partSide_29 (by decide) ?_
    refine e_iadd dX8_partSide_30 ?_
    refine e_int (nI (s * 5 + 1)) (nI_add (s * 5) 1) ?_
    refine e_iaload (s * 5 + 1) dX8_partSide_31 g2 (show q + 2 < fnx σ by omega) rfl (by omega) (by decide) ?_
    refine e_int (nI 0) ((Gr.2.2.1 s (by omega) 1 (by decide)).trans (by rw [wy])) ?_
    refine e_if_ne 39 dX8_partSide_32 (by decide) (fun c => absurd c (by decide)) (fun _ => ?_)
    refine e_iconst (nI 1) dX8_partSide_35 (by decide) ?_
    refine e_goto 40 dX8_partSide_36 (by decide) ?_
    refine e_istore (L1 := [some (.ref k), some (.int (nI s)), some (.int aw), some (.int (nI pt)), some (.int (nI 0)), some (.int (nI p)), some (.int (nI (s * 5))), some (.int (nI 1)), none, none]) dX8_partSide_40 (by decide) rfl ?_
    refine e_iload dX8_partSide_42 rfl ?_
    refine e_iload dX8_partSide_44 rfl ?_
    refine e_icmp_eq 70 dX8_partSide_46 (by decide) (fun c => absurd c (by decide)) (fun _ => ?_)
    refine e_iload dX8_partSide_49 rfl ?_
    refine e_if_eq 63 dX8_partSide_51 (by decide) (fun _ => ?_) (fun c => absurd c (by decide))
    refine e_aload_n dX8_partSide_63 rfl rfl ?_
    refine e_iload dX8_partSide_64 rfl ?_
    refine e_callV (k := k) [.int (nI p)] dX8_partSide_66 cc_X8_pieceHigh lk_RX8_118 im_X8_pieceHigh se_X8_pieceHigh (by decide) y0 (show k < fnx σ by omega) rfl (Nat.le_of_ble_eq_true rfl) (Nat.le_of_ble_eq_true rfl) ?_
    refine t_X8_pieceHigh hD Ys Yr hW (by omega) (fK_i ?_)
    show fEv g _ mX8_partSide 69 [some (.ref k), some (.int (nI s)), some (.int aw), some (.int (nI pt)), some (.int (nI 0)), some (.int (nI p)), some (.int (nI (s * 5))), some (.int (nI 1)), none, none] [.int (nI (mhg S p))] σ Q
    unfold msd at h
    rw [if_neg (by omega)] at h
    exact e_ireturn .int dX8_partSide_69 rfl rfl h
  · have hin : S (p * 6 + 3) < ln ∧ ln < S (p * 6 + 4) := hin
    refine e_aload_n dX8_partSide_0 rfl rfl ?_
    refine e_iload_n dX8_partSide_1 rfl rfl ?_
    refine e_callV (k := k) [.int (nI s)] dX8_partSide_2 cc_X8_pieceUnder lk_RX8_97 im_X8_pieceUnder se_X8_pieceUnder (by decide) y0 (show k < fnx σ by omega) rfl (Nat.le_of_ble_eq_true rfl) (Nat.le_of_ble_eq_true rfl) ?_
    refine t_X8_pieceUnder Gs Gr hD Ys Yr hW (by omega) (fK_i ?_)
    show fEv g _ mX8_partSide 5 [some (.ref k), some (.int (nI s)), some (.int aw), some (.int (nI pt)), some (.int (nI 0)), none, none, none, none, none] [.int (mo (mpc D S s))] σ Q
    refine e_int (nI p) (by rw [hpc]; rfl) ?_
    refine e_istore (L1 := [some (.ref k), some (.int (nI s)), some (.int aw), some (.int (nI pt)), some (.int (nI 0)), some (.int (nI p)), none, none, none, none]) dX8_partSide_5 (by decide) rfl ?_
    refine e_iload dX8_partSide_7 rfl ?_
    refine e_iconst (-1) dX8_partSide_9 (by decide) ?_
    refine e_icmp_ne 15 dX8_partSide_10 (by decide) (fun _ => ?_) (fun c => absurd c (nI_m1 (by omega)))
    refine e_iload_n dX8_partSide_15 rfl rfl ?_
    refine e_iconst (nI 5) dX8_partSide_16 (by decide) ?_
    refine e_imul dX8_partSide_17 ?_
    refine e_int (nI (s * 5)) (pk_mul s 5) ?_
    refine e_istore (L1 := [some (.ref k), some (.int (nI s)), some (.int aw), some (.int (nI pt)), some (.int (nI 0)), some (.int (nI p)), some (.int (nI (s * 5))), none, none, none]) dX8_partSide_18 (by decide) rfl ?_
    refine e_aload_n dX8_partSide_20 rfl rfl ?_
    refine e_getR (q := q) dX8_partSide_21 fl_RX8_56 y0 (show k < fnx σ by omega) rfl yr0 (by unfold fscr; omega) ?_
    refine e_getR (q := q + 2) dX8_partSide_24 fl_RX8_71 g0 (show q < fnx σ by omega) rfl gr1 (by unfold fscr; omega) ?_
    refine e_iload dX8_partSide_27 rfl ?_
    refine e_iconst (nI 1) dX8_partSide_29 (by decide) ?_
    refine e_iadd dX8_partSide_30 ?_
    refine e_int (nI (s * 5 + 1)) (nI_add (s * 5) 1) ?_
    refine e_iaload (s * 5 + 1) dX8_partSide_31 g2 (show q + 2 < fnx σ by omega) rfl (by omega) (by decide) ?_
    refine e_int (nI 1) ((Gr.2.2.1 s (by omega) 1 (by decide)).trans (by rw [wy])) ?_
    refine e_if_ne 39 dX8_partSide_32 (by decide) (fun _ => ?_) (fun c => absurd c (by decide))
    refine e_iconst (nI 0) dX8_partSide_39 (by decide) ?_
    refine e_istore (L1 := [some (.ref k), some (.int (nI s)), some (.int aw), some (.int (nI pt)), some (.int (nI 0)), some (.int (nI p)), some (.int (nI (s * 5))), some (.int (nI 0)), none, none]) dX8_partSide_40 (by decide) rfl ?_
    refine e_iload dX8_partSide_42 rfl ?_
    refine e_iload dX8_partSide_44 rfl ?_
    refine e_icmp_eq 70 dX8_partSide_46 (by decide) (fun _ => ?_) (fun c => absurd c (by decide))
    refine e_aload_n dX8_partSide_70 rfl rfl ?_
    refine e_iload dX8_partSide_71 rfl ?_
    refine e_iload_n dX8_partSide_73 rfl rfl ?_
    refine e_callV (k := k) [.int (nI p), .int (nI s)] dX8_partSide_74 cc_X8_lowEdge lk_RX8_93 im_X8_lowEdge se_X8_lowEdge (by decide) y0 (show k < fnx σ by omega) rfl (Nat.le_of_ble_eq_true rfl) (Nat.le_of_ble_eq_true rfl) ?_
    refine t_X8_lowEdge Gs Gr hD Ys (by omega) (by omega) (fK_i ?_)
    show fEv g _ mX8_partSide 77 [some (.ref k), some (.int (nI s)), some (.int aw), some (.int (nI pt)), some (.int (nI 0)), some (.int (nI p)), some (.int (nI (s * 5))), some (.int (nI 0)), none, none] [.int (nI (p * 6 + (1 + 2 * dS D s 1)))] σ Q
    refine e_int (nI (p * 6 + 3)) (by rw [wy]) ?_
    refine e_istore (L1 := [some (.ref k), some (.int (nI s)), some (.int aw), some (.int (nI pt)), some (.int (nI 0)), some (.int (nI p)), some (.int (nI (s * 5))), some (.int (nI 0)), some (.int (nI (p * 6 + 3))), none]) dX8_partSide_77 (by decide) rfl ?_
    refine e_aload_n dX8_partSide_79 rfl rfl ?_
    refine e_getR (q := q) dX8_partSide_80 fl_RX8_56 y0 (show k < fnx σ by omega) rfl yr0 (by unfold fscr; omega) ?_
    refine e_getR (q := q + 2) dX8_partSide_83 fl_RX8_71 g0 (show q < fnx σ by omega) rfl gr1 (by unfold fscr; omega) ?_
    refine e_iload dX8_partSide_86 rfl ?_
    refine e_iconst (nI 2) dX8_partSide_88 (by decide) ?_
    refine e_iadd dX8_partSide_89 ?_
    refine e_int (nI (s * 5 + 2)) (nI_add (s * 5) 2) ?_
    refine e_iaload (s * 5 + 2) dX8_partSide_90 g2 (show q + 2 < fnx σ by omega) rfl (by omega) (by decide) ?_
    refine e_int (nI (dS D s 2)) (Gr.2.2.1 s (by omega) 2 (by decide)) ?_
    refine e_iload_n dX8_partSide_91 rfl rfl ?_
    refine e_iadd dX8_partSide_92 ?_
    refine e_int (nI ln) hl ?_
    refine e_istore (L1 := [some (.ref k), some (.int (nI s)), some (.int aw), some (.int (nI pt)), some (.int (nI 0)), some (.int (nI p)), some (.int (nI (s * 5))), some (.int (nI 0)), some (.int (nI (p * 6 + 3))), some (.int (nI ln))]) dX8_partSide_93 (by decide) rfl ?_
    refine e_iload_n dX8_partSide_95 rfl rfl ?_
    refine e_if_ne 112 dX8_partSide_96 (by decide) (fun c96 => ?_) (fun c96 => ?_)
    · rw [nI_z (by omega)] at c96
      refine e_aload_n dX8_partSide_112 rfl rfl ?_
      refine e_getR (q := k + 1) dX8_partSide_113 fl_RX8_9 y0 (show k < fnx σ by omega) rfl yr1 (by unfold fscr; omega) ?_
      refine e_iload dX8_partSide_116 rfl ?_
      refine e_iconst (nI 1) dX8_partSide_118 (by decide) ?_
      refine e_iadd dX8_partSide_119 ?_
      refine e_int (nI (p * 6 + 4)) (nI_add (p * 6 + 3) 1) ?_
      refine e_iaload (p * 6 + 4) dX8_partSide_120 y1 (show k + 1 < fnx σ by omega) rfl (by omega) (by decide) ?_
      refine e_int (nI (S (p * 6 + 4))) (Yr.2.1 p (by omega) 4 (by decide)) ?_
      refine e_iload dX8_partSide_121 rfl ?_
      refine e_isub dX8_partSide_123 ?_
      refine e_int (nI ((S (p * 6 + 4)) - ln)) (pk_sub (by omega)) ?_
      unfold msd at h
      rw [if_pos (by omega), if_neg (by omega)] at h
      exact e_ireturn .int dX8_partSide_124 rfl rfl h
    · rw [nI_z (by omega)] at c96
      refine e_iload dX8_partSide_99 rfl ?_
      refine e_aload_n dX8_partSide_101 rfl rfl ?_
      refine e_getR (q := k + 1) dX8_partSide_102 fl_RX8_9 y0 (show k < fnx σ by omega) rfl yr1 (by unfold fscr; omega) ?_
      refine e_iload dX8_partSide_105 rfl ?_
      refine e_iaload (p * 6 + 3) dX8_partSide_107 y1 (show k + 1 < fnx σ by omega) rfl (by omega) (by decide) ?_
      refine e_int (nI (S (p * 6 + 3))) (Yr.2.1 p (by omega) 3 (by decide)) ?_
      refine e_isub dX8_partSide_108 ?_
      refine e_int (nI (ln - (S (p * 6 + 3)))) (pk_sub (by omega)) ?_
      refine e_goto 124 dX8_partSide_109 (by decide) ?_
      unfold msd at h
      rw [if_pos (by omega), if_pos (by omega)] at h
      exact e_ireturn .int dX8_partSide_124 rfl rfl h
set_option maxRecDepth 20000 in
theorem t_X8_partWide {g : fGP} {d : Nat} {σ : fAH} {Q : fRes → fAH → Prop} {k q m : Nat} {D : fSD} {S : Nat → Nat} {sd : Int32} {s ln p pt : Nat} {aw : Int32} (Gs : fGs g σ q) (Gr : fGr σ q D) (hD : fWD D) (Ys : fYs g σ k q) (Yr : fYr σ k D S m sd) (hW : fWS D S) (hs : s < dT D 1) (hl : nI (dS D s 2) + aw = nI ln) (hl9 : ln < 1000) (hpc : mpc D S s = some p) (hin : mins D S s p ln = true) (hpt : pt ≤ 1) (h : Q (.inl (some (.int (nI (msd D S s p ln pt 0))))) σ) : fEv g (d + 2) mX8_partWide 0 (fent [.ref k, .int (nI s), .int aw, .int (nI pt)] 4) [] σ Q := by
  obtain ⟨⟨g0, g1, g2, g3, g4, g5⟩, ⟨gn, gK⟩, ⟨gr0, gr1, gr2, gr3, gr4⟩⟩ := id Gs
  obtain ⟨⟨y0, y1, y2, y3, y4, y5, y6⟩, ⟨yn, yK⟩, ⟨yr0, yr1, yr2, yr3, yr4, yr5, yr6⟩⟩ := id Ys
  show fEv g (d + 2) mX8_partWide 0 [some (.ref k), some (.int (nI s)), some (.int aw), some (.int (nI pt))] [] σ Q
  refine e_aload_n dX8_partWide_0 rfl rfl ?_
  refine e_iload_n dX8_partWide_1 rfl rfl ?_
  refine e_iload_n dX8_partWide_2 rfl rfl ?_
  refine e_iload_n dX8_partWide_3 rfl rfl ?_
  refine e_iconst (nI 1) dX8_partWide_4 (by decide) ?_
  refine e_callV (k := k) [.int (nI s), .int aw, .int (nI pt), .int (nI 1)] dX8_partWide_5 cc_X8_partSide lk_RX8_111 im_X8_partSide se_X8_partSide (by decide) y0 (show k < fnx σ by omega) rfl (Nat.le_of_ble_eq_true rfl) (Nat.le_of_ble_eq_true rfl) ?_
  refine t_X8_partSide0 Gs Gr hD Ys Yr hW hs hl hl9 hpc hin hpt (fK_i ?_)
  show fEv g _ mX8_partWide 8 [some (.ref k), some (.int (nI s)), some (.int aw), some (.int (nI pt))] [.int (nI (msd D S s p ln pt 0))] σ Q
  exact e_ireturn .int dX8_partWide_8 rfl rfl (h)
set_option maxRecDepth 20000 in
theorem t_X8_partHigh {g : fGP} {d : Nat} {σ : fAH} {Q : fRes → fAH → Prop} {k q m : Nat} {D : fSD} {S : Nat → Nat} {sd : Int32} {s ln p pt : Nat} {aw : Int32} (Gs : fGs g σ q) (Gr : fGr σ q D) (hD : fWD D) (Ys : fYs g σ k q) (Yr : fYr σ k D S m sd) (hW : fWS D S) (hs : s < dT D 1) (hl : nI (dS D s 2) + aw = nI ln) (hl9 : ln < 1000) (hpc : mpc D S s = some p) (hin : mins D S s p ln = true) (hpt : pt ≤ 1) (h : Q (.inl (some (.int (nI (msd D S s p ln pt 1))))) σ) : fEv g (d + 2) mX8_partHigh 0 (fent [.ref k, .int (nI s), .int aw, .int (nI pt)] 4) [] σ Q := by
  obtain ⟨⟨g0, g1, g2, g3, g4, g5⟩, ⟨gn, gK⟩, ⟨gr0, gr1, gr2, gr3, gr4⟩⟩ := id Gs
  obtain ⟨⟨y0, y1, y2, y3, y4, y5, y6⟩, ⟨yn, yK⟩, ⟨yr0, yr1, yr2, yr3, yr4, yr5, yr6⟩⟩ := id Ys
  show fEv g (d + 2) mX8_partHigh 0 [some (.ref k), some (.int (nI s)), some (.int aw), some (.int (nI pt))] [] σ Q
  refine e_aload_n dX8_partHigh_0 rfl rfl ?_
  refine e_iload_n dX8_partHigh_1 rfl rfl ?_
  refine e_iload_n dX8_partHigh_2 rfl rfl ?_
  refine e_iload_n dX8_partHigh_3 rfl rfl ?_
  refine e_iconst (nI 0) dX8_partHigh_4 (by decide) ?_
  refine e_callV (k := k) [.int (nI s), .int aw, .int (nI pt), .int (nI 0)] dX8_partHigh_5 cc_X8_partSide lk_RX8_111 im_X8_partSide se_X8_partSide (by decide) y0 (show k < fnx σ by omega) rfl (Nat.le_of_ble_eq_true rfl) (Nat.le_of_ble_eq_true rfl) ?_
  refine t_X8_partSide1 Gs Gr hD Ys Yr hW hs hl hl9 hpc hin hpt (fK_i ?_)
  show fEv g _ mX8_partHigh 8 [some (.ref k), some (.int (nI s)), some (.int aw), some (.int (nI pt))] [.int (nI (msd D S s p ln pt 1))] σ Q
  exact e_ireturn .int dX8_partHigh_8 rfl rfl (h)
set_option maxRecDepth 20000 in
theorem t_X8_effectOf {g : fGP} {d : Nat} {σ : fAH} {Q : fRes → fAH → Prop} {k q m : Nat} {D : fSD} {S : Nat → Nat} {sd : Int32} {s c9 : Nat} (Gs : fGs g σ q) (Gr : fGr σ q D) (hD : fWD D) (Ys : fYs g σ k q) (Yr : fYr σ k D S m sd) (hW : fWS D S) (hs : s < dT D 1) (hc : c9 < 100) (h : Q (.inl (some (.int (nI (meff D S s c9))))) σ) : fEv g (d + 2) mX8_effectOf 0 (fent [.ref k, .int (nI s), .int (nI c9)] 4) [] σ Q := by
  obtain ⟨⟨g0, g1, g2, g3, g4, g5⟩, ⟨gn, gK⟩, ⟨gr0, gr1, gr2, gr3, gr4⟩⟩ := id Gs
  obtain ⟨⟨y0, y1, y2, y3, y4, y5, y6⟩, ⟨yn, yK⟩, ⟨yr0, yr1, yr2, yr3, yr4, yr5, yr6⟩⟩ := id Ys
  have nd := mneed_le D S s
  show fEv g (d + 2) mX8_effectOf 0 [some (.ref k), some (.int (nI s)), some (.int (nI c9)), none] [] σ Q
  refine e_aload_n dX8_effectOf_0 rfl rfl ?_
  refine e_iload_n dX8_effectOf_1 rfl rfl ?_
  refine e_callV (k := k) [.int (nI s)] dX8_effectOf_2 cc_X8_needOf lk_RX8_134 im_X8_needOf se_X8_needOf (by decide) y0 (show k < fnx σ by omega) rfl (Nat.le_of_ble_eq_true rfl) (Nat.le_of_ble_eq_true rfl) ?_
  refine t_X8_needOf Gs Gr hD Ys Yr hW (by omega) (fK_i ?_)
  show fEv g _ mX8_effectOf 5 [some (.ref k), some (.int (nI s)), some (.int (nI c9)), none] [.int (nI (mneed D S s))] σ Q
  refine e_istore_n (L1 := [some (.ref k), some (.int (nI s)), some (.int (nI c9)), some (.int (nI (mneed D S s)))]) dX8_effectOf_5 rfl (by decide) rfl ?_
  refine e_iload_n dX8_effectOf_6 rfl rfl ?_
  refine e_iload_n dX8_effectOf_7 rfl rfl ?_
  refine e_icmp_ge 21 dX8_effectOf_8 (by decide) (fun c8 => ?_) (fun c8 => ?_)
  · rw [nI_le' (by omega) (by omega)] at c8
    refine e_aload_n dX8_effectOf_21 rfl rfl ?_
    refine e_getR (q := q) dX8_effectOf_22 fl_RX8_56 y0 (show k < fnx σ by omega) rfl yr0 (by unfold fscr; omega) ?_
    refine e_iload_n dX8_effectOf_25 rfl rfl ?_
    refine e_callV (k := q) [.int (nI s)] dX8_effectOf_26 cc_X3_isAcrossGrain lk_RX8_89 im_X3_isAcrossGrain se_X3_isAcrossGrain (by decide) g0 (show q < fnx σ by omega) rfl (Nat.le_of_ble_eq_true rfl) (Nat.le_of_ble_eq_true rfl) ?_
    refine t_X3_isAcrossGrain Gs Gr hD (by omega) (fK_i ?_)
    show fEv g _ mX8_effectOf 29 [some (.ref k), some (.int (nI s)), some (.int (nI c9)), some (.int (nI (mneed D S s)))] [.int (nI (bn (macr D s)))] σ Q
    refine e_if_eq 43 dX8_effectOf_29 (by decide) (fun c29 => ?_) (fun c29 => ?_)
    · have c29 := bn0 c29
      refine e_iconst (nI 3) dX8_effectOf_43 (by decide) ?_
      have hm : meff D S s c9 = 3 := by
        unfold meff
        rw [if_neg (by omega), if_neg (by unfold mstr; first | (rw [c29]; exact Bool.false_ne_true) | (rw [c29, decide_eq_false (show ¬ c9 < mneed D S s + 2 by omega)]; exact Bool.false_ne_true))]
      rw [hm] at h
      exact e_ireturn .int dX8_effectOf_44 rfl rfl h
    · have c29 := bn1 c29
      refine e_iload_n dX8_effectOf_32 rfl rfl ?_
      refine e_iload_n dX8_effectOf_33 rfl rfl ?_
      refine e_iconst (nI 2) dX8_effectOf_34 (by decide) ?_
      refine e_iadd dX8_effectOf_35 ?_
      refine e_int (nI (mneed D S s + 2)) (nI_add (mneed D S s) 2) ?_
      refine e_icmp_ge 43 dX8_effectOf_36 (by decide) (fun c36 => ?_) (fun c36 => ?_)
      · rw [nI_le' (by omega) (by omega)] at c36
        refine e_iconst (nI 3) dX8_effectOf_43 (by decide) ?_
        have hm : meff D S s c9 = 3 := by
          unfold meff
          rw [if_neg (by omega), if_neg (by unfold mstr; first | (rw [c29]; exact Bool.false_ne_true) | (rw [c29, decide_eq_false (show ¬ c9 < mneed D S s + 2 by omega)]; exact Bool.false_ne_true))]
        rw [hm] at h
        exact e_ireturn .int dX8_effectOf_44 rfl rfl h
      · rw [nI_le' (by omega) (by omega)] at c36
        refine e_iconst (nI 2) dX8_effectOf_39 (by decide) ?_
        refine e_goto 44 dX8_effectOf_40 (by decide) ?_
        have hm : meff D S s c9 = 2 := by
          unfold meff
          rw [if_neg (by omega), if_pos (by unfold mstr; rw [c29, decide_eq_true (show c9 < mneed D S s + 2 by omega)]; rfl)]
        rw [hm] at h
        exact e_ireturn .int dX8_effectOf_44 rfl rfl h
  · rw [nI_le' (by omega) (by omega)] at c8
    refine e_iload_n dX8_effectOf_11 rfl rfl ?_
    refine e_if_ne 19 dX8_effectOf_12 (by decide) (fun c12 => ?_) (fun c12 => ?_)
    · rw [nI_z (by omega)] at c12
      refine e_iconst (nI 1) dX8_effectOf_19 (by decide) ?_
      have hm : meff D S s c9 = 1 := by
        unfold meff
        rw [if_pos (by omega), if_neg (by omega)]
      rw [hm] at h
      exact e_ireturn .int dX8_effectOf_20 rfl rfl h
    · rw [nI_z (by omega)] at c12
      refine e_iconst (nI 0) dX8_effectOf_15 (by decide) ?_
      refine e_goto 20 dX8_effectOf_16 (by decide) ?_
      have hm : meff D S s c9 = 0 := by
        unfold meff
        rw [if_pos (by omega), if_pos (by omega)]
      rw [hm] at h
      exact e_ireturn .int dX8_effectOf_20 rfl rfl h
set_option maxRecDepth 20000 in
theorem l_X8_actAlike {g : fGP} {d : Nat} {σ : fAH} {Q : fRes → fAH → Prop} {k q m : Nat} {D : fSD} {S : Nat → Nat} {sd : Int32} {fl c9 c8 : Nat} (Gs : fGs g σ q) (Gr : fGr σ q D) (hD : fWD D) (Ys : fYs g σ k q) (Yr : fYr σ k D S m sd) (hW : fWS D S) (hf : fl < 4096) (hc : c9 < 100) (hc8 : c8 < 100) : ∀ (n i : Nat), i + n = dT D 1 → Q (.inl (some (.int (nI (bn (mak D S fl c9 c8 n i)))))) σ → fEv g (d + 3) mX8_actAlike 3 [some (.ref k), some (.int (nI fl)), some (.int (nI c9)), some (.int (nI c8)), some (.int (nI i))] [] σ Q := by
  obtain ⟨⟨g0, g1, g2, g3, g4, g5⟩, ⟨gn, gK⟩, ⟨gr0, gr1, gr2, gr3, gr4⟩⟩ := id Gs
  obtain ⟨⟨y0, y1, y2, y3, y4, y5, y6⟩, ⟨yn, yK⟩, ⟨yr0, yr1, yr2, yr3, yr4, yr5, yr6⟩⟩ := id Ys
  obtain ⟨t0, t1, t2, t3, t4, t5, t6⟩ := id hD.1
  intro n
  induction n with
  | zero =>
    intro i  hin  h
    refine e_iload dX8_actAlike_3 rfl ?_
    refine e_aload_n dX8_actAlike_5 rfl rfl ?_
    refine e_getR (q := q) dX8_actAlike_6 fl_RX8_56 y0 (show k < fnx σ by omega) rfl yr0 (by unfold fscr; omega) ?_
    refine e_getI dX8_actAlike_9 fl_RX8_68 g0 (show q < fnx σ by omega) rfl ?_
    refine e_int (nI (dT D 1)) Gr.1.2.1 ?_
    refine e_icmp_ge 57 dX8_actAlike_12 (by decide) (fun cz => ?_) (fun cz => absurd ((nI_le' (by omega) (by omega)).mpr (by omega)) cz)
    refine e_iconst (nI 1) dX8_actAlike_57 (by decide) ?_
    exact e_ireturn .boolean dX8_actAlike_58 rfl (by decide) (h)
  | succ n ih =>
    intro i  hin  h
    have hi : i < dT D 1 := by omega
    have dv : fl / 2 ^ i < 4096 := Nat.lt_of_le_of_lt (Nat.div_le_self _ _) (by omega)
    have dl := d2 (b := fl) (i := i)
    have e1 := meff_le D S i c9
    have e2 := meff_le D S i c8
    refine e_iload dX8_actAlike_3 rfl ?_
    refine e_aload_n dX8_actAlike_5 rfl rfl ?_
    refine e_getR (q := q) dX8_actAlike_6 fl_RX8_56 y0 (show k < fnx σ by omega) rfl yr0 (by unfold fscr; omega) ?_
    refine e_getI dX8_actAlike_9 fl_RX8_68 g0 (show q < fnx σ by omega) rfl ?_
    refine e_int (nI (dT D 1)) Gr.1.2.1 ?_
    refine e_icmp_ge 57 dX8_actAlike_12 (by decide) (fun cz => absurd ((nI_le' (by omega) (by omega)).mp cz) (by omega)) (fun cz => ?_)
    refine e_iload_n dX8_actAlike_15 rfl rfl ?_
    refine e_iload dX8_actAlike_16 rfl ?_
    refine e_ishr dX8_actAlike_18 ?_
    refine e_int (nI (fl / 2 ^ i)) (nI_shr (by omega) (by omega)) ?_
    refine e_if_eq 57 dX8_actAlike_19 (by decide) (fun c19 => ?_) (fun c19 => ?_)
    · rw [nI_z (by omega)] at c19
      refine e_iconst (nI 1) dX8_actAlike_57 (by decide) ?_
      have hm : mak D S fl c9 c8 (n + 1) i = true := mak_0 c19
      rw [hm] at h
      exact e_ireturn .boolean dX8_actAlike_58 rfl (by decide) h
    · rw [nI_z (by omega)] at c19
      refine e_iload_n dX8_actAlike_22 rfl rfl ?_
      refine e_iload dX8_actAlike_23 rfl ?_
      refine e_ishr dX8_actAlike_25 ?_
      refine e_int (nI (fl / 2 ^ i)) (nI_shr (by omega) (by omega)) ?_
      refine e_iconst (nI 1) dX8_actAlike_26 (by decide) ?_
      refine e_iand dX8_actAlike_27 ?_
      refine e_int (nI (fl / 2 ^ i % 2)) (nI_and1 (by omega)) ?_
      refine e_iconst (nI 1) dX8_actAlike_28 (by decide) ?_
      refine e_icmp_ne 51 dX8_actAlike_29 (by decide) (fun c29 => ?_) (fun c29 => ?_)
      · rw [nI_inj (by omega) (by omega)] at c29
        refine e_iinc (v := nI (i + 1)) (L1 := [some (.ref k), some (.int (nI fl)), some (.int (nI c9)), some (.int (nI c8)), some (.int (nI (i + 1)))]) dX8_actAlike_51 rfl (show nI i + Int32.ofInt 1 = nI (i + 1) from nI_add i 1) (by decide) rfl ?_
        refine e_goto 3 dX8_actAlike_54 (by decide) ?_
        refine ih (i + 1) (by omega) ?_
        have hm : mak D S fl c9 c8 (n + 1) i = mak D S fl c9 c8 n (i + 1) := by rw [mak, if_neg (by omega)]
        rw [hm] at h
        exact h
      · rw [nI_inj (by omega) (by omega)] at c29
        refine e_aload_n dX8_actAlike_32 rfl rfl ?_
        refine e_iload dX8_actAlike_33 rfl ?_
        refine e_iload_n dX8_actAlike_35 rfl rfl ?_
        refine e_callV (k := k) [.int (nI i), .int (nI c9)] dX8_actAlike_36 cc_X8_effectOf lk_RX8_131 im_X8_effectOf se_X8_effectOf (by decide) y0 (show k < fnx σ by omega) rfl (Nat.le_of_ble_eq_true rfl) (Nat.le_of_ble_eq_true rfl) ?_
        refine t_X8_effectOf Gs Gr hD Ys Yr hW (by omega) (by omega) (fK_i ?_)
        show fEv g _ mX8_actAlike 39 [some (.ref k), some (.int (nI fl)), some (.int (nI c9)), some (.int (nI c8)), some (.int (nI i))] [.int (nI (meff D S i c9))] σ Q
        refine e_aload_n dX8_actAlike_39 rfl rfl ?_
        refine e_iload dX8_actAlike_40 rfl ?_
        refine e_iload_n dX8_actAlike_42 rfl rfl ?_
        refine e_callV (k := k) [.int (nI i), .int (nI c8)] dX8_actAlike_43 cc_X8_effectOf lk_RX8_131 im_X8_effectOf se_X8_effectOf (by decide) y0 (show k < fnx σ by omega) rfl (Nat.le_of_ble_eq_true rfl) (Nat.le_of_ble_eq_true rfl) ?_
        refine t_X8_effectOf Gs Gr hD Ys Yr hW (by omega) (by omega) (fK_i ?_)
        show fEv g _ mX8_actAlike 46 [some (.ref k), some (.int (nI fl)), some (.int (nI c9)), some (.int (nI c8)), some (.int (nI i))] [.int (nI (meff D S i c8)), .int (nI (meff D S i c9))] σ Q
        refine e_icmp_eq 51 dX8_actAlike_46 (by decide) (fun c46 => ?_) (fun c46 => ?_)
        · rw [nI_inj (by omega) (by omega)] at c46
          refine e_iinc (v := nI (i + 1)) (L1 := [some (.ref k), some (.int (nI fl)), some (.int (nI c9)), some (.int (nI c8)), some (.int (nI (i + 1)))]) dX8_actAlike_51 rfl (show nI i + Int32.ofInt 1 = nI (i + 1) from nI_add i 1) (by decide) rfl ?_
          refine e_goto 3 dX8_actAlike_54 (by decide) ?_
          refine ih (i + 1) (by omega) ?_
          have hm : mak D S fl c9 c8 (n + 1) i = mak D S fl c9 c8 n (i + 1) := by rw [mak, if_neg (by omega)]
          rw [hm] at h
          exact h
        · rw [nI_inj (by omega) (by omega)] at c46
          refine e_iconst (nI 0) dX8_actAlike_49 (by decide) ?_
          have hm : mak D S fl c9 c8 (n + 1) i = false := by rw [mak, if_pos (by omega)]
          rw [hm] at h
          exact e_ireturn .boolean dX8_actAlike_50 rfl (by decide) h
set_option maxRecDepth 20000 in
theorem t_X8_actAlike {g : fGP} {d : Nat} {σ : fAH} {Q : fRes → fAH → Prop} {k q m : Nat} {D : fSD} {S : Nat → Nat} {sd : Int32} {fl c9 c8 : Nat} (Gs : fGs g σ q) (Gr : fGr σ q D) (hD : fWD D) (Ys : fYs g σ k q) (Yr : fYr σ k D S m sd) (hW : fWS D S) (hf : fl < 4096) (hc : c9 < 100) (hc8 : c8 < 100) (h : Q (.inl (some (.int (nI (bn (mak D S fl c9 c8 (dT D 1) 0)))))) σ) : fEv g (d + 3) mX8_actAlike 0 (fent [.ref k, .int (nI fl), .int (nI c9), .int (nI c8)] 5) [] σ Q := by
  show fEv g (d + 3) mX8_actAlike 0 [some (.ref k), some (.int (nI fl)), some (.int (nI c9)), some (.int (nI c8)), none] [] σ Q
  refine e_iconst (nI 0) dX8_actAlike_0 (by decide) ?_
  refine e_istore (L1 := [some (.ref k), some (.int (nI fl)), some (.int (nI c9)), some (.int (nI c8)), some (.int (nI 0))]) dX8_actAlike_1 (by decide) rfl ?_
  exact l_X8_actAlike Gs Gr hD Ys Yr hW hf hc hc8 (dT D 1) 0 (by omega) h
set_option maxRecDepth 20000 in
theorem l_X8_mayBePaid {g : fGP} {d : Nat} {σ : fAH} {Q : fRes → fAH → Prop} {k q m : Nat} {D : fSD} {S : Nat → Nat} {sd : Int32} (Gs : fGs g σ q) (Gr : fGr σ q D) (hD : fWD D) (Ys : fYs g σ k q) (Yr : fYr σ k D S m sd) (hW : fWS D S) : ∀ (n i : Nat), i + n = dT D 2 → Q (.inl (some (.int (nI (bn (mfd (mopen D S) n i).isSome))))) σ → fEv g (d + 2) mX8_mayBePaid 28 [some (.ref k), some (.int (nI i))] [] σ Q := by
  obtain ⟨⟨g0, g1, g2, g3, g4, g5⟩, ⟨gn, gK⟩, ⟨gr0, gr1, gr2, gr3, gr4⟩⟩ := id Gs
  obtain ⟨⟨y0, y1, y2, y3, y4, y5, y6⟩, ⟨yn, yK⟩, ⟨yr0, yr1, yr2, yr3, yr4, yr5, yr6⟩⟩ := id Ys
  obtain ⟨t0, t1, t2, t3, t4, t5, t6⟩ := id hD.1
  intro n
  induction n with
  | zero =>
    intro i  hin  h
    refine e_iload_n dX8_mayBePaid_28 rfl rfl ?_
    refine e_aload_n dX8_mayBePaid_29 rfl rfl ?_
    refine e_getR (q := q) dX8_mayBePaid_30 fl_RX8_56 y0 (show k < fnx σ by omega) rfl yr0 (by unfold fscr; omega) ?_
    refine e_getI dX8_mayBePaid_33 fl_RX8_171 g0 (show q < fnx σ by omega) rfl ?_
    refine e_int (nI (dT D 2)) Gr.1.2.2.1 ?_
    refine e_icmp_ge 55 dX8_mayBePaid_36 (by decide) (fun cz => ?_) (fun cz => absurd ((nI_le' (by omega) (by omega)).mpr (by omega)) cz)
    refine e_iconst (nI 0) dX8_mayBePaid_55 (by decide) ?_
    exact e_ireturn .boolean dX8_mayBePaid_56 rfl (by decide) (h)
  | succ n ih =>
    intro i  hin  h
    have hi : i < dT D 2 := by omega
    refine e_iload_n dX8_mayBePaid_28 rfl rfl ?_
    refine e_aload_n dX8_mayBePaid_29 rfl rfl ?_
    refine e_getR (q := q) dX8_mayBePaid_30 fl_RX8_56 y0 (show k < fnx σ by omega) rfl yr0 (by unfold fscr; omega) ?_
    refine e_getI dX8_mayBePaid_33 fl_RX8_171 g0 (show q < fnx σ by omega) rfl ?_
    refine e_int (nI (dT D 2)) Gr.1.2.2.1 ?_
    refine e_icmp_ge 55 dX8_mayBePaid_36 (by decide) (fun cz => absurd ((nI_le' (by omega) (by omega)).mp cz) (by omega)) (fun cz => ?_)
    refine e_aload_n dX8_mayBePaid_39 rfl rfl ?_
    refine e_iload_n dX8_mayBePaid_40 rfl rfl ?_
    refine e_callV (k := k) [.int (nI i)] dX8_mayBePaid_41 cc_X8_isOpen lk_RX8_174 im_X8_isOpen se_X8_isOpen (by decide) y0 (show k < fnx σ by omega) rfl (Nat.le_of_ble_eq_true rfl) (Nat.le_of_ble_eq_true rfl) ?_
    refine t_X8_isOpen Gs Gr hD Ys Yr hW (by omega) (fK_i ?_)
    show fEv g _ mX8_mayBePaid 44 [some (.ref k), some (.int (nI i))] [.int (nI (bn (mopen D S i)))] σ Q
    refine e_if_eq 49 dX8_mayBePaid_44 (by decide) (fun c44 => ?_) (fun c44 => ?_)
    · have c44 := bn0 c44
      refine e_iinc (v := nI (i + 1)) (L1 := [some (.ref k), some (.int (nI (i + 1)))]) dX8_mayBePaid_49 rfl (show nI i + Int32.ofInt 1 = nI (i + 1) from nI_add i 1) (by decide) rfl ?_
      refine e_goto 28 dX8_mayBePaid_52 (by decide) ?_
      refine ih (i + 1) (by omega) ?_
      rw [mfd_f c44] at h
      exact h
    · have c44 := bn1 c44
      refine e_iconst (nI 1) dX8_mayBePaid_47 (by decide) ?_
      rw [mfd_t c44] at h
      exact e_ireturn .boolean dX8_mayBePaid_48 rfl (by decide) h
set_option maxRecDepth 20000 in
theorem t_X8_mayBePaid {g : fGP} {d : Nat} {σ : fAH} {Q : fRes → fAH → Prop} {k q m : Nat} {D : fSD} {S : Nat → Nat} {sd : Int32} (Gs : fGs g σ q) (Gr : fGr σ q D) (hD : fWD D) (Ys : fYs g σ k q) (Yr : fYr σ k D S m sd) (hW : fWS D S) (h : Q (.inl (some (.int (nI (bn (mmp D S)))))) σ) : fEv g (d + 2) mX8_mayBePaid 0 (fent [.ref k] 2) [] σ Q := by
  obtain ⟨⟨g0, g1, g2, g3, g4, g5⟩, ⟨gn, gK⟩, ⟨gr0, gr1, gr2, gr3, gr4⟩⟩ := id Gs
  obtain ⟨⟨y0, y1, y2, y3, y4, y5, y6⟩, ⟨yn, yK⟩, ⟨yr0, yr1, yr2, yr3, yr4, yr5, yr6⟩⟩ := id Ys
  obtain ⟨t0, t1, t2, t3, t4, t5, t6⟩ := id hD.1
  have n5 := hW.2.2.2.2
  show fEv g (d + 2) mX8_mayBePaid 0 [some (.ref k), none] [] σ Q
  refine e_aload_n dX8_mayBePaid_0 rfl rfl ?_
  refine e_getI dX8_mayBePaid_1 fl_RX8_41 y0 (show k < fnx σ by omega) rfl ?_
  refine e_int (nI (S 155)) Yr.1.2.2.1 ?_
  refine e_aload_n dX8_mayBePaid_4 rfl rfl ?_
  refine e_getR (q := q) dX8_mayBePaid_5 fl_RX8_56 y0 (show k < fnx σ by omega) rfl yr0 (by unfold fscr; omega) ?_
  refine e_getI dX8_mayBePaid_8 fl_RX8_145 g0 (show q < fnx σ by omega) rfl ?_
  refine e_int (nI (dT D 5)) Gr.1.2.2.2.2.2.2 ?_
  refine e_icmp_ge 24 dX8_mayBePaid_11 (by decide) (fun c11 => ?_) (fun c11 => ?_)
  · rw [nI_le' (by omega) (by omega)] at c11
    refine e_iconst (nI 0) dX8_mayBePaid_24 (by decide) ?_
    have hm : mmp D S = false := by unfold mmp; rw [decide_eq_false (by omega)]; rfl
    rw [hm] at h
    exact e_ireturn .boolean dX8_mayBePaid_25 rfl (by decide) h
  · rw [nI_le' (by omega) (by omega)] at c11
    refine e_aload_n dX8_mayBePaid_14 rfl rfl ?_
    refine e_getR (q := q) dX8_mayBePaid_15 fl_RX8_56 y0 (show k < fnx σ by omega) rfl yr0 (by unfold fscr; omega) ?_
    refine e_getI dX8_mayBePaid_18 fl_RX8_168 g0 (show q < fnx σ by omega) rfl ?_
    refine e_int (nI (dT D 4)) Gr.1.2.2.2.2.2.1 ?_
    refine e_if_ne 26 dX8_mayBePaid_21 (by decide) (fun c21 => ?_) (fun c21 => ?_)
    · rw [nI_z (by omega)] at c21
      refine e_iconst (nI 0) dX8_mayBePaid_26 (by decide) ?_
      refine e_istore_n (L1 := [some (.ref k), some (.int (nI 0))]) dX8_mayBePaid_27 rfl (by decide) rfl ?_
      have hm : mmp D S = (mfd (mopen D S) (dT D 2) 0).isSome := by unfold mmp; rw [decide_eq_true (by omega)]; rfl
      rw [hm] at h
      exact l_X8_mayBePaid Gs Gr hD Ys Yr hW (dT D 2) 0 (by omega) h
    · rw [nI_z (by omega)] at c21
      refine e_iconst (nI 0) dX8_mayBePaid_24 (by decide) ?_
      have hm : mmp D S = false := by unfold mmp; rw [decide_eq_false (by omega)]; rfl
      rw [hm] at h
      exact e_ireturn .boolean dX8_mayBePaid_25 rfl (by decide) h
set_option maxRecDepth 20000 in
theorem l_X8_stone {g : fGP} {d : Nat} {σ : fAH} {Q : fRes → fAH → Prop} {k q m : Nat} {D : fSD} {S : Nat → Nat} {sd : Int32} {b : Bool} (hD : fWD D) (Ys : fYs g σ k q) (Yr : fYr σ k D S m sd) (hW : fWS D S) : ∀ (n i : Nat) (a : Nat), i + n = S 120 → Q (.inl (some (.int (nI (a + msf (mstn S b) n i))))) σ → fEv g (d + 1) mX8_stone 4 [some (.ref k), some (.int (nI (bn b))), some (.int (nI a)), some (.int (nI i))] [] σ Q := by
  obtain ⟨⟨y0, y1, y2, y3, y4, y5, y6⟩, ⟨yn, yK⟩, ⟨yr0, yr1, yr2, yr3, yr4, yr5, yr6⟩⟩ := id Ys
  have np := hW.n hD
  intro n
  induction n with
  | zero =>
    intro i a hin  h
    refine e_iload_n dX8_stone_4 rfl rfl ?_
    refine e_aload_n dX8_stone_5 rfl rfl ?_
    refine e_getI dX8_stone_6 fl_RX8_15 y0 (show k < fnx σ by omega) rfl ?_
    refine e_int (nI (S 120)) Yr.1.1 ?_
    refine e_icmp_ge 41 dX8_stone_9 (by decide) (fun cz => ?_) (fun cz => absurd ((nI_le' (by omega) (by omega)).mpr (by omega)) cz)
    refine e_iload_n dX8_stone_41 rfl rfl ?_
    exact e_ireturn .int dX8_stone_42 rfl rfl (h)
  | succ n ih =>
    intro i a hin  h
    have hi : i < S 120 := by omega
    have b1 := bn_le b
    have b2 := bn_le (decide (S (i * 6 + 5) = 1))
    refine e_iload_n dX8_stone_4 rfl rfl ?_
    refine e_aload_n dX8_stone_5 rfl rfl ?_
    refine e_getI dX8_stone_6 fl_RX8_15 y0 (show k < fnx σ by omega) rfl ?_
    refine e_int (nI (S 120)) Yr.1.1 ?_
    refine e_icmp_ge 41 dX8_stone_9 (by decide) (fun cz => absurd ((nI_le' (by omega) (by omega)).mp cz) (by omega)) (fun cz => ?_)
    refine e_aload_n dX8_stone_12 rfl rfl ?_
    refine e_iload_n dX8_stone_13 rfl rfl ?_
    refine e_callV (k := k) [.int (nI i)] dX8_stone_14 cc_X8_isLying lk_RX8_186 im_X8_isLying se_X8_isLying (by decide) y0 (show k < fnx σ by omega) rfl (Nat.le_of_ble_eq_true rfl) (Nat.le_of_ble_eq_true rfl) ?_
    refine t_X8_isLying hD Ys Yr hW (by omega) (fK_i ?_)
    show fEv g _ mX8_stone 17 [some (.ref k), some (.int (nI (bn b))), some (.int (nI a)), some (.int (nI i))] [.int (nI (bn (decide (S (i * 6 + 5) = 1))))] σ Q
    refine e_iload_n dX8_stone_17 rfl rfl ?_
    refine e_icmp_ne 35 dX8_stone_18 (by decide) (fun c18 => ?_) (fun c18 => ?_)
    · rw [nI_inj (by omega) (by omega)] at c18
      skip
      refine e_iinc (v := nI (i + 1)) (L1 := [some (.ref k), some (.int (nI (bn b))), some (.int (nI a)), some (.int (nI (i + 1)))]) dX8_stone_35 rfl (show nI i + Int32.ofInt 1 = nI (i + 1) from nI_add i 1) (by decide) rfl ?_
      refine e_goto 4 dX8_stone_38 (by decide) ?_
      refine ih (i + 1) a (by omega) ?_
      have hm : mstn S b i = 0 := if_neg (fun e => c18 (congrArg bn e))
      rw [msf, hm, Nat.zero_add] at h
      exact h
    · rw [nI_inj (by omega) (by omega)] at c18
      refine e_iload_n dX8_stone_21 rfl rfl ?_
      refine e_aload_n dX8_stone_22 rfl rfl ?_
      refine e_iload_n dX8_stone_23 rfl rfl ?_
      refine e_callV (k := k) [.int (nI i)] dX8_stone_24 cc_X8_pieceWide lk_RX8_115 im_X8_pieceWide se_X8_pieceWide (by decide) y0 (show k < fnx σ by omega) rfl (Nat.le_of_ble_eq_true rfl) (Nat.le_of_ble_eq_true rfl) ?_
      refine t_X8_pieceWide hD Ys Yr hW (by omega) (fK_i ?_)
      show fEv g _ mX8_stone 27 [some (.ref k), some (.int (nI (bn b))), some (.int (nI a)), some (.int (nI i))] [.int (nI (mwd S i)), .int (nI a)] σ Q
      refine e_aload_n dX8_stone_27 rfl rfl ?_
      refine e_iload_n dX8_stone_28 rfl rfl ?_
      refine e_callV (k := k) [.int (nI i)] dX8_stone_29 cc_X8_pieceHigh lk_RX8_118 im_X8_pieceHigh se_X8_pieceHigh (by decide) y0 (show k < fnx σ by omega) rfl (Nat.le_of_ble_eq_true rfl) (Nat.le_of_ble_eq_true rfl) ?_
      refine t_X8_pieceHigh hD Ys Yr hW (by omega) (fK_i ?_)
      show fEv g _ mX8_stone 32 [some (.ref k), some (.int (nI (bn b))), some (.int (nI a)), some (.int (nI i))] [.int (nI (mhg S i)), .int (nI (mwd S i)), .int (nI a)] σ Q
      refine e_imul dX8_stone_32 ?_
      refine e_int (nI ((mwd S i) * (mhg S i))) (pk_mul (mwd S i) (mhg S i)) ?_
      refine e_iadd dX8_stone_33 ?_
      refine e_int (nI (a + (mwd S i) * (mhg S i))) (nI_add a ((mwd S i) * (mhg S i))) ?_
      refine e_istore_n (L1 := [some (.ref k), some (.int (nI (bn b))), some (.int (nI (a + (mwd S i) * (mhg S i)))), some (.int (nI i))]) dX8_stone_34 rfl (by decide) rfl ?_
      refine e_iinc (v := nI (i + 1)) (L1 := [some (.ref k), some (.int (nI (bn b))), some (.int (nI (a + (mwd S i) * (mhg S i)))), some (.int (nI (i + 1)))]) dX8_stone_35 rfl (show nI i + Int32.ofInt 1 = nI (i + 1) from nI_add i 1) (by decide) rfl ?_
      refine e_goto 4 dX8_stone_38 (by decide) ?_
      refine ih (i + 1) (a + (mwd S i) * (mhg S i)) (by omega) ?_
      have hm : mstn S b i = mwd S i * mhg S i := if_pos (bn_inj c18)
      rw [msf, hm, ← Nat.add_assoc] at h
      exact h
set_option maxRecDepth 20000 in
theorem t_X8_stone {g : fGP} {d : Nat} {σ : fAH} {Q : fRes → fAH → Prop} {k q m : Nat} {D : fSD} {S : Nat → Nat} {sd : Int32} {b : Bool} (hD : fWD D) (Ys : fYs g σ k q) (Yr : fYr σ k D S m sd) (hW : fWS D S) (h : Q (.inl (some (.int (nI (msf (mstn S b) (S 120) 0))))) σ) : fEv g (d + 1) mX8_stone 0 (fent [.ref k, .int (nI (bn b))] 4) [] σ Q := by
  show fEv g (d + 1) mX8_stone 0 [some (.ref k), some (.int (nI (bn b))), none, none] [] σ Q
  refine e_iconst (nI 0) dX8_stone_0 (by decide) ?_
  refine e_istore_n (L1 := [some (.ref k), some (.int (nI (bn b))), some (.int (nI 0)), none]) dX8_stone_1 rfl (by decide) rfl ?_
  refine e_iconst (nI 0) dX8_stone_2 (by decide) ?_
  refine e_istore_n (L1 := [some (.ref k), some (.int (nI (bn b))), some (.int (nI 0)), some (.int (nI 0))]) dX8_stone_3 rfl (by decide) rfl ?_
  exact l_X8_stone hD Ys Yr hW (S 120) 0 0 (by omega) (by rw [Nat.zero_add]; exact h)
set_option maxRecDepth 20000 in
theorem l_X8_unwanted {g : fGP} {d : Nat} {σ : fAH} {Q : fRes → fAH → Prop} {k q m : Nat} {D : fSD} {S : Nat → Nat} {sd : Int32} (Gs : fGs g σ q) (Gr : fGr σ q D) (hD : fWD D) (Ys : fYs g σ k q) (Yr : fYr σ k D S m sd) (hW : fWS D S) : ∀ (n i : Nat) (a : Nat), i + n = S 120 → Q (.inl (some (.int (nI (a + mct (muw D S) n i))))) σ → fEv g (d + 2) mX8_unwanted 4 [some (.ref k), some (.int (nI a)), some (.int (nI i))] [] σ Q := by
  obtain ⟨⟨g0, g1, g2, g3, g4, g5⟩, ⟨gn, gK⟩, ⟨gr0, gr1, gr2, gr3, gr4⟩⟩ := id Gs
  obtain ⟨⟨y0, y1, y2, y3, y4, y5, y6⟩, ⟨yn, yK⟩, ⟨yr0, yr1, yr2, yr3, yr4, yr5, yr6⟩⟩ := id Ys
  obtain ⟨t0, t1, t2, t3, t4, t5, t6⟩ := id hD.1
  have np := hW.n hD
  intro n
  induction n with
  | zero =>
    intro i a hin  h
    refine e_iload_n dX8_unwanted_4 rfl rfl ?_
    refine e_aload_n dX8_unwanted_5 rfl rfl ?_
    refine e_getI dX8_unwanted_6 fl_RX8_15 y0 (show k < fnx σ by omega) rfl ?_
    refine e_int (nI (S 120)) Yr.1.1 ?_
    refine e_icmp_ge 50 dX8_unwanted_9 (by decide) (fun cz => ?_) (fun cz => absurd ((nI_le' (by omega) (by omega)).mpr (by omega)) cz)
    refine e_iload_n dX8_unwanted_50 rfl rfl ?_
    exact e_ireturn .int dX8_unwanted_51 rfl rfl (h)
  | succ n ih =>
    intro i a hin  h
    have hi : i < S 120 := by omega
    obtain ⟨p0, p1, p2, p3, p4, p5⟩ := hW.2.1 i hi
    have w1 : mwd S i ≤ 12 := by unfold mwd; omega
    have w2 : mhg S i ≤ 12 := by unfold mhg; omega
    refine e_iload_n dX8_unwanted_4 rfl rfl ?_
    refine e_aload_n dX8_unwanted_5 rfl rfl ?_
    refine e_getI dX8_unwanted_6 fl_RX8_15 y0 (show k < fnx σ by omega) rfl ?_
    refine e_int (nI (S 120)) Yr.1.1 ?_
    refine e_icmp_ge 50 dX8_unwanted_9 (by decide) (fun cz => absurd ((nI_le' (by omega) (by omega)).mp cz) (by omega)) (fun cz => ?_)
    refine e_aload_n dX8_unwanted_12 rfl rfl ?_
    refine e_iload_n dX8_unwanted_13 rfl rfl ?_
    refine e_callV (k := k) [.int (nI i)] dX8_unwanted_14 cc_X8_isLying lk_RX8_186 im_X8_isLying se_X8_isLying (by decide) y0 (show k < fnx σ by omega) rfl (Nat.le_of_ble_eq_true rfl) (Nat.le_of_ble_eq_true rfl) ?_
    refine t_X8_isLying hD Ys Yr hW (by omega) (fK_i ?_)
    show fEv g _ mX8_unwanted 17 [some (.ref k), some (.int (nI a)), some (.int (nI i))] [.int (nI (bn (decide (S (i * 6 + 5) = 1))))] σ Q
    refine e_if_eq 44 dX8_unwanted_17 (by decide) (fun c17 => ?_) (fun c17 => ?_)
    · have c17 := bn0 c17
      refine e_iinc (v := nI (i + 1)) (L1 := [some (.ref k), some (.int (nI a)), some (.int (nI (i + 1)))]) dX8_unwanted_44 rfl (show nI i + Int32.ofInt 1 = nI (i + 1) from nI_add i 1) (by decide) rfl ?_
      refine e_goto 4 dX8_unwanted_47 (by decide) ?_
      refine ih (i + 1) a (by omega) ?_
      have hm : muw D S i = false := by unfold muw; first | (rw [c17]; rfl) | (rw [c17]; cases e : mof D (mwd S i) (mhg S i) with | none => rw [e] at c38; exact absurd rfl c38 | some o => rfl)
      rw [mct, hm] at h
      have h : Q (.inl (some (.int (nI (a + (0 + mct (muw D S) n (i + 1))))))) σ := h
      rw [Nat.zero_add] at h
      exact h
    · have c17 := bn1 c17
      refine e_aload_n dX8_unwanted_20 rfl rfl ?_
      refine e_getR (q := q) dX8_unwanted_21 fl_RX8_56 y0 (show k < fnx σ by omega) rfl yr0 (by unfold fscr; omega) ?_
      refine e_aload_n dX8_unwanted_24 rfl rfl ?_
      refine e_iload_n dX8_unwanted_25 rfl rfl ?_
      refine e_callV (k := k) [.int (nI i)] dX8_unwanted_26 cc_X8_pieceWide lk_RX8_115 im_X8_pieceWide se_X8_pieceWide (by decide) y0 (show k < fnx σ by omega) rfl (Nat.le_of_ble_eq_true rfl) (Nat.le_of_ble_eq_true rfl) ?_
      refine t_X8_pieceWide hD Ys Yr hW (by omega) (fK_i ?_)
      show fEv g _ mX8_unwanted 29 [some (.ref k), some (.int (nI a)), some (.int (nI i))] [.int (nI (mwd S i)), .ref q] σ Q
      refine e_aload_n dX8_unwanted_29 rfl rfl ?_
      refine e_iload_n dX8_unwanted_30 rfl rfl ?_
      refine e_callV (k := k) [.int (nI i)] dX8_unwanted_31 cc_X8_pieceHigh lk_RX8_118 im_X8_pieceHigh se_X8_pieceHigh (by decide) y0 (show k < fnx σ by omega) rfl (Nat.le_of_ble_eq_true rfl) (Nat.le_of_ble_eq_true rfl) ?_
      refine t_X8_pieceHigh hD Ys Yr hW (by omega) (fK_i ?_)
      show fEv g _ mX8_unwanted 34 [some (.ref k), some (.int (nI a)), some (.int (nI i))] [.int (nI (mhg S i)), .int (nI (mwd S i)), .ref q] σ Q
      refine e_callV (k := q) [.int (nI (mwd S i)), .int (nI (mhg S i))] dX8_unwanted_34 cc_X3_orderOfSize lk_RX8_192 im_X3_orderOfSize se_X3_orderOfSize (by decide) g0 (show q < fnx σ by omega) rfl (Nat.le_of_ble_eq_true rfl) (Nat.le_of_ble_eq_true rfl) ?_
      refine t_X3_orderOfSize Gs Gr hD (by omega) (by omega) (fK_i ?_)
      show fEv g _ mX8_unwanted 37 [some (.ref k), some (.int (nI a)), some (.int (nI i))] [.int (mo (mof D (mwd S i) (mhg S i)))] σ Q
      refine e_iconst (-1) dX8_unwanted_37 (by decide) ?_
      refine e_icmp_ne 44 dX8_unwanted_38 (by decide) (fun c38 => ?_) (fun c38 => ?_)
      · refine e_iinc (v := nI (i + 1)) (L1 := [some (.ref k), some (.int (nI a)), some (.int (nI (i + 1)))]) dX8_unwanted_44 rfl (show nI i + Int32.ofInt 1 = nI (i + 1) from nI_add i 1) (by decide) rfl ?_
        refine e_goto 4 dX8_unwanted_47 (by decide) ?_
        refine ih (i + 1) a (by omega) ?_
        have hm : muw D S i = false := by unfold muw; first | (rw [c17]; rfl) | (rw [c17]; cases e : mof D (mwd S i) (mhg S i) with | none => rw [e] at c38; exact absurd rfl c38 | some o => rfl)
        rw [mct, hm] at h
        have h : Q (.inl (some (.int (nI (a + (0 + mct (muw D S) n (i + 1))))))) σ := h
        rw [Nat.zero_add] at h
        exact h
      · refine e_iinc (v := nI (a + 1)) (L1 := [some (.ref k), some (.int (nI (a + 1))), some (.int (nI i))]) dX8_unwanted_41 rfl (show nI a + Int32.ofInt 1 = nI (a + 1) from nI_add a 1) (by decide) rfl ?_
        refine e_iinc (v := nI (i + 1)) (L1 := [some (.ref k), some (.int (nI (a + 1))), some (.int (nI (i + 1)))]) dX8_unwanted_44 rfl (show nI i + Int32.ofInt 1 = nI (i + 1) from nI_add i 1) (by decide) rfl ?_
        refine e_goto 4 dX8_unwanted_47 (by decide) ?_
        refine ih (i + 1) (a + 1) (by omega) ?_
        have hm : muw D S i = true := by unfold muw; rw [c17]; cases e : mof D (mwd S i) (mhg S i) with | none => rfl | some o => rw [e] at c38; exact absurd c38 (nI_m1 (by have := (mfd_lt e).2.1; omega))
        rw [mct, hm] at h
        have h : Q (.inl (some (.int (nI (a + (1 + mct (muw D S) n (i + 1))))))) σ := h
        rw [← Nat.add_assoc] at h
        exact h
set_option maxRecDepth 20000 in
theorem t_X8_unwanted {g : fGP} {d : Nat} {σ : fAH} {Q : fRes → fAH → Prop} {k q m : Nat} {D : fSD} {S : Nat → Nat} {sd : Int32} (Gs : fGs g σ q) (Gr : fGr σ q D) (hD : fWD D) (Ys : fYs g σ k q) (Yr : fYr σ k D S m sd) (hW : fWS D S) (h : Q (.inl (some (.int (nI (mct (muw D S) (S 120) 0))))) σ) : fEv g (d + 2) mX8_unwanted 0 (fent [.ref k] 3) [] σ Q := by
  show fEv g (d + 2) mX8_unwanted 0 [some (.ref k), none, none] [] σ Q
  refine e_iconst (nI 0) dX8_unwanted_0 (by decide) ?_
  refine e_istore_n (L1 := [some (.ref k), some (.int (nI 0)), none]) dX8_unwanted_1 rfl (by decide) rfl ?_
  refine e_iconst (nI 0) dX8_unwanted_2 (by decide) ?_
  refine e_istore_n (L1 := [some (.ref k), some (.int (nI 0)), some (.int (nI 0))]) dX8_unwanted_3 rfl (by decide) rfl ?_
  exact l_X8_unwanted Gs Gr hD Ys Yr hW (S 120) 0 0 (by omega) (by rw [Nat.zero_add]; exact h)
set_option maxRecDepth 20000 in
theorem t_X3_hasOdds {g : fGP} {d : Nat} {σ : fAH} {Q : fRes → fAH → Prop} {q : Nat} {D : fSD} {t : Nat} (Gs : fGs g σ q) (Gr : fGr σ q D) (hD : fWD D) (ht : t < 30) (h : Q (.inl (some (.int (nI (bn (decide (0 < mall D t))))))) σ) : fEv g (d) mX3_hasOdds 0 (fent [.ref q, .int (nI t)] 2) [] σ Q := by
  obtain ⟨⟨g0, g1, g2, g3, g4, g5⟩, ⟨gn, gK⟩, ⟨gr0, gr1, gr2, gr3, gr4⟩⟩ := id Gs
  show fEv g (d) mX3_hasOdds 0 [some (.ref q), some (.int (nI t))] [] σ Q
  refine e_aload_n dX3_hasOdds_0 rfl rfl ?_
  refine e_getR (q := q + 5) dX3_hasOdds_1 fl_RX3_24 g0 (show q < fnx σ by omega) rfl gr4 (by unfold fscr; omega) ?_
  refine e_iload_n dX3_hasOdds_4 rfl rfl ?_
  refine e_bipush (nI 10) dX3_hasOdds_5 (by decide) ?_
  refine e_imul dX3_hasOdds_7 ?_
  refine e_int (nI (t * 10)) (pk_mul t 10) ?_
  refine e_iaload (t * 10) dX3_hasOdds_8 g5 (show q + 5 < fnx σ by omega) rfl (by omega) (by decide) ?_
  refine e_int (nI (8 - mall D t)) (Gr.2.2.2.2.2 t (by omega)).1 ?_
  refine e_bipush (nI 8) dX3_hasOdds_9 (by decide) ?_
  refine e_icmp_ge 18 dX3_hasOdds_11 (by decide) (fun c11 => ?_) (fun c11 => ?_)
  · rw [nI_le' (by omega) (by omega)] at c11
    refine e_iconst (nI 0) dX3_hasOdds_18 (by decide) ?_
    have hm : decide (0 < mall D t) = false := decide_eq_false (by omega)
    rw [hm] at h
    exact e_ireturn .boolean dX3_hasOdds_19 rfl (by decide) h
  · rw [nI_le' (by omega) (by omega)] at c11
    refine e_iconst (nI 1) dX3_hasOdds_14 (by decide) ?_
    refine e_goto 19 dX3_hasOdds_15 (by decide) ?_
    have hm : decide (0 < mall D t) = true := decide_eq_true (by omega)
    rw [hm] at h
    exact e_ireturn .boolean dX3_hasOdds_19 rfl (by decide) h
set_option maxRecDepth 20000 in
theorem l_X3_coldOf {g : fGP} {d : Nat} {σ : fAH} {Q : fRes → fAH → Prop} {q : Nat} {D : fSD} {t v : Nat} (Gs : fGs g σ q) (Gr : fGr σ q D) (hD : fWD D) (ht : t < 30) (hv : v < 8) : ∀ (n i : Nat) (a : Nat), i + n = dT D 6 → a ≤ 8 * i → Q (.inl (some (.int (nI (mco D t v n i a))))) σ → fEv g (d) mX3_coldOf 5 [some (.ref q), some (.int (nI t)), some (.int (nI v)), some (.int (nI a)), some (.int (nI i))] [] σ Q := by
  obtain ⟨⟨g0, g1, g2, g3, g4, g5⟩, ⟨gn, gK⟩, ⟨gr0, gr1, gr2, gr3, gr4⟩⟩ := id Gs
  obtain ⟨t0, t1, t2, t3, t4, t5, t6⟩ := id hD.1
  intro n
  induction n with
  | zero =>
    intro i a hin pa h
    refine e_iload dX3_coldOf_5 rfl ?_
    refine e_aload_n dX3_coldOf_7 rfl rfl ?_
    refine e_getI dX3_coldOf_8 fl_RX3_40 g0 (show q < fnx σ by omega) rfl ?_
    refine e_int (nI (dT D 6)) Gr.1.2.2.2.1 ?_
    refine e_icmp_ge 64 dX3_coldOf_11 (by decide) (fun cz => ?_) (fun cz => absurd ((nI_le' (by omega) (by omega)).mpr (by omega)) cz)
    refine e_iconst (nI 0) dX3_coldOf_64 (by decide) ?_
    exact e_ireturn .int dX3_coldOf_65 rfl rfl (h)
  | succ n ih =>
    intro i a hin pa h
    have hi : i < dT D 6 := by omega
    have z := hD.2.2.2.2.1 i hi
    refine e_iload dX3_coldOf_5 rfl ?_
    refine e_aload_n dX3_coldOf_7 rfl rfl ?_
    refine e_getI dX3_coldOf_8 fl_RX3_40 g0 (show q < fnx σ by omega) rfl ?_
    refine e_int (nI (dT D 6)) Gr.1.2.2.2.1 ?_
    refine e_icmp_ge 64 dX3_coldOf_11 (by decide) (fun cz => absurd ((nI_le' (by omega) (by omega)).mp cz) (by omega)) (fun cz => ?_)
    refine e_aload_n dX3_coldOf_14 rfl rfl ?_
    refine e_getR (q := q + 4) dX3_coldOf_15 fl_RX3_21 g0 (show q < fnx σ by omega) rfl gr3 (by unfold fscr; omega) ?_
    refine e_iload dX3_coldOf_18 rfl ?_
    refine e_iconst (nI 3) dX3_coldOf_20 (by decide) ?_
    refine e_imul dX3_coldOf_21 ?_
    refine e_int (nI (i * 3)) (pk_mul i 3) ?_
    refine e_iaload (i * 3) dX3_coldOf_22 g4 (show q + 4 < fnx σ by omega) rfl (by omega) (by decide) ?_
    refine e_int (nI (dZ D i 0)) (Gr.2.2.2.2.1 i (by omega) 0 (by decide)) ?_
    refine e_iload_n dX3_coldOf_23 rfl rfl ?_
    refine e_icmp_ne 58 dX3_coldOf_24 (by decide) (fun c24 => ?_) (fun c24 => ?_)
    · rw [nI_inj (by omega) (by omega)] at c24
      refine e_iinc (v := nI (i + 1)) (L1 := [some (.ref q), some (.int (nI t)), some (.int (nI v)), some (.int (nI a)), some (.int (nI (i + 1)))]) dX3_coldOf_58 rfl (show nI i + Int32.ofInt 1 = nI (i + 1) from nI_add i 1) (by decide) rfl ?_
      refine e_goto 5 dX3_coldOf_61 (by decide) ?_
      refine ih (i + 1) (a) (by omega) (by omega) ?_
      have hm : mco D t v (n + 1) i a = mco D t v n (i + 1) (a) := by rw [mco, if_neg (by omega)]
      rw [hm] at h
      exact h
    · rw [nI_inj (by omega) (by omega)] at c24
      refine e_iload_n dX3_coldOf_27 rfl rfl ?_
      refine e_aload_n dX3_coldOf_28 rfl rfl ?_
      refine e_getR (q := q + 4) dX3_coldOf_29 fl_RX3_21 g0 (show q < fnx σ by omega) rfl gr3 (by unfold fscr; omega) ?_
      refine e_iload dX3_coldOf_32 rfl ?_
      refine e_iconst (nI 3) dX3_coldOf_34 (by decide) ?_
      refine e_imul dX3_coldOf_35 ?_
      refine e_int (nI (i * 3)) (pk_mul i 3) ?_
      refine e_iconst (nI 2) dX3_coldOf_36 (by decide) ?_
      refine e_iadd dX3_coldOf_37 ?_
      refine e_int (nI (i * 3 + 2)) (nI_add (i * 3) 2) ?_
      refine e_iaload (i * 3 + 2) dX3_coldOf_38 g4 (show q + 4 < fnx σ by omega) rfl (by omega) (by decide) ?_
      refine e_int (nI (dZ D i 2)) (Gr.2.2.2.2.1 i (by omega) 2 (by decide)) ?_
      refine e_iadd dX3_coldOf_39 ?_
      refine e_int (nI (a + dZ D i 2)) (nI_add a (dZ D i 2)) ?_
      refine e_istore_n (L1 := [some (.ref q), some (.int (nI t)), some (.int (nI v)), some (.int (nI (a + dZ D i 2))), some (.int (nI i))]) dX3_coldOf_40 rfl (by decide) rfl ?_
      refine e_iload_n dX3_coldOf_41 rfl rfl ?_
      refine e_iload_n dX3_coldOf_42 rfl rfl ?_
      refine e_icmp_ge 58 dX3_coldOf_43 (by decide) (fun c43 => ?_) (fun c43 => ?_)
      · rw [nI_le' (by omega) (by omega)] at c43
        refine e_iinc (v := nI (i + 1)) (L1 := [some (.ref q), some (.int (nI t)), some (.int (nI v)), some (.int (nI (a + dZ D i 2))), some (.int (nI (i + 1)))]) dX3_coldOf_58 rfl (show nI i + Int32.ofInt 1 = nI (i + 1) from nI_add i 1) (by decide) rfl ?_
        refine e_goto 5 dX3_coldOf_61 (by decide) ?_
        refine ih (i + 1) (a + dZ D i 2) (by omega) (by omega) ?_
        have hm : mco D t v (n + 1) i a = mco D t v n (i + 1) (a + dZ D i 2) := by rw [mco, if_pos (by omega), if_neg (by omega)]
        rw [hm] at h
        exact h
      · rw [nI_le' (by omega) (by omega)] at c43
        refine e_aload_n dX3_coldOf_46 rfl rfl ?_
        refine e_getR (q := q + 4) dX3_coldOf_47 fl_RX3_21 g0 (show q < fnx σ by omega) rfl gr3 (by unfold fscr; omega) ?_
        refine e_iload dX3_coldOf_50 rfl ?_
        refine e_iconst (nI 3) dX3_coldOf_52 (by decide) ?_
        refine e_imul dX3_coldOf_53 ?_
        refine e_int (nI (i * 3)) (pk_mul i 3) ?_
        refine e_iconst (nI 1) dX3_coldOf_54 (by decide) ?_
        refine e_iadd dX3_coldOf_55 ?_
        refine e_int (nI (i * 3 + 1)) (nI_add (i * 3) 1) ?_
        refine e_iaload (i * 3 + 1) dX3_coldOf_56 g4 (show q + 4 < fnx σ by omega) rfl (by omega) (by decide) ?_
        refine e_int (nI (dZ D i 1)) (Gr.2.2.2.2.1 i (by omega) 1 (by decide)) ?_
        have hm : mco D t v (n + 1) i a = dZ D i 1 := by rw [mco, if_pos (by omega), if_pos (by omega)]
        rw [hm] at h
        exact e_ireturn .int dX3_coldOf_57 rfl rfl h
set_option maxRecDepth 20000 in
theorem t_X3_coldOf {g : fGP} {d : Nat} {σ : fAH} {Q : fRes → fAH → Prop} {q : Nat} {D : fSD} {t v : Nat} (Gs : fGs g σ q) (Gr : fGr σ q D) (hD : fWD D) (ht : t < 30) (hv : v < 8) (h : Q (.inl (some (.int (nI (mco D t v (dT D 6) 0 0))))) σ) : fEv g (d) mX3_coldOf 0 (fent [.ref q, .int (nI t), .int (nI v)] 5) [] σ Q := by
  show fEv g (d) mX3_coldOf 0 [some (.ref q), some (.int (nI t)), some (.int (nI v)), none, none] [] σ Q
  refine e_iconst (nI 0) dX3_coldOf_0 (by decide) ?_
  refine e_istore_n (L1 := [some (.ref q), some (.int (nI t)), some (.int (nI v)), some (.int (nI 0)), none]) dX3_coldOf_1 rfl (by decide) rfl ?_
  refine e_iconst (nI 0) dX3_coldOf_2 (by decide) ?_
  refine e_istore (L1 := [some (.ref q), some (.int (nI t)), some (.int (nI v)), some (.int (nI 0)), some (.int (nI 0))]) dX3_coldOf_3 (by decide) rfl ?_
  exact l_X3_coldOf Gs Gr hD ht hv (dT D 6) 0 0 (by omega) (by omega) h
set_option maxRecDepth 20000 in
theorem t_X4_step {g : fGP} {d : Nat} {σ : fAH} {Q : fRes → fAH → Prop} {lk : Nat} {sd : Int32} (Ls : gsh g lk = .inl 3) (Ln : lk < fnx σ) (Lr : fI σ lk 0 = sd) (h : Q (.inl none) (fsI σ lk 0 (sdn sd))) : fEv g d mX4_step 0 (fent [.ref lk] 1) [] σ Q := by
  show fEv g d mX4_step 0 [some (.ref lk)] [] σ Q
  refine e_aload_n dX4_step_0 rfl rfl ?_
  refine e_aload_n dX4_step_1 rfl rfl ?_
  refine e_getI dX4_step_2 fl_RX4_7 Ls Ln rfl ?_
  refine e_int (sd) Lr ?_
  refine e_ldcI (1103515245) dX4_step_5 kc_RX4_16 ?_
  refine e_imul dX4_step_7 ?_
  refine e_sipush (nI 12345) dX4_step_8 (by decide) ?_
  refine e_iadd dX4_step_11 ?_
  refine e_int (sdn sd) rfl ?_
  refine e_putI dX4_step_12 fl_RX4_7 Ls Ln rfl rfl ?_
  exact e_return dX4_step_15 rfl h
set_option maxRecDepth 20000 in
theorem t_X4_eighth {g : fGP} {d : Nat} {σ : fAH} {Q : fRes → fAH → Prop} {lk : Nat} {sd : Int32} (Ls : gsh g lk = .inl 3) (Ln : lk < fnx σ) (Lr : fI σ lk 0 = sd) (h : Q (.inl (some (.int (nI (d8 sd))))) (fsI σ lk 0 (sdn sd))) : fEv g (d + 1) mX4_eighth 0 (fent [.ref lk] 1) [] σ Q := by
  show fEv g (d + 1) mX4_eighth 0 [some (.ref lk)] [] σ Q
  refine e_aload_n dX4_eighth_0 rfl rfl ?_
  refine e_callV (k := lk) [] dX4_eighth_1 cc_X4_step lk_RX4_13 im_X4_step se_X4_step (by decide) Ls Ln rfl (Nat.le_of_ble_eq_true rfl) (Nat.le_of_ble_eq_true rfl) ?_
  refine t_X4_step Ls Ln Lr (fK_v ?_)
  show fEv g _ mX4_eighth 4 [some (.ref lk)] [] (fsI σ lk 0 (sdn sd)) Q
  refine e_aload_n dX4_eighth_4 rfl rfl ?_
  refine e_getI dX4_eighth_5 fl_RX4_7 Ls Ln rfl ?_
  refine e_int (sdn sd) (by rw [fI_I, if_pos ⟨rfl, rfl⟩]) ?_
  refine e_bipush (nI 16) dX4_eighth_8 (by decide) ?_
  refine e_iushr dX4_eighth_10 ?_
  refine e_bipush (nI 7) dX4_eighth_11 (by decide) ?_
  refine e_iand dX4_eighth_13 ?_
  refine e_int (nI (d8 sd)) (ush16 (sdn sd) (nI 7) 3 (by decide) (by decide)) ?_
  exact e_ireturn .int dX4_eighth_14 rfl rfl (h)
set_option maxRecDepth 20000 in
theorem t_X4_quarter {g : fGP} {d : Nat} {σ : fAH} {Q : fRes → fAH → Prop} {lk : Nat} {sd : Int32} (Ls : gsh g lk = .inl 3) (Ln : lk < fnx σ) (Lr : fI σ lk 0 = sd) (h : Q (.inl (some (.int (nI (d4 sd))))) (fsI σ lk 0 (sdn sd))) : fEv g (d + 1) mX4_quarter 0 (fent [.ref lk] 1) [] σ Q := by
  show fEv g (d + 1) mX4_quarter 0 [some (.ref lk)] [] σ Q
  refine e_aload_n dX4_quarter_0 rfl rfl ?_
  refine e_callV (k := lk) [] dX4_quarter_1 cc_X4_step lk_RX4_13 im_X4_step se_X4_step (by decide) Ls Ln rfl (Nat.le_of_ble_eq_true rfl) (Nat.le_of_ble_eq_true rfl) ?_
  refine t_X4_step Ls Ln Lr (fK_v ?_)
  show fEv g _ mX4_quarter 4 [some (.ref lk)] [] (fsI σ lk 0 (sdn sd)) Q
  refine e_aload_n dX4_quarter_4 rfl rfl ?_
  refine e_getI dX4_quarter_5 fl_RX4_7 Ls Ln rfl ?_
  refine e_int (sdn sd) (by rw [fI_I, if_pos ⟨rfl, rfl⟩]) ?_
  refine e_bipush (nI 16) dX4_quarter_8 (by decide) ?_
  refine e_iushr dX4_quarter_10 ?_
  refine e_iconst (nI 3) dX4_quarter_11 (by decide) ?_
  refine e_iand dX4_quarter_12 ?_
  refine e_int (nI (d4 sd)) (ush16 (sdn sd) (nI 3) 2 (by decide) (by decide)) ?_
  exact e_ireturn .int dX4_quarter_13 rfl rfl (h)
