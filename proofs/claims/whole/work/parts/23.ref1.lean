theorem bn0 {b : Bool} (h : nI (bn b) = 0) : b = false := by
  cases b
  · rfl
  · exact absurd h (by decide)
theorem bn1 {b : Bool} (h : ¬ nI (bn b) = 0) : b = true := by
  cases b
  · exact absurd (by decide) h
  · rfl
theorem dfls {P : Prop} {hd : Decidable P} (h : decide P = false) : ¬ P := of_decide_eq_false h
theorem dtru {P : Prop} {hd : Decidable P} (h : decide P = true) : P := of_decide_eq_true h
/-! the reference's cells tell D and S -/
def fMr (σ : fAH) (D : fSD) (S : Nat → Nat) (sd : Int32) : Prop :=
  (∀ i, i < 7 → fI σ 92 i = nI (dT D i)) ∧ (∀ b, b < dT D 0 → ∀ c, c < 3 → fI σ (101 + b) c = nI (dB D b c)) ∧ (∀ k, k < dT D 1 → ∀ c, c < 5 → fI σ (121 + k) c = nI (dS D k c)) ∧ (∀ o, o < dT D 2 → ∀ c, c < 5 → fI σ (141 + o) c = nI (dO D o c)) ∧ (∀ i, i < dT D 6 → ∀ c, c < 3 → fI σ (173 + i) c = nI (dZ D i c)) ∧ (∀ i, i < 156 → fI σ 197 i = nI (S i) ∧ S i < 100000) ∧ fI σ 197 156 = sd
section FMR
variable {σ : fAH} {D : fSD} {S : Nat → Nat} {sd : Int32}
theorem fMr.t (h : fMr σ D S sd) (i : Nat) (hi : i < 7) : fI σ 92 i = nI (dT D i) := h.1 i hi
theorem fMr.block (h : fMr σ D S sd) (b : Nat) (hb : b < dT D 0) (c : Nat) (hc : c < 3) : fI σ (101 + b) c = nI (dB D b c) := h.2.1 b hb c hc
theorem fMr.slot (h : fMr σ D S sd) (b : Nat) (hb : b < dT D 1) (c : Nat) (hc : c < 5) : fI σ (121 + b) c = nI (dS D b c) := h.2.2.1 b hb c hc
theorem fMr.order (h : fMr σ D S sd) (b : Nat) (hb : b < dT D 2) (c : Nat) (hc : c < 5) : fI σ (141 + b) c = nI (dO D b c) := h.2.2.2.1 b hb c hc
theorem fMr.odds (h : fMr σ D S sd) (b : Nat) (hb : b < dT D 6) (c : Nat) (hc : c < 3) : fI σ (173 + b) c = nI (dZ D b c) := h.2.2.2.2.1 b hb c hc
theorem fMr.s (h : fMr σ D S sd) (i : Nat) (hi : i < 156) : fI σ 197 i = nI (S i) := (h.2.2.2.2.2.1 i hi).1
theorem fMr.b (h : fMr σ D S sd) {i : Nat} (hi : i < 156) : S i < 100000 := (h.2.2.2.2.2.1 i hi).2
theorem fMr.sm (h : fMr σ D S sd) (p c : Nat) (hi : 6 * p + c < 156) : fI σ 197 (6 * p + c) = nI (S (p * 6 + c)) := by
  rw [Nat.mul_comm p 6]
  exact h.s _ hi
theorem fMr.seed (h : fMr σ D S sd) : fI σ 197 156 = sd := h.2.2.2.2.2.2
end FMR
set_option maxRecDepth 20000 in
theorem t_X10_in {g : fGP} {d : Nat} {σ : fAH} {Q : fRes → fAH → Prop} {v lo hi : Int32} (h : Q (.inl (some (.int (nI (bn (decide (lo ≤ v ∧ v ≤ hi))))))) σ) : fEv g d mX10_in 0 (fent [.int v, .int lo, .int hi] 3) [] σ Q := by
  show fEv g d mX10_in 0 [some (.int v), some (.int lo), some (.int hi)] [] σ Q
  refine e_iload_n dX10_in_0 rfl rfl ?_
  refine e_iload_n dX10_in_1 rfl rfl ?_
  refine e_icmp_lt 14 dX10_in_2 (by decide) (fun c2 => ?_) (fun c2 => ?_)
  · have hm : decide (lo ≤ v ∧ v ≤ hi) = false := decide_eq_false (fun z => absurd c2 (Int32.not_lt.mpr z.1))
    rw [hm] at h
    refine e_iconst (nI 0) dX10_in_14 (by decide) ?_
    exact e_ireturn .boolean dX10_in_15 rfl (by decide) (h)
  · refine e_iload_n dX10_in_5 rfl rfl ?_
    refine e_iload_n dX10_in_6 rfl rfl ?_
    refine e_icmp_gt 14 dX10_in_7 (by decide) (fun c7 => ?_) (fun c7 => ?_)
    · have hm : decide (lo ≤ v ∧ v ≤ hi) = false := decide_eq_false (fun z => absurd c7 (Int32.not_lt.mpr z.2))
      rw [hm] at h
      refine e_iconst (nI 0) dX10_in_14 (by decide) ?_
      exact e_ireturn .boolean dX10_in_15 rfl (by decide) (h)
    · have hm : decide (lo ≤ v ∧ v ≤ hi) = true := decide_eq_true ⟨Int32.not_lt.mp c2, Int32.not_lt.mp c7⟩
      rw [hm] at h
      refine e_iconst (nI 1) dX10_in_10 (by decide) ?_
      refine e_goto 15 dX10_in_11 (by decide) ?_
      exact e_ireturn .boolean dX10_in_15 rfl (by decide) (h)
theorem t_X10_inN {g : fGP} {d : Nat} {σ : fAH} {Q : fRes → fAH → Prop} {v lo hi : Nat} (hv : v < 2147483648) (hl : lo < 2147483648) (hh : hi < 2147483648) (h : Q (.inl (some (.int (nI (bn (decide (lo ≤ v ∧ v ≤ hi))))))) σ) : fEv g d mX10_in 0 (fent [.int (nI v), .int (nI lo), .int (nI hi)] 3) [] σ Q := by
  refine t_X10_in ?_
  have : decide (nI lo ≤ nI v ∧ nI v ≤ nI hi) = decide (lo ≤ v ∧ v ≤ hi) := decide_eq_decide.mpr (by rw [nI_le' hl hv, nI_le' hv hh])
  rw [this]
  exact h
set_option maxRecDepth 20000 in
theorem t_X10_isAcross {g : fGP} {d : Nat} {σ : fAH} {Q : fRes → fAH → Prop} {D : fSD} {S : Nat → Nat} {sd : Int32} {s : Nat} (Ms : fMs g σ) (Mr : fMr σ D S sd) (hD : fWD D) (hW : fWS D S) (hs : s < dT D 1) (h : Q (.inl (some (.int (nI (bn (macr D s)))))) σ) : fEv g d mX10_isAcross 0 (fent [.ref 89, .int (nI s)] 2) [] σ Q := by
  obtain ⟨t0, t1, t2, t3, t4, t5, t6⟩ := id hD.1
  obtain ⟨s0, s1, s2, s3, s4, s5, s6⟩ := hD.2.2.1 s hs
  obtain ⟨b0, b1, b2, b3, b4⟩ := hD.2.1 _ s0
  show fEv g d mX10_isAcross 0 [some (.ref 89), some (.int (nI s))] [] σ Q
  refine e_aload_n dX10_isAcross_0 rfl rfl ?_
  refine e_getR (q := 120) dX10_isAcross_1 fl_RX10_34 (Ms.s 89 rfl) (Ms.n (by decide)) rfl (Ms.r 89 14 rfl) (by unfold fscr; omega) ?_
  refine e_iload_n dX10_isAcross_4 rfl rfl ?_
  refine e_aaload (q := 121 + s) s dX10_isAcross_5 (Ms.s 120 rfl) (by decide) (Ms.n (by decide)) rfl (by omega) (by decide) (Ms.r 120 _ (frf_slot _ (by omega))) (by unfold fscr; omega) ?_
  refine e_iconst (nI 1) dX10_isAcross_6 (by decide) ?_
  refine e_iaload 1 dX10_isAcross_7 (Ms.s _ (fsh_slot _ (by omega))) (Ms.n (by omega)) rfl (by omega) (by decide) ?_
  refine e_int (nI (dS D s 1)) (Mr.slot s (by omega) 1 (by omega)) ?_
  refine e_aload_n dX10_isAcross_8 rfl rfl ?_
  refine e_getR (q := 100) dX10_isAcross_9 fl_RX10_28 (Ms.s 89 rfl) (Ms.n (by decide)) rfl (Ms.r 89 12 rfl) (by unfold fscr; omega) ?_
  refine e_aload_n dX10_isAcross_12 rfl rfl ?_
  refine e_getR (q := 120) dX10_isAcross_13 fl_RX10_34 (Ms.s 89 rfl) (Ms.n (by decide)) rfl (Ms.r 89 14 rfl) (by unfold fscr; omega) ?_
  refine e_iload_n dX10_isAcross_16 rfl rfl ?_
  refine e_aaload (q := 121 + s) s dX10_isAcross_17 (Ms.s 120 rfl) (by decide) (Ms.n (by decide)) rfl (by omega) (by decide) (Ms.r 120 _ (frf_slot _ (by omega))) (by unfold fscr; omega) ?_
  refine e_iconst (nI 0) dX10_isAcross_18 (by decide) ?_
  refine e_iaload 0 dX10_isAcross_19 (Ms.s _ (fsh_slot _ (by omega))) (Ms.n (by omega)) rfl (by omega) (by decide) ?_
  refine e_int (nI (dS D s 0)) (Mr.slot s (by omega) 0 (by omega)) ?_
  refine e_aaload (q := 101 + (dS D s 0)) (dS D s 0) dX10_isAcross_20 (Ms.s 100 rfl) (by decide) (Ms.n (by decide)) rfl (by omega) (by decide) (Ms.r 100 _ (frf_block _ (by omega))) (by unfold fscr; omega) ?_
  refine e_iconst (nI 2) dX10_isAcross_21 (by decide) ?_
  refine e_iaload 2 dX10_isAcross_22 (Ms.s _ (fsh_block _ (by omega))) (Ms.n (by omega)) rfl (by omega) (by decide) ?_
  refine e_int (nI (dB D (dS D s 0) 2)) (Mr.block (dS D s 0) (by omega) 2 (by omega)) ?_
  refine e_icmp_eq 30 dX10_isAcross_23 (by decide) (fun c23 => ?_) (fun c23 => ?_)
  · rw [nI_inj (by omega) (by omega)] at c23
    have hm : macr D s = false := decide_eq_false (fun z => z c23)
    rw [hm] at h
    refine e_iconst (nI 0) dX10_isAcross_30 (by decide) ?_
    exact e_ireturn .boolean dX10_isAcross_31 rfl (by decide) (h)
  · rw [nI_inj (by omega) (by omega)] at c23
    have hm : macr D s = true := decide_eq_true c23
    rw [hm] at h
    refine e_iconst (nI 1) dX10_isAcross_26 (by decide) ?_
    refine e_goto 31 dX10_isAcross_27 (by decide) ?_
    exact e_ireturn .boolean dX10_isAcross_31 rfl (by decide) (h)
set_option maxRecDepth 20000 in
theorem t_X10_needOf {g : fGP} {d : Nat} {σ : fAH} {Q : fRes → fAH → Prop} {D : fSD} {S : Nat → Nat} {sd : Int32} {s : Nat} (Ms : fMs g σ) (Mr : fMr σ D S sd) (hD : fWD D) (hW : fWS D S) (hs : s < dT D 1) (h : Q (.inl (some (.int (nI (mneed D S s))))) σ) : fEv g (d + 1) mX10_needOf 0 (fent [.ref 89, .int (nI s)] 2) [] σ Q := by
  obtain ⟨t0, t1, t2, t3, t4, t5, t6⟩ := id hD.1
  obtain ⟨s0, s1, s2, s3, s4, s5, s6⟩ := hD.2.2.1 s hs
  have dp := hW.2.2.1 s hs
  show fEv g (d + 1) mX10_needOf 0 [some (.ref 89), some (.int (nI s))] [] σ Q
  refine e_iconst (nI 4) dX10_needOf_0 (by decide) ?_
  refine e_aload_n dX10_needOf_1 rfl rfl ?_
  refine e_iload_n dX10_needOf_2 rfl rfl ?_
  refine e_callV (k := 89) [.int (nI s)] dX10_needOf_3 cc_X10_isAcross lk_RX10_174 im_X10_isAcross se_X10_isAcross (by decide) (Ms.s 89 rfl) (Ms.n (by decide)) rfl (Nat.le_of_ble_eq_true rfl) (Nat.le_of_ble_eq_true rfl) ?_
  refine t_X10_isAcross Ms Mr hD hW (by omega) (fK_i ?_)
  show fEv g _ mX10_needOf 6 [some (.ref 89), some (.int (nI s))] [.int (nI (bn (macr D s))), .int (nI 4)] σ Q
  refine e_if_eq 13 dX10_needOf_6 (by decide) (fun c6 => ?_) (fun c6 => ?_)
  · have c6 := bn0 c6
    unfold mneed at h
    rw [c6] at h
    refine e_iconst (nI 0) dX10_needOf_13 (by decide) ?_
    refine e_iadd dX10_needOf_14 ?_
    refine e_int (nI 4) (nI_add 4 0) ?_
    refine e_aload_n dX10_needOf_15 rfl rfl ?_
    refine e_getR (q := 197) dX10_needOf_16 fl_RX10_49 (Ms.s 89 rfl) (Ms.n (by decide)) rfl (Ms.r 89 19 rfl) (by unfold fscr; omega) ?_
    refine e_bipush (nI 121) dX10_needOf_19 (by decide) ?_
    refine e_iload_n dX10_needOf_21 rfl rfl ?_
    refine e_iadd dX10_needOf_22 ?_
    refine e_int (nI (121 + s)) (nI_add 121 s) ?_
    refine e_iaload (121 + s) dX10_needOf_23 (Ms.s 197 rfl) (Ms.n (by decide)) rfl (by omega) (by decide) ?_
    refine e_int (nI (S (121 + s))) (Mr.s (121 + s) (by omega)) ?_
    refine e_iconst (nI 3) dX10_needOf_24 (by decide) ?_
    refine e_idiv dX10_needOf_25 (by decide) ?_
    refine e_int (nI (S (121 + s) / 3)) (pk_div (by omega) (by decide) (by decide)) ?_
    refine e_isub dX10_needOf_26 ?_
    refine e_int (nI (4 - (S (121 + s) / 3))) (pk_sub (by omega)) ?_
    exact e_ireturn .int dX10_needOf_27 rfl rfl (h)
  · have c6 := bn1 c6
    unfold mneed at h
    rw [c6] at h
    refine e_iconst (nI 2) dX10_needOf_9 (by decide) ?_
    refine e_goto 14 dX10_needOf_10 (by decide) ?_
    refine e_iadd dX10_needOf_14 ?_
    refine e_int (nI 6) (nI_add 4 2) ?_
    refine e_aload_n dX10_needOf_15 rfl rfl ?_
    refine e_getR (q := 197) dX10_needOf_16 fl_RX10_49 (Ms.s 89 rfl) (Ms.n (by decide)) rfl (Ms.r 89 19 rfl) (by unfold fscr; omega) ?_
    refine e_bipush (nI 121) dX10_needOf_19 (by decide) ?_
    refine e_iload_n dX10_needOf_21 rfl rfl ?_
    refine e_iadd dX10_needOf_22 ?_
    refine e_int (nI (121 + s)) (nI_add 121 s) ?_
    refine e_iaload (121 + s) dX10_needOf_23 (Ms.s 197 rfl) (Ms.n (by decide)) rfl (by omega) (by decide) ?_
    refine e_int (nI (S (121 + s))) (Mr.s (121 + s) (by omega)) ?_
    refine e_iconst (nI 3) dX10_needOf_24 (by decide) ?_
    refine e_idiv dX10_needOf_25 (by decide) ?_
    refine e_int (nI (S (121 + s) / 3)) (pk_div (by omega) (by decide) (by decide)) ?_
    refine e_isub dX10_needOf_26 ?_
    refine e_int (nI (6 - (S (121 + s) / 3))) (pk_sub (by omega)) ?_
    exact e_ireturn .int dX10_needOf_27 rfl rfl (h)
set_option maxRecDepth 20000 in
theorem l_X10_pieceOf {g : fGP} {d : Nat} {σ : fAH} {Q : fRes → fAH → Prop} {D : fSD} {S : Nat → Nat} {sd : Int32} {s : Nat} (Ms : fMs g σ) (Mr : fMr σ D S sd) (hD : fWD D) (hW : fWS D S) (hs : s < dT D 1) : ∀ (n p : Nat), p + n = S 120 → Q (.inl (some (.int (mo (mfd (mhit D S s) n p))))) σ → fEv g (d + 1) mX10_pieceOf 65 [some (.ref 89), some (.int (nI s)), some (.int (nI (mX D s))), some (.int (nI (mY D s))), some (.int (nI p))] [] σ Q := by
  obtain ⟨t0, t1, t2, t3, t4, t5, t6⟩ := id hD.1
  obtain ⟨s0, s1, s2, s3, s4, s5, s6⟩ := hD.2.2.1 s hs
  have sb := hD.s2 hs
  have np := hW.n hD
  have x9 : mX D s < 12 := by unfold mX; split <;> omega
  have y9 : mY D s < 12 := by unfold mY; split <;> omega
  intro n
  induction n with
  | zero =>
    intro p hpn h
    refine e_iload dX10_pieceOf_65 rfl ?_
    refine e_aload_n dX10_pieceOf_67 rfl rfl ?_
    refine e_getR (q := 197) dX10_pieceOf_68 fl_RX10_49 (Ms.s 89 rfl) (Ms.n (by decide)) rfl (Ms.r 89 19 rfl) (by unfold fscr; omega) ?_
    refine e_bipush (nI 120) dX10_pieceOf_71 (by decide) ?_
    refine e_iaload 120 dX10_pieceOf_73 (Ms.s 197 rfl) (Ms.n (by decide)) rfl (by omega) (by decide) ?_
    refine e_int (nI (S 120)) (Mr.s 120 (by omega)) ?_
    refine e_icmp_ge 189 dX10_pieceOf_74 (by decide) (fun c74 => ?_) (fun c74 => absurd ((nI_le' (by omega) (by omega)).mpr (by omega)) c74)
    refine e_iconst (-1) dX10_pieceOf_189 (by decide) ?_
    exact e_ireturn .int dX10_pieceOf_190 rfl rfl (h)
  | succ n ih =>
    intro p hpn h
    have hp : p < S 120 := by omega
    obtain ⟨p0, p1, p2, p3, p4, p5⟩ := hW.2.1 p hp
    refine e_iload dX10_pieceOf_65 rfl ?_
    refine e_aload_n dX10_pieceOf_67 rfl rfl ?_
    refine e_getR (q := 197) dX10_pieceOf_68 fl_RX10_49 (Ms.s 89 rfl) (Ms.n (by decide)) rfl (Ms.r 89 19 rfl) (by unfold fscr; omega) ?_
    refine e_bipush (nI 120) dX10_pieceOf_71 (by decide) ?_
    refine e_iaload 120 dX10_pieceOf_73 (Ms.s 197 rfl) (Ms.n (by decide)) rfl (by omega) (by decide) ?_
    refine e_int (nI (S 120)) (Mr.s 120 (by omega)) ?_
    refine e_icmp_ge 189 dX10_pieceOf_74 (by decide) (fun c74 => absurd ((nI_le' (by omega) (by omega)).mp c74) (by omega)) (fun c74 => ?_)
    refine e_aload_n dX10_pieceOf_77 rfl rfl ?_
    refine e_getR (q := 197) dX10_pieceOf_78 fl_RX10_49 (Ms.s 89 rfl) (Ms.n (by decide)) rfl (Ms.r 89 19 rfl) (by unfold fscr; omega) ?_
    refine e_bipush (nI 6) dX10_pieceOf_81 (by decide) ?_
    refine e_iload dX10_pieceOf_83 rfl ?_
    refine e_imul dX10_pieceOf_85 ?_
    refine e_int (nI (6 * p)) (pk_mul 6 p) ?_
    refine e_iconst (nI 5) dX10_pieceOf_86 (by decide) ?_
    refine e_iadd dX10_pieceOf_87 ?_
    refine e_int (nI (6 * p + 5)) (nI_add (6 * p) 5) ?_
    refine e_iaload (6 * p + 5) dX10_pieceOf_88 (Ms.s 197 rfl) (Ms.n (by decide)) rfl (by omega) (by decide) ?_
    refine e_int (nI (S (p * 6 + 5))) (Mr.sm p 5 (by omega)) ?_
    refine e_iconst (nI 1) dX10_pieceOf_89 (by decide) ?_
    refine e_icmp_ne 183 dX10_pieceOf_90 (by decide) (fun c90 => ?_) (fun c90 => ?_)
    · rw [nI_inj (by omega) (by omega)] at c90
      refine e_iinc (v := nI (p + 1)) (L1 := [some (.ref 89), some (.int (nI s)), some (.int (nI (mX D s))), some (.int (nI (mY D s))), some (.int (nI (p + 1)))]) dX10_pieceOf_183 rfl (show nI p + Int32.ofInt 1 = nI (p + 1) from nI_add p 1) (by decide) rfl ?_
      refine e_goto 65 dX10_pieceOf_186 (by decide) ?_
      refine ih (p + 1) (by omega) ?_
      have hf : mhit D S s p = false := decide_eq_false (by intro hh; omega)
      rw [mfd, hf] at h
      exact h
    · rw [nI_inj (by omega) (by omega)] at c90
      refine e_aload_n dX10_pieceOf_93 rfl rfl ?_
      refine e_getR (q := 197) dX10_pieceOf_94 fl_RX10_49 (Ms.s 89 rfl) (Ms.n (by decide)) rfl (Ms.r 89 19 rfl) (by unfold fscr; omega) ?_
      refine e_bipush (nI 6) dX10_pieceOf_97 (by decide) ?_
      refine e_iload dX10_pieceOf_99 rfl ?_
      refine e_imul dX10_pieceOf_101 ?_
      refine e_int (nI (6 * p)) (pk_mul 6 p) ?_
      refine e_iaload (6 * p) dX10_pieceOf_102 (Ms.s 197 rfl) (Ms.n (by decide)) rfl (by omega) (by decide) ?_
      refine e_int (nI (S (p * 6))) (Mr.sm p 0 (by omega)) ?_
      refine e_aload_n dX10_pieceOf_103 rfl rfl ?_
      refine e_getR (q := 120) dX10_pieceOf_104 fl_RX10_34 (Ms.s 89 rfl) (Ms.n (by decide)) rfl (Ms.r 89 14 rfl) (by unfold fscr; omega) ?_
      refine e_iload_n dX10_pieceOf_107 rfl rfl ?_
      refine e_aaload (q := 121 + s) s dX10_pieceOf_108 (Ms.s 120 rfl) (by decide) (Ms.n (by decide)) rfl (by omega) (by decide) (Ms.r 120 _ (frf_slot _ (by omega))) (by unfold fscr; omega) ?_
      refine e_iconst (nI 0) dX10_pieceOf_109 (by decide) ?_
      refine e_iaload 0 dX10_pieceOf_110 (Ms.s _ (fsh_slot _ (by omega))) (Ms.n (by omega)) rfl (by omega) (by decide) ?_
      refine e_int (nI (dS D s 0)) (Mr.slot s (by omega) 0 (by omega)) ?_
      refine e_icmp_ne 183 dX10_pieceOf_111 (by decide) (fun c111 => ?_) (fun c111 => ?_)
      · rw [nI_inj (by omega) (by omega)] at c111
        refine e_iinc (v := nI (p + 1)) (L1 := [some (.ref 89), some (.int (nI s)), some (.int (nI (mX D s))), some (.int (nI (mY D s))), some (.int (nI (p + 1)))]) dX10_pieceOf_183 rfl (show nI p + Int32.ofInt 1 = nI (p + 1) from nI_add p 1) (by decide) rfl ?_
        refine e_goto 65 dX10_pieceOf_186 (by decide) ?_
        refine ih (p + 1) (by omega) ?_
        have hf : mhit D S s p = false := decide_eq_false (by intro hh; omega)
        rw [mfd, hf] at h
        exact h
      · rw [nI_inj (by omega) (by omega)] at c111
        refine e_iload_n dX10_pieceOf_114 rfl rfl ?_
        refine e_aload_n dX10_pieceOf_115 rfl rfl ?_
        refine e_getR (q := 197) dX10_pieceOf_116 fl_RX10_49 (Ms.s 89 rfl) (Ms.n (by decide)) rfl (Ms.r 89 19 rfl) (by unfold fscr; omega) ?_
        refine e_bipush (nI 6) dX10_pieceOf_119 (by decide) ?_
        refine e_iload dX10_pieceOf_121 rfl ?_
        refine e_imul dX10_pieceOf_123 ?_
        refine e_int (nI (6 * p)) (pk_mul 6 p) ?_
        refine e_iconst (nI 1) dX10_pieceOf_124 (by decide) ?_
        refine e_iadd dX10_pieceOf_125 ?_
        refine e_int (nI (6 * p + 1)) (nI_add (6 * p) 1) ?_
        refine e_iaload (6 * p + 1) dX10_pieceOf_126 (Ms.s 197 rfl) (Ms.n (by decide)) rfl (by omega) (by decide) ?_
        refine e_int (nI (S (p * 6 + 1))) (Mr.sm p 1 (by omega)) ?_
        refine e_aload_n dX10_pieceOf_127 rfl rfl ?_
        refine e_getR (q := 197) dX10_pieceOf_128 fl_RX10_49 (Ms.s 89 rfl) (Ms.n (by decide)) rfl (Ms.r 89 19 rfl) (by unfold fscr; omega) ?_
        refine e_bipush (nI 6) dX10_pieceOf_131 (by decide) ?_
        refine e_iload dX10_pieceOf_133 rfl ?_
        refine e_imul dX10_pieceOf_135 ?_
        refine e_int (nI (6 * p)) (pk_mul 6 p) ?_
        refine e_iconst (nI 2) dX10_pieceOf_136 (by decide) ?_
        refine e_iadd dX10_pieceOf_137 ?_
        refine e_int (nI (6 * p + 2)) (nI_add (6 * p) 2) ?_
        refine e_iaload (6 * p + 2) dX10_pieceOf_138 (Ms.s 197 rfl) (Ms.n (by decide)) rfl (by omega) (by decide) ?_
        refine e_int (nI (S (p * 6 + 2))) (Mr.sm p 2 (by omega)) ?_
        refine e_iconst (nI 1) dX10_pieceOf_139 (by decide) ?_
        refine e_isub dX10_pieceOf_140 ?_
        refine e_int (nI ((S (p * 6 + 2)) - 1)) (pk_sub (by omega)) ?_
        refine e_callS [.int (nI (mX D s)), .int (nI (S (p * 6 + 1))), .int (nI ((S (p * 6 + 2)) - 1))] dX10_pieceOf_141 cc_X10_in lk_RX10_110 st_X10_in in_RX10 rfl (Nat.le_of_ble_eq_true rfl) (Nat.le_of_ble_eq_true rfl) ?_
        refine t_X10_inN (by omega) (by omega) (by omega) (fK_i ?_)
        show fEv g _ mX10_pieceOf 144 [some (.ref 89), some (.int (nI s)), some (.int (nI (mX D s))), some (.int (nI (mY D s))), some (.int (nI p))] [.int (nI (bn (decide (S (p * 6 + 1) ≤ mX D s ∧ mX D s ≤ (S (p * 6 + 2)) - 1))))] σ Q
        refine e_if_eq 183 dX10_pieceOf_144 (by decide) (fun c144 => ?_) (fun c144 => ?_)
        · have c144 := bn0 c144
          refine e_iinc (v := nI (p + 1)) (L1 := [some (.ref 89), some (.int (nI s)), some (.int (nI (mX D s))), some (.int (nI (mY D s))), some (.int (nI (p + 1)))]) dX10_pieceOf_183 rfl (show nI p + Int32.ofInt 1 = nI (p + 1) from nI_add p 1) (by decide) rfl ?_
          refine e_goto 65 dX10_pieceOf_186 (by decide) ?_
          refine ih (p + 1) (by omega) ?_
          have hf : mhit D S s p = false := decide_eq_false (by intro hh; have c144 := dfls c144; omega)
          rw [mfd, hf] at h
          exact h
        · have c144 := bn1 c144
          refine e_iload_n dX10_pieceOf_147 rfl rfl ?_
          refine e_aload_n dX10_pieceOf_148 rfl rfl ?_
          refine e_getR (q := 197) dX10_pieceOf_149 fl_RX10_49 (Ms.s 89 rfl) (Ms.n (by decide)) rfl (Ms.r 89 19 rfl) (by unfold fscr; omega) ?_
          refine e_bipush (nI 6) dX10_pieceOf_152 (by decide) ?_
          refine e_iload dX10_pieceOf_154 rfl ?_
          refine e_imul dX10_pieceOf_156 ?_
          refine e_int (nI (6 * p)) (pk_mul 6 p) ?_
          refine e_iconst (nI 3) dX10_pieceOf_157 (by decide) ?_
          refine e_iadd dX10_pieceOf_158 ?_
          refine e_int (nI (6 * p + 3)) (nI_add (6 * p) 3) ?_
          refine e_iaload (6 * p + 3) dX10_pieceOf_159 (Ms.s 197 rfl) (Ms.n (by decide)) rfl (by omega) (by decide) ?_
          refine e_int (nI (S (p * 6 + 3))) (Mr.sm p 3 (by omega)) ?_
          refine e_aload_n dX10_pieceOf_160 rfl rfl ?_
          refine e_getR (q := 197) dX10_pieceOf_161 fl_RX10_49 (Ms.s 89 rfl) (Ms.n (by decide)) rfl (Ms.r 89 19 rfl) (by unfold fscr; omega) ?_
          refine e_bipush (nI 6) dX10_pieceOf_164 (by decide) ?_
          refine e_iload dX10_pieceOf_166 rfl ?_
          refine e_imul dX10_pieceOf_168 ?_
          refine e_int (nI (6 * p)) (pk_mul 6 p) ?_
          refine e_iconst (nI 4) dX10_pieceOf_169 (by decide) ?_
          refine e_iadd dX10_pieceOf_170 ?_
          refine e_int (nI (6 * p + 4)) (nI_add (6 * p) 4) ?_
          refine e_iaload (6 * p + 4) dX10_pieceOf_171 (Ms.s 197 rfl) (Ms.n (by decide)) rfl (by omega) (by decide) ?_
          refine e_int (nI (S (p * 6 + 4))) (Mr.sm p 4 (by omega)) ?_
          refine e_iconst (nI 1) dX10_pieceOf_172 (by decide) ?_
          refine e_isub dX10_pieceOf_173 ?_
          refine e_int (nI ((S (p * 6 + 4)) - 1)) (pk_sub (by omega)) ?_
          refine e_callS [.int (nI (mY D s)), .int (nI (S (p * 6 + 3))), .int (nI ((S (p * 6 + 4)) - 1))] dX10_pieceOf_174 cc_X10_in lk_RX10_110 st_X10_in in_RX10 rfl (Nat.le_of_ble_eq_true rfl) (Nat.le_of_ble_eq_true rfl) ?_
          refine t_X10_inN (by omega) (by omega) (by omega) (fK_i ?_)
          show fEv g _ mX10_pieceOf 177 [some (.ref 89), some (.int (nI s)), some (.int (nI (mX D s))), some (.int (nI (mY D s))), some (.int (nI p))] [.int (nI (bn (decide (S (p * 6 + 3) ≤ mY D s ∧ mY D s ≤ (S (p * 6 + 4)) - 1))))] σ Q
          refine e_if_eq 183 dX10_pieceOf_177 (by decide) (fun c177 => ?_) (fun c177 => ?_)
          · have c177 := bn0 c177
            refine e_iinc (v := nI (p + 1)) (L1 := [some (.ref 89), some (.int (nI s)), some (.int (nI (mX D s))), some (.int (nI (mY D s))), some (.int (nI (p + 1)))]) dX10_pieceOf_183 rfl (show nI p + Int32.ofInt 1 = nI (p + 1) from nI_add p 1) (by decide) rfl ?_
            refine e_goto 65 dX10_pieceOf_186 (by decide) ?_
            refine ih (p + 1) (by omega) ?_
            have hf : mhit D S s p = false := decide_eq_false (by intro hh; have c177 := dfls c177; omega)
            rw [mfd, hf] at h
            exact h
          · have c177 := bn1 c177
            refine e_iload dX10_pieceOf_180 rfl ?_
            have c144 := dtru c144
            have c177 := dtru c177
            have hf : mhit D S s p = true := decide_eq_true (by refine ⟨?_, ?_, ?_, ?_, ?_, ?_⟩ <;> omega)
            rw [mfd, hf] at h
            exact e_ireturn .int dX10_pieceOf_182 rfl rfl h
set_option maxRecDepth 20000 in
theorem t_X10_pieceOf {g : fGP} {d : Nat} {σ : fAH} {Q : fRes → fAH → Prop} {D : fSD} {S : Nat → Nat} {sd : Int32} {s : Nat} (Ms : fMs g σ) (Mr : fMr σ D S sd) (hD : fWD D) (hW : fWS D S) (hs : s < dT D 1) (h : Q (.inl (some (.int (mo (mpc D S s))))) σ) : fEv g (d + 1) mX10_pieceOf 0 (fent [.ref 89, .int (nI s)] 5) [] σ Q := by
  obtain ⟨t0, t1, t2, t3, t4, t5, t6⟩ := id hD.1
  obtain ⟨s0, s1, s2, s3, s4, s5, s6⟩ := hD.2.2.1 s hs
  have sb := hD.s2 hs
  show fEv g (d + 1) mX10_pieceOf 0 [some (.ref 89), some (.int (nI s)), none, none, none] [] σ Q
  rcases (show dS D s 1 = 0 ∨ dS D s 1 = 1 by omega) with wy | wy
  · refine e_aload_n dX10_pieceOf_0 rfl rfl ?_
    refine e_getR (q := 120) dX10_pieceOf_1 fl_RX10_34 (Ms.s 89 rfl) (Ms.n (by decide)) rfl (Ms.r 89 14 rfl) (by unfold fscr; omega) ?_
    refine e_iload_n dX10_pieceOf_4 rfl rfl ?_
    refine e_aaload (q := 121 + s) s dX10_pieceOf_5 (Ms.s 120 rfl) (by decide) (Ms.n (by decide)) rfl (by omega) (by decide) (Ms.r 120 _ (frf_slot _ (by omega))) (by unfold fscr; omega) ?_
    refine e_iconst (nI 1) dX10_pieceOf_6 (by decide) ?_
    refine e_iaload 1 dX10_pieceOf_7 (Ms.s _ (fsh_slot _ (by omega))) (Ms.n (by omega)) rfl (by omega) (by decide) ?_
    refine e_int (nI 0) ((Mr.slot s hs 1 (by decide)).trans (by rw [wy])) ?_
    refine e_if_ne 22 dX10_pieceOf_8 (by decide) (fun c => absurd c (by decide)) (fun _ => ?_)
    refine e_aload_n dX10_pieceOf_11 rfl rfl ?_
    refine e_getR (q := 120) dX10_pieceOf_12 fl_RX10_34 (Ms.s 89 rfl) (Ms.n (by decide)) rfl (Ms.r 89 14 rfl) (by unfold fscr; omega) ?_
    refine e_iload_n dX10_pieceOf_15 rfl rfl ?_
    refine e_aaload (q := 121 + s) s dX10_pieceOf_16 (Ms.s 120 rfl) (by decide) (Ms.n (by decide)) rfl (by omega) (by decide) (Ms.r 120 _ (frf_slot _ (by omega))) (by unfold fscr; omega) ?_
    refine e_iconst (nI 2) dX10_pieceOf_17 (by decide) ?_
    refine e_iaload 2 dX10_pieceOf_18 (Ms.s _ (fsh_slot _ (by omega))) (Ms.n (by omega)) rfl (by omega) (by decide) ?_
    refine e_int (nI (mX D s)) ((Mr.slot s hs 2 (by decide)).trans (by unfold mX; rw [wy]; rfl)) ?_
    refine e_goto 30 dX10_pieceOf_19 (by decide) ?_
    refine e_istore_n (L1 := [some (.ref 89), some (.int (nI s)), some (.int (nI (mX D s))), none, none]) dX10_pieceOf_30 rfl (by decide) rfl ?_
    refine e_aload_n dX10_pieceOf_31 rfl rfl ?_
    refine e_getR (q := 120) dX10_pieceOf_32 fl_RX10_34 (Ms.s 89 rfl) (Ms.n (by decide)) rfl (Ms.r 89 14 rfl) (by unfold fscr; omega) ?_
    refine e_iload_n dX10_pieceOf_35 rfl rfl ?_
    refine e_aaload (q := 121 + s) s dX10_pieceOf_36 (Ms.s 120 rfl) (by decide) (Ms.n (by decide)) rfl (by omega) (by decide) (Ms.r 120 _ (frf_slot _ (by omega))) (by unfold fscr; omega) ?_
    refine e_iconst (nI 1) dX10_pieceOf_37 (by decide) ?_
    refine e_iaload 1 dX10_pieceOf_38 (Ms.s _ (fsh_slot _ (by omega))) (Ms.n (by omega)) rfl (by omega) (by decide) ?_
    refine e_int (nI 0) ((Mr.slot s hs 1 (by decide)).trans (by rw [wy])) ?_
    refine e_if_ne 53 dX10_pieceOf_39 (by decide) (fun c => absurd c (by decide)) (fun _ => ?_)
    refine e_aload_n dX10_pieceOf_42 rfl rfl ?_
    refine e_getR (q := 120) dX10_pieceOf_43 fl_RX10_34 (Ms.s 89 rfl) (Ms.n (by decide)) rfl (Ms.r 89 14 rfl) (by unfold fscr; omega) ?_
    refine e_iload_n dX10_pieceOf_46 rfl rfl ?_
    refine e_aaload (q := 121 + s) s dX10_pieceOf_47 (Ms.s 120 rfl) (by decide) (Ms.n (by decide)) rfl (by omega) (by decide) (Ms.r 120 _ (frf_slot _ (by omega))) (by unfold fscr; omega) ?_
    refine e_iconst (nI 3) dX10_pieceOf_48 (by decide) ?_
    refine e_iaload 3 dX10_pieceOf_49 (Ms.s _ (fsh_slot _ (by omega))) (Ms.n (by omega)) rfl (by omega) (by decide) ?_
    refine e_int (nI (mY D s)) ((Mr.slot s hs 3 (by decide)).trans (by unfold mY; rw [wy]; rfl)) ?_
    refine e_goto 61 dX10_pieceOf_50 (by decide) ?_
    refine e_istore_n (L1 := [some (.ref 89), some (.int (nI s)), some (.int (nI (mX D s))), some (.int (nI (mY D s))), none]) dX10_pieceOf_61 rfl (by decide) rfl ?_
    refine e_iconst (nI 0) dX10_pieceOf_62 (by decide) ?_
    refine e_istore (L1 := [some (.ref 89), some (.int (nI s)), some (.int (nI (mX D s))), some (.int (nI (mY D s))), some (.int (nI 0))]) dX10_pieceOf_63 (by decide) rfl ?_
    exact l_X10_pieceOf Ms Mr hD hW hs (S 120) 0 (by omega) h
  · refine e_aload_n dX10_pieceOf_0 rfl rfl ?_
    refine e_getR (q := 120) dX10_pieceOf_1 fl_RX10_34 (Ms.s 89 rfl) (Ms.n (by decide)) rfl (Ms.r 89 14 rfl) (by unfold fscr; omega) ?_
    refine e_iload_n dX10_pieceOf_4 rfl rfl ?_
    refine e_aaload (q := 121 + s) s dX10_pieceOf_5 (Ms.s 120 rfl) (by decide) (Ms.n (by decide)) rfl (by omega) (by decide) (Ms.r 120 _ (frf_slot _ (by omega))) (by unfold fscr; omega) ?_
    refine e_iconst (nI 1) dX10_pieceOf_6 (by decide) ?_
    refine e_iaload 1 dX10_pieceOf_7 (Ms.s _ (fsh_slot _ (by omega))) (Ms.n (by omega)) rfl (by omega) (by decide) ?_
    refine e_int (nI 1) ((Mr.slot s hs 1 (by decide)).trans (by rw [wy])) ?_
    refine e_if_ne 22 dX10_pieceOf_8 (by decide) (fun _ => ?_) (fun c => absurd c (by decide))
    refine e_aload_n dX10_pieceOf_22 rfl rfl ?_
    refine e_getR (q := 120) dX10_pieceOf_23 fl_RX10_34 (Ms.s 89 rfl) (Ms.n (by decide)) rfl (Ms.r 89 14 rfl) (by unfold fscr; omega) ?_
    refine e_iload_n dX10_pieceOf_26 rfl rfl ?_
    refine e_aaload (q := 121 + s) s dX10_pieceOf_27 (Ms.s 120 rfl) (by decide) (Ms.n (by decide)) rfl (by omega) (by decide) (Ms.r 120 _ (frf_slot _ (by omega))) (by unfold fscr; omega) ?_
    refine e_iconst (nI 3) dX10_pieceOf_28 (by decide) ?_
    refine e_iaload 3 dX10_pieceOf_29 (Ms.s _ (fsh_slot _ (by omega))) (Ms.n (by omega)) rfl (by omega) (by decide) ?_
    refine e_int (nI (mX D s)) ((Mr.slot s hs 3 (by decide)).trans (by unfold mX; rw [wy]; rfl)) ?_
    refine e_istore_n (L1 := [some (.ref 89), some (.int (nI s)), some (.int (nI (mX D s))), none, none]) dX10_pieceOf_30 rfl (by decide) rfl ?_
    refine e_aload_n dX10_pieceOf_31 rfl rfl ?_
    refine e_getR (q := 120) dX10_pieceOf_32 fl_RX10_34 (Ms.s 89 rfl) (Ms.n (by decide)) rfl (Ms.r 89 14 rfl) (by unfold fscr; omega) ?_
    refine e_iload_n dX10_pieceOf_35 rfl rfl ?_
    refine e_aaload (q := 121 + s) s dX10_pieceOf_36 (Ms.s 120 rfl) (by decide) (Ms.n (by decide)) rfl (by omega) (by decide) (Ms.r 120 _ (frf_slot _ (by omega))) (by unfold fscr; omega) ?_
    refine e_iconst (nI 1) dX10_pieceOf_37 (by decide) ?_
    refine e_iaload 1 dX10_pieceOf_38 (Ms.s _ (fsh_slot _ (by omega))) (Ms.n (by omega)) rfl (by omega) (by decide) ?_
    refine e_int (nI 1) ((Mr.slot s hs 1 (by decide)).trans (by rw [wy])) ?_
    refine e_if_ne 53 dX10_pieceOf_39 (by decide) (fun _ => ?_) (fun c => absurd c (by decide))
    refine e_aload_n dX10_pieceOf_53 rfl rfl ?_
    refine e_getR (q := 120) dX10_pieceOf_54 fl_RX10_34 (Ms.s 89 rfl) (Ms.n (by decide)) rfl (Ms.r 89 14 rfl) (by unfold fscr; omega) ?_
    refine e_iload_n dX10_pieceOf_57 rfl rfl ?_
    refine e_aaload (q := 121 + s) s dX10_pieceOf_58 (Ms.s 120 rfl) (by decide) (Ms.n (by decide)) rfl (by omega) (by decide) (Ms.r 120 _ (frf_slot _ (by omega))) (by unfold fscr; omega) ?_
    refine e_iconst (nI 2) dX10_pieceOf_59 (by decide) ?_
    refine e_iaload 2 dX10_pieceOf_60 (Ms.s _ (fsh_slot _ (by omega))) (Ms.n (by omega)) rfl (by omega) (by decide) ?_
    refine e_int (nI (mY D s)) ((Mr.slot s hs 2 (by decide)).trans (by unfold mY; rw [wy]; rfl)) ?_
    refine e_istore_n (L1 := [some (.ref 89), some (.int (nI s)), some (.int (nI (mX D s))), some (.int (nI (mY D s))), none]) dX10_pieceOf_61 rfl (by decide) rfl ?_
    refine e_iconst (nI 0) dX10_pieceOf_62 (by decide) ?_
    refine e_istore (L1 := [some (.ref 89), some (.int (nI s)), some (.int (nI (mX D s))), some (.int (nI (mY D s))), some (.int (nI 0))]) dX10_pieceOf_63 (by decide) rfl ?_
    exact l_X10_pieceOf Ms Mr hD hW hs (S 120) 0 (by omega) h
set_option maxRecDepth 20000 in
theorem t_X10_isInside {g : fGP} {d : Nat} {σ : fAH} {Q : fRes → fAH → Prop} {D : fSD} {S : Nat → Nat} {sd : Int32} {s p ln : Nat} (Ms : fMs g σ) (Mr : fMr σ D S sd) (hD : fWD D) (hW : fWS D S) (hs : s < dT D 1) (hp : p < S 120) (hl : ln < 1000) (h : Q (.inl (some (.int (nI (bn (mins D S s p ln)))))) σ) : fEv g d mX10_isInside 0 (fent [.ref 89, .int (nI s), .int (nI p), .int (nI ln)] 5) [] σ Q := by
  obtain ⟨t0, t1, t2, t3, t4, t5, t6⟩ := id hD.1
  obtain ⟨s0, s1, s2, s3, s4, s5, s6⟩ := hD.2.2.1 s hs
  have np := hW.n hD
  obtain ⟨p0, p1, p2, p3, p4, p5⟩ := hW.2.1 p hp
  have hb : S (p * 6 + (1 + 2 * dS D s 1)) ≤ 12 ∧ S (p * 6 + (2 + 2 * dS D s 1)) ≤ 12 := by rcases (show dS D s 1 = 0 ∨ dS D s 1 = 1 by omega) with e | e; rw [e]; exact ⟨show S (p * 6 + 1) ≤ 12 by omega, show S (p * 6 + 2) ≤ 12 by omega⟩; rw [e]; exact ⟨show S (p * 6 + 3) ≤ 12 by omega, show S (p * 6 + 4) ≤ 12 by omega⟩
  show fEv g d mX10_isInside 0 [some (.ref 89), some (.int (nI s)), some (.int (nI p)), some (.int (nI ln)), none] [] σ Q
  refine e_bipush (nI 6) dX10_isInside_0 (by decide) ?_
  refine e_iload_n dX10_isInside_2 rfl rfl ?_
  refine e_imul dX10_isInside_3 ?_
  refine e_int (nI (6 * p)) (pk_mul 6 p) ?_
  refine e_iconst (nI 1) dX10_isInside_4 (by decide) ?_
  refine e_iadd dX10_isInside_5 ?_
  refine e_int (nI (6 * p + 1)) (nI_add (6 * p) 1) ?_
  refine e_iconst (nI 2) dX10_isInside_6 (by decide) ?_
  refine e_aload_n dX10_isInside_7 rfl rfl ?_
  refine e_getR (q := 120) dX10_isInside_8 fl_RX10_34 (Ms.s 89 rfl) (Ms.n (by decide)) rfl (Ms.r 89 14 rfl) (by unfold fscr; omega) ?_
  refine e_iload_n dX10_isInside_11 rfl rfl ?_
  refine e_aaload (q := 121 + s) s dX10_isInside_12 (Ms.s 120 rfl) (by decide) (Ms.n (by decide)) rfl (by omega) (by decide) (Ms.r 120 _ (frf_slot _ (by omega))) (by unfold fscr; omega) ?_
  refine e_iconst (nI 1) dX10_isInside_13 (by decide) ?_
  refine e_iaload 1 dX10_isInside_14 (Ms.s _ (fsh_slot _ (by omega))) (Ms.n (by omega)) rfl (by omega) (by decide) ?_
  refine e_int (nI (dS D s 1)) (Mr.slot s (by omega) 1 (by omega)) ?_
  refine e_imul dX10_isInside_15 ?_
  refine e_int (nI (2 * (dS D s 1))) (pk_mul 2 (dS D s 1)) ?_
  refine e_iadd dX10_isInside_16 ?_
  refine e_int (nI (6 * p + 1 + 2 * (dS D s 1))) (nI_add (6 * p + 1) (2 * (dS D s 1))) ?_
  refine e_istore (L1 := [some (.ref 89), some (.int (nI s)), some (.int (nI p)), some (.int (nI ln)), some (.int (nI (6 * p + 1 + 2 * (dS D s 1))))]) dX10_isInside_17 (by decide) rfl ?_
  refine e_iload_n dX10_isInside_19 rfl rfl ?_
  refine e_aload_n dX10_isInside_20 rfl rfl ?_
  refine e_getR (q := 197) dX10_isInside_21 fl_RX10_49 (Ms.s 89 rfl) (Ms.n (by decide)) rfl (Ms.r 89 19 rfl) (by unfold fscr; omega) ?_
  refine e_iload dX10_isInside_24 rfl ?_
  refine e_iaload (6 * p + 1 + 2 * (dS D s 1)) dX10_isInside_26 (Ms.s 197 rfl) (Ms.n (by decide)) rfl (by omega) (by decide) ?_
  refine e_int (nI (S (p * 6 + (1 + 2 * dS D s 1)))) (show fI σ 197 (6 * p + 1 + 2 * dS D s 1) = nI (S (p * 6 + (1 + 2 * dS D s 1))) by rw [show 6 * p + 1 + 2 * dS D s 1 = p * 6 + (1 + 2 * dS D s 1) by omega]; exact Mr.s _ (by omega)) ?_
  refine e_icmp_le 47 dX10_isInside_27 (by decide) (fun c27 => ?_) (fun c27 => ?_)
  · rw [nI_le' (by omega) (by omega)] at c27
    have hm : mins D S s p ln = false := decide_eq_false (by intro hh; omega)
    rw [hm] at h
    refine e_iconst (nI 0) dX10_isInside_47 (by decide) ?_
    exact e_ireturn .boolean dX10_isInside_48 rfl (by decide) (h)
  · rw [nI_le' (by omega) (by omega)] at c27
    refine e_iload_n dX10_isInside_30 rfl rfl ?_
    refine e_aload_n dX10_isInside_31 rfl rfl ?_
    refine e_getR (q := 197) dX10_isInside_32 fl_RX10_49 (Ms.s 89 rfl) (Ms.n (by decide)) rfl (Ms.r 89 19 rfl) (by unfold fscr; omega) ?_
    refine e_iload dX10_isInside_35 rfl ?_
    refine e_iconst (nI 1) dX10_isInside_37 (by decide) ?_
    refine e_iadd dX10_isInside_38 ?_
    refine e_int (nI (6 * p + 1 + 2 * (dS D s 1) + 1)) (nI_add (6 * p + 1 + 2 * (dS D s 1)) 1) ?_
    refine e_iaload (6 * p + 1 + 2 * (dS D s 1) + 1) dX10_isInside_39 (Ms.s 197 rfl) (Ms.n (by decide)) rfl (by omega) (by decide) ?_
    refine e_int (nI (S (p * 6 + (2 + 2 * dS D s 1)))) (show fI σ 197 (6 * p + 1 + 2 * dS D s 1 + 1) = nI (S (p * 6 + (2 + 2 * dS D s 1))) by rw [show 6 * p + 1 + 2 * dS D s 1 + 1 = p * 6 + (2 + 2 * dS D s 1) by omega]; exact Mr.s _ (by omega)) ?_
    refine e_icmp_ge 47 dX10_isInside_40 (by decide) (fun c40 => ?_) (fun c40 => ?_)
    · rw [nI_le' (by omega) (by omega)] at c40
      have hm : mins D S s p ln = false := decide_eq_false (by intro hh; omega)
      rw [hm] at h
      refine e_iconst (nI 0) dX10_isInside_47 (by decide) ?_
      exact e_ireturn .boolean dX10_isInside_48 rfl (by decide) (h)
    · rw [nI_le' (by omega) (by omega)] at c40
      have hm : mins D S s p ln = true := decide_eq_true (by constructor <;> omega)
      rw [hm] at h
      refine e_iconst (nI 1) dX10_isInside_43 (by decide) ?_
      refine e_goto 48 dX10_isInside_44 (by decide) ?_
      exact e_ireturn .boolean dX10_isInside_48 rfl (by decide) (h)
set_option maxRecDepth 20000 in
theorem t_X10_isAlive {g : fGP} {d : Nat} {σ : fAH} {Q : fRes → fAH → Prop} {D : fSD} {S : Nat → Nat} {sd : Int32} {s : Nat} (Ms : fMs g σ) (Mr : fMr σ D S sd) (hD : fWD D) (hW : fWS D S) (hs : s < dT D 1) (h : Q (.inl (some (.int (nI (bn (mal D S s)))))) σ) : fEv g (d + 2) mX10_isAlive 0 (fent [.ref 89, .int (nI s)] 3) [] σ Q := by
  obtain ⟨t0, t1, t2, t3, t4, t5, t6⟩ := id hD.1
  obtain ⟨s0, s1, s2, s3, s4, s5, s6⟩ := hD.2.2.1 s hs
  have sb := hD.s2 hs
  have np := hW.n hD
  have dp := hW.2.2.1 s hs
  show fEv g (d + 2) mX10_isAlive 0 [some (.ref 89), some (.int (nI s)), none] [] σ Q
  refine e_aload_n dX10_isAlive_0 rfl rfl ?_
  refine e_getR (q := 197) dX10_isAlive_1 fl_RX10_49 (Ms.s 89 rfl) (Ms.n (by decide)) rfl (Ms.r 89 19 rfl) (by unfold fscr; omega) ?_
  refine e_sipush (nI 133) dX10_isAlive_4 (by decide) ?_
  refine e_iload_n dX10_isAlive_7 rfl rfl ?_
  refine e_iadd dX10_isAlive_8 ?_
  refine e_int (nI (133 + s)) (nI_add 133 s) ?_
  refine e_iaload (133 + s) dX10_isAlive_9 (Ms.s 197 rfl) (Ms.n (by decide)) rfl (by omega) (by decide) ?_
  refine e_int (nI (S (133 + s))) (Mr.s (133 + s) (by omega)) ?_
  refine e_if_le 15 dX10_isAlive_10 (by decide) (fun c10 => ?_) (fun c10 => ?_)
  · rw [nI_zle (by omega)] at c10
    have hz : decide (S (133 + s) = 0) = true := decide_eq_true (by omega)
    have ha : Q (.inl (some (.int (nI (bn (match mpc D S s with | none => false | some p => mins D S s p (dS D s 2))))))) σ := by unfold mal at h; rw [hz] at h; exact h
    refine e_aload_n dX10_isAlive_15 rfl rfl ?_
    refine e_iload_n dX10_isAlive_16 rfl rfl ?_
    refine e_callV (k := 89) [.int (nI s)] dX10_isAlive_17 cc_X10_pieceOf lk_RX10_168 im_X10_pieceOf se_X10_pieceOf (by decide) (Ms.s 89 rfl) (Ms.n (by decide)) rfl (Nat.le_of_ble_eq_true rfl) (Nat.le_of_ble_eq_true rfl) ?_
    refine t_X10_pieceOf Ms Mr hD hW (by omega) (fK_i ?_)
    show fEv g _ mX10_isAlive 20 [some (.ref 89), some (.int (nI s)), none] [.int (mo (mpc D S s))] σ Q
    cases hpc : mpc D S s with
    | none =>
      refine e_int (-1) rfl ?_
      rw [hpc] at ha
      refine e_istore_n (L1 := [some (.ref 89), some (.int (nI s)), some (.int ((-1)))]) dX10_isAlive_20 rfl (by decide) rfl ?_
      refine e_iload_n dX10_isAlive_21 rfl rfl ?_
      refine e_iconst (-1) dX10_isAlive_22 (by decide) ?_
      refine e_icmp_eq 47 dX10_isAlive_23 (by decide) (fun _ => ?_) (fun c => absurd rfl c)
      refine e_iconst (nI 0) dX10_isAlive_47 (by decide) ?_
      exact e_ireturn .boolean dX10_isAlive_48 rfl (by decide) ha
    | some p =>
      refine e_int (nI p) rfl ?_
      have hp := (mpc_lt hpc).1
      rw [hpc] at ha
      have ha : Q (.inl (some (.int (nI (bn (mins D S s p (dS D s 2))))))) σ := ha
      refine e_istore_n (L1 := [some (.ref 89), some (.int (nI s)), some (.int (nI p))]) dX10_isAlive_20 rfl (by decide) rfl ?_
      refine e_iload_n dX10_isAlive_21 rfl rfl ?_
      refine e_iconst (-1) dX10_isAlive_22 (by decide) ?_
      refine e_icmp_eq 47 dX10_isAlive_23 (by decide) (fun c => absurd c (nI_m1 (by omega))) (fun _ => ?_)
      refine e_aload_n dX10_isAlive_26 rfl rfl ?_
      refine e_iload_n dX10_isAlive_27 rfl rfl ?_
      refine e_iload_n dX10_isAlive_28 rfl rfl ?_
      refine e_aload_n dX10_isAlive_29 rfl rfl ?_
      refine e_getR (q := 120) dX10_isAlive_30 fl_RX10_34 (Ms.s 89 rfl) (Ms.n (by decide)) rfl (Ms.r 89 14 rfl) (by unfold fscr; omega) ?_
      refine e_iload_n dX10_isAlive_33 rfl rfl ?_
      refine e_aaload (q := 121 + s) s dX10_isAlive_34 (Ms.s 120 rfl) (by decide) (Ms.n (by decide)) rfl (by omega) (by decide) (Ms.r 120 _ (frf_slot _ (by omega))) (by unfold fscr; omega) ?_
      refine e_iconst (nI 2) dX10_isAlive_35 (by decide) ?_
      refine e_iaload 2 dX10_isAlive_36 (Ms.s _ (fsh_slot _ (by omega))) (Ms.n (by omega)) rfl (by omega) (by decide) ?_
      refine e_int (nI (dS D s 2)) (Mr.slot s (by omega) 2 (by omega)) ?_
      refine e_callV (k := 89) [.int (nI s), .int (nI p), .int (nI (dS D s 2))] dX10_isAlive_37 cc_X10_isInside lk_RX10_171 im_X10_isInside se_X10_isInside (by decide) (Ms.s 89 rfl) (Ms.n (by decide)) rfl (Nat.le_of_ble_eq_true rfl) (Nat.le_of_ble_eq_true rfl) ?_
      refine t_X10_isInside Ms Mr hD hW (by omega) (by omega) (by omega) (fK_i ?_)
      show fEv g _ mX10_isAlive 40 [some (.ref 89), some (.int (nI s)), some (.int (nI p))] [.int (nI (bn (mins D S s p (dS D s 2))))] σ Q
      refine e_if_eq 47 dX10_isAlive_40 (by decide) (fun c40 => ?_) (fun c40 => ?_)
      · have c40 := bn0 c40
        rw [c40] at ha
        refine e_iconst (nI 0) dX10_isAlive_47 (by decide) ?_
        exact e_ireturn .boolean dX10_isAlive_48 rfl (by decide) ha
      · have c40 := bn1 c40
        rw [c40] at ha
        refine e_iconst (nI 1) dX10_isAlive_43 (by decide) ?_
        refine e_goto 48 dX10_isAlive_44 (by decide) ?_
        exact e_ireturn .boolean dX10_isAlive_48 rfl (by decide) ha
  · rw [nI_zle (by omega)] at c10
    have hz : decide (S (133 + s) = 0) = false := decide_eq_false (by omega)
    unfold mal at h
    rw [hz] at h
    refine e_iconst (nI 0) dX10_isAlive_13 (by decide) ?_
    exact e_ireturn .boolean dX10_isAlive_14 rfl (by decide) h
