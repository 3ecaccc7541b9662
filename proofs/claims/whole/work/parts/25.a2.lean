theorem fa_or (a b : Nat) : nI a ||| nI b = nI (a ||| b) := by
  apply Int32.toBitVec_inj.1
  show BitVec.ofNat 32 a ||| BitVec.ofNat 32 b = BitVec.ofNat 32 (a ||| b)
  apply BitVec.eq_of_getLsbD_eq
  intro i hi
  simp [hi]
theorem nI_orb {a i : Nat} (h : a < 2 ^ i) : nI a ||| nI (2 ^ i) = nI (a + 2 ^ i) := by
  rw [fa_or, Nat.or_comm]
  have := Nat.two_pow_add_eq_or_of_lt h 1
  rw [Nat.mul_one] at this
  rw [← this, Nat.add_comm]
theorem nI_or0 (a : Nat) : nI a ||| nI 0 = nI a := by
  rw [fa_or]
  simp
theorem nI_sh1 {i : Nat} (h : i < 31) : nI 1 <<< (nI i &&& 31) = nI (2 ^ i) := by
  have := nI_shl (m := 1) (k := i) (by omega) (by rw [Nat.one_mul]; exact Nat.lt_of_lt_of_le (Nat.pow_lt_pow_right (by decide) (show i < 32 by omega)) (by decide))
  rw [Nat.one_mul] at this
  exact this
theorem pw_lt {a i : Nat} (h : a < 2 ^ i) : a + 2 ^ i < 2 ^ (i + 1) := by rw [Nat.pow_succ]; omega
theorem pw_le {a i : Nat} (h : a < 2 ^ i) : a < 2 ^ (i + 1) := by rw [Nat.pow_succ]; omega
theorem pw_12 {a i : Nat} (h : a < 2 ^ i) (hi : i ≤ 12) : a < 4096 := Nat.lt_of_lt_of_le h (Nat.pow_le_pow_right (by decide) hi)
/-- the bits i, .., of those n places at which f holds -/
def mbf (f : Nat → Bool) : Nat → Nat → Nat
  | 0, _ => 0
  | n + 1, i => (if f i then 2 ^ i else 0) + mbf f n (i + 1)
theorem mbf_t {f : Nat → Bool} {n i : Nat} (h : f i = true) : mbf f (n + 1) i = 2 ^ i + mbf f n (i + 1) := by
  show (if f i then 2 ^ i else 0) + _ = _
  rw [h]; rfl
theorem mbf_f {f : Nat → Bool} {n i : Nat} (h : f i = false) : mbf f (n + 1) i = mbf f n (i + 1) := by
  show (if f i then 2 ^ i else 0) + _ = _
  rw [h]; exact Nat.zero_add _
def mbits (D : fSD) (S : Nat → Nat) : Nat := mbf (mal D S) (dT D 1) 0
/-- the same, but no more than so many of them; c stand already -/
def mfa (f : Nat → Bool) (most : Nat) : Nat → Nat → Nat → Nat
  | 0, _, _ => 0
  | n + 1, i, c => if c < most then (if f i then 2 ^ i + mfa f most n (i + 1) (c + 1) else mfa f most n (i + 1) c) else 0
theorem mfa_t {f : Nat → Bool} {most n i c : Nat} (hc : c < most) (h : f i = true) : mfa f most (n + 1) i c = 2 ^ i + mfa f most n (i + 1) (c + 1) := by
  show (if c < most then (if f i then _ else _) else 0) = _
  rw [if_pos hc, h]; rfl
theorem mfa_f {f : Nat → Bool} {most n i c : Nat} (hc : c < most) (h : f i = false) : mfa f most (n + 1) i c = mfa f most n (i + 1) c := by
  show (if c < most then (if f i then _ else _) else 0) = _
  rw [if_pos hc, h]; rfl
theorem mfa_o {f : Nat → Bool} {most : Nat} : ∀ {n i c : Nat}, ¬ c < most → mfa f most n i c = 0
  | 0, _, _, _ => rfl
  | n + 1, i, c, h => by
    show (if c < most then _ else 0) = 0
    rw [if_neg h]
def mon (b : Nat) : Nat → Nat → Nat
  | 0, _ => 0
  | n + 1, i => b / 2 ^ i % 2 + mon b n (i + 1)
/-- how many of the places i .. f holds at -/
def mct (f : Nat → Bool) : Nat → Nat → Nat
  | 0, _ => 0
  | n + 1, i => bn (f i) + mct f n (i + 1)
def msf (f : Nat → Nat) : Nat → Nat → Nat
  | 0, _ => 0
  | n + 1, i => f i + msf f n (i + 1)
theorem d2 {b i : Nat} : b / 2 ^ i % 2 < 2 := Nat.mod_lt _ (by decide)
set_option maxRecDepth 20000 in
theorem l_X10_alive {g : fGP} {d : Nat} {σ : fAH} {Q : fRes → fAH → Prop} {D : fSD} {S : Nat → Nat} {sd : Int32} (Ms : fMs g σ) (Mr : fMr σ D S sd) (hD : fWD D) (hW : fWS D S) : ∀ (n i : Nat) (a : Nat), i + n = dT D 1 → a < 2 ^ i → Q (.inl (some (.int (nI (a + mbf (mal D S) n i))))) σ → fEv g (d + 3) mX10_alive 4 [some (.ref 89), some (.int (nI a)), some (.int (nI i))] [] σ Q := by
  obtain ⟨t0, t1, t2, t3, t4, t5, t6⟩ := id hD.1
  intro n
  induction n with
  | zero =>
    intro i a hin pa h
    refine e_iload_n dX10_alive_4 rfl rfl ?_
    refine e_aload_n dX10_alive_5 rfl rfl ?_
    refine e_getR (q := 92) dX10_alive_6 fl_RX10_20 (Ms.s 89 rfl) (Ms.n (by decide)) rfl (Ms.r 89 10 rfl) (by unfold fscr; omega) ?_
    refine e_iconst (nI 1) dX10_alive_9 (by decide) ?_
    refine e_iaload 1 dX10_alive_10 (Ms.s 92 rfl) (Ms.n (by decide)) rfl (by omega) (by decide) ?_
    refine e_int (nI (dT D 1)) (Mr.t 1 (by omega)) ?_
    refine e_icmp_ge 38 dX10_alive_11 (by decide) (fun cz => ?_) (fun cz => absurd ((nI_le' (by omega) (by omega)).mpr (by omega)) cz)
    refine e_iload_n dX10_alive_38 rfl rfl ?_
    exact e_ireturn .int dX10_alive_39 rfl rfl (h)
  | succ n ih =>
    intro i a hin pa h
    have hi : i < dT D 1 := by omega
    refine e_iload_n dX10_alive_4 rfl rfl ?_
    refine e_aload_n dX10_alive_5 rfl rfl ?_
    refine e_getR (q := 92) dX10_alive_6 fl_RX10_20 (Ms.s 89 rfl) (Ms.n (by decide)) rfl (Ms.r 89 10 rfl) (by unfold fscr; omega) ?_
    refine e_iconst (nI 1) dX10_alive_9 (by decide) ?_
    refine e_iaload 1 dX10_alive_10 (Ms.s 92 rfl) (Ms.n (by decide)) rfl (by omega) (by decide) ?_
    refine e_int (nI (dT D 1)) (Mr.t 1 (by omega)) ?_
    refine e_icmp_ge 38 dX10_alive_11 (by decide) (fun cz => absurd ((nI_le' (by omega) (by omega)).mp cz) (by omega)) (fun cz => ?_)
    refine e_iload_n dX10_alive_14 rfl rfl ?_
    refine e_aload_n dX10_alive_15 rfl rfl ?_
    refine e_iload_n dX10_alive_16 rfl rfl ?_
    refine e_callV (k := 89) [.int (nI i)] dX10_alive_17 cc_X10_isAlive lk_RX10_183 im_X10_isAlive se_X10_isAlive (by decide) (Ms.s 89 rfl) (Ms.n (by decide)) rfl (Nat.le_of_ble_eq_true rfl) (Nat.le_of_ble_eq_true rfl) ?_
    refine t_X10_isAlive Ms Mr hD hW (by omega) (fK_i ?_)
    show fEv g _ mX10_alive 20 [some (.ref 89), some (.int (nI a)), some (.int (nI i))] [.int (nI (bn (mal D S i))), .int (nI a)] σ Q
    refine e_if_eq 29 dX10_alive_20 (by decide) (fun c20 => ?_) (fun c20 => ?_)
    · have c20 := bn0 c20
      refine e_iconst (nI 0) dX10_alive_29 (by decide) ?_
      refine e_ior dX10_alive_30 ?_
      refine e_int (nI a) (nI_or0 a) ?_
      refine e_istore_n (L1 := [some (.ref 89), some (.int (nI a)), some (.int (nI i))]) dX10_alive_31 rfl (by decide) rfl ?_
      refine e_iinc (v := nI (i + 1)) (L1 := [some (.ref 89), some (.int (nI a)), some (.int (nI (i + 1)))]) dX10_alive_32 rfl (show nI i + Int32.ofInt 1 = nI (i + 1) from nI_add i 1) (by decide) rfl ?_
      refine e_goto 4 dX10_alive_35 (by decide) ?_
      refine ih (i + 1) a (by omega) (pw_le pa) ?_
      rw [mbf_f c20] at h
      exact h
    · have c20 := bn1 c20
      refine e_iconst (nI 1) dX10_alive_23 (by decide) ?_
      refine e_iload_n dX10_alive_24 rfl rfl ?_
      refine e_ishl dX10_alive_25 ?_
      refine e_int (nI (2 ^ i)) (nI_sh1 (by omega)) ?_
      refine e_goto 30 dX10_alive_26 (by decide) ?_
      refine e_ior dX10_alive_30 ?_
      refine e_int (nI (a + 2 ^ i)) (nI_orb pa) ?_
      refine e_istore_n (L1 := [some (.ref 89), some (.int (nI (a + 2 ^ i))), some (.int (nI i))]) dX10_alive_31 rfl (by decide) rfl ?_
      refine e_iinc (v := nI (i + 1)) (L1 := [some (.ref 89), some (.int (nI (a + 2 ^ i))), some (.int (nI (i + 1)))]) dX10_alive_32 rfl (show nI i + Int32.ofInt 1 = nI (i + 1) from nI_add i 1) (by decide) rfl ?_
      refine e_goto 4 dX10_alive_35 (by decide) ?_
      refine ih (i + 1) (a + 2 ^ i) (by omega) (pw_lt pa) ?_
      rw [mbf_t c20, ← Nat.add_assoc] at h
      exact h
set_option maxRecDepth 20000 in
theorem t_X10_alive {g : fGP} {d : Nat} {σ : fAH} {Q : fRes → fAH → Prop} {D : fSD} {S : Nat → Nat} {sd : Int32} (Ms : fMs g σ) (Mr : fMr σ D S sd) (hD : fWD D) (hW : fWS D S) (h : Q (.inl (some (.int (nI (mbits D S))))) σ) : fEv g (d + 3) mX10_alive 0 (fent [.ref 89] 3) [] σ Q := by
  show fEv g (d + 3) mX10_alive 0 [some (.ref 89), none, none] [] σ Q
  refine e_iconst (nI 0) dX10_alive_0 (by decide) ?_
  refine e_istore_n (L1 := [some (.ref 89), some (.int (nI 0)), none]) dX10_alive_1 rfl (by decide) rfl ?_
  refine e_iconst (nI 0) dX10_alive_2 (by decide) ?_
  refine e_istore_n (L1 := [some (.ref 89), some (.int (nI 0)), some (.int (nI 0))]) dX10_alive_3 rfl (by decide) rfl ?_
  exact l_X10_alive Ms Mr hD hW (dT D 1) 0 0 (by omega) (by decide) (by rw [Nat.zero_add]; exact h)
set_option maxRecDepth 20000 in
theorem l_X10_ones {g : fGP} {d : Nat} {σ : fAH} {Q : fRes → fAH → Prop} {b : Nat} (hb : b < 2147483648) : ∀ (n i : Nat) (a : Nat), i + n = 12 → Q (.inl (some (.int (nI (a + mon b n i))))) σ → fEv g (d) mX10_ones 4 [some (.int (nI b)), some (.int (nI a)), some (.int (nI i))] [] σ Q := by
  intro n
  induction n with
  | zero =>
    intro i a hin  h
    refine e_iload_n dX10_ones_4 rfl rfl ?_
    refine e_bipush (nI 12) dX10_ones_5 (by decide) ?_
    refine e_icmp_ge 24 dX10_ones_7 (by decide) (fun cz => ?_) (fun cz => absurd ((nI_le' (by omega) (by omega)).mpr (by omega)) cz)
    refine e_iload_n dX10_ones_24 rfl rfl ?_
    exact e_ireturn .int dX10_ones_25 rfl rfl (h)
  | succ n ih =>
    intro i a hin  h
    have hi : i < 12 := by omega
    refine e_iload_n dX10_ones_4 rfl rfl ?_
    refine e_bipush (nI 12) dX10_ones_5 (by decide) ?_
    refine e_icmp_ge 24 dX10_ones_7 (by decide) (fun cz => absurd ((nI_le' (by omega) (by omega)).mp cz) (by omega)) (fun cz => ?_)
    refine e_iload_n dX10_ones_10 rfl rfl ?_
    refine e_iload_n dX10_ones_11 rfl rfl ?_
    refine e_iload_n dX10_ones_12 rfl rfl ?_
    refine e_ishr dX10_ones_13 ?_
    refine e_int (nI (b / 2 ^ i)) (nI_shr hb (by omega)) ?_
    refine e_iconst (nI 1) dX10_ones_14 (by decide) ?_
    refine e_iand dX10_ones_15 ?_
    refine e_int (nI (b / 2 ^ i % 2)) (nI_and1 (Nat.lt_of_le_of_lt (Nat.div_le_self _ _) (by omega))) ?_
    refine e_iadd dX10_ones_16 ?_
    refine e_int (nI (a + b / 2 ^ i % 2)) (nI_add a (b / 2 ^ i % 2)) ?_
    refine e_istore_n (L1 := [some (.int (nI b)), some (.int (nI (a + b / 2 ^ i % 2))), some (.int (nI i))]) dX10_ones_17 rfl (by decide) rfl ?_
    refine e_iinc (v := nI (i + 1)) (L1 := [some (.int (nI b)), some (.int (nI (a + b / 2 ^ i % 2))), some (.int (nI (i + 1)))]) dX10_ones_18 rfl (show nI i + Int32.ofInt 1 = nI (i + 1) from nI_add i 1) (by decide) rfl ?_
    refine e_goto 4 dX10_ones_21 (by decide) ?_
    refine ih (i + 1) (a + b / 2 ^ i % 2) (by omega) ?_
    rw [mon, ← Nat.add_assoc] at h
    exact h
set_option maxRecDepth 20000 in
theorem t_X10_ones {g : fGP} {d : Nat} {σ : fAH} {Q : fRes → fAH → Prop} {b : Nat} (hb : b < 2147483648) (h : Q (.inl (some (.int (nI (mon b 12 0))))) σ) : fEv g (d) mX10_ones 0 (fent [.int (nI b)] 3) [] σ Q := by
  show fEv g (d) mX10_ones 0 [some (.int (nI b)), none, none] [] σ Q
  refine e_iconst (nI 0) dX10_ones_0 (by decide) ?_
  refine e_istore_n (L1 := [some (.int (nI b)), some (.int (nI 0)), none]) dX10_ones_1 rfl (by decide) rfl ?_
  refine e_iconst (nI 0) dX10_ones_2 (by decide) ?_
  refine e_istore_n (L1 := [some (.int (nI b)), some (.int (nI 0)), some (.int (nI 0))]) dX10_ones_3 rfl (by decide) rfl ?_
  exact l_X10_ones hb 12 0 0 (by omega) (by rw [Nat.zero_add]; exact h)
set_option maxRecDepth 20000 in
theorem l_X8_firstAlive {g : fGP} {d : Nat} {σ : fAH} {Q : fRes → fAH → Prop} {k q m : Nat} {D : fSD} {S : Nat → Nat} {sd : Int32} {most : Nat} (Gs : fGs g σ q) (Gr : fGr σ q D) (hD : fWD D) (Ys : fYs g σ k q) (Yr : fYr σ k D S m sd) (hW : fWS D S) (hm : most < 100) : ∀ (n i : Nat) (c : Nat) (a : Nat), i + n = dT D 1 → a < 2 ^ i → c ≤ i → Q (.inl (some (.int (nI (a + mfa (mal D S) most n i c))))) σ → fEv g (d + 3) mX8_firstAlive 7 [some (.ref k), some (.int (nI most)), some (.int (nI c)), some (.int (nI a)), some (.int (nI i))] [] σ Q := by
  obtain ⟨⟨g0, g1, g2, g3, g4, g5⟩, ⟨gn, gK⟩, ⟨gr0, gr1, gr2, gr3, gr4⟩⟩ := id Gs
  obtain ⟨⟨y0, y1, y2, y3, y4, y5, y6⟩, ⟨yn, yK⟩, ⟨yr0, yr1, yr2, yr3, yr4, yr5, yr6⟩⟩ := id Ys
  obtain ⟨t0, t1, t2, t3, t4, t5, t6⟩ := id hD.1
  intro n
  induction n with
  | zero =>
    intro i c a hin pa pc h
    refine e_iload dX8_firstAlive_7 rfl ?_
    refine e_aload_n dX8_firstAlive_9 rfl rfl ?_
    refine e_getR (q := q) dX8_firstAlive_10 fl_RX8_56 y0 (show k < fnx σ by omega) rfl yr0 (by unfold fscr; omega) ?_
    refine e_getI dX8_firstAlive_13 fl_RX8_68 g0 (show q < fnx σ by omega) rfl ?_
    refine e_int (nI (dT D 1)) Gr.1.2.1 ?_
    refine e_icmp_ge 49 dX8_firstAlive_16 (by decide) (fun cz => ?_) (fun cz => absurd ((nI_le' (by omega) (by omega)).mpr (by omega)) cz)
    refine e_iload_n dX8_firstAlive_49 rfl rfl ?_
    exact e_ireturn .int dX8_firstAlive_50 rfl rfl (h)
  | succ n ih =>
    intro i c a hin pa pc h
    have hi : i < dT D 1 := by omega
    refine e_iload dX8_firstAlive_7 rfl ?_
    refine e_aload_n dX8_firstAlive_9 rfl rfl ?_
    refine e_getR (q := q) dX8_firstAlive_10 fl_RX8_56 y0 (show k < fnx σ by omega) rfl yr0 (by unfold fscr; omega) ?_
    refine e_getI dX8_firstAlive_13 fl_RX8_68 g0 (show q < fnx σ by omega) rfl ?_
    refine e_int (nI (dT D 1)) Gr.1.2.1 ?_
    refine e_icmp_ge 49 dX8_firstAlive_16 (by decide) (fun cz => absurd ((nI_le' (by omega) (by omega)).mp cz) (by omega)) (fun cz => ?_)
    refine e_iload_n dX8_firstAlive_19 rfl rfl ?_
    refine e_iload_n dX8_firstAlive_20 rfl rfl ?_
    refine e_icmp_ge 49 dX8_firstAlive_21 (by decide) (fun c21 => ?_) (fun c21 => ?_)
    · rw [nI_le' (by omega) (by omega)] at c21
      refine e_iload_n dX8_firstAlive_49 rfl rfl ?_
      rw [mfa_o (by omega)] at h
      exact e_ireturn .int dX8_firstAlive_50 rfl rfl h
    · rw [nI_le' (by omega) (by omega)] at c21
      refine e_aload_n dX8_firstAlive_24 rfl rfl ?_
      refine e_iload dX8_firstAlive_25 rfl ?_
      refine e_callV (k := k) [.int (nI i)] dX8_firstAlive_27 cc_X8_isAlive lk_RX8_105 im_X8_isAlive se_X8_isAlive (by decide) y0 (show k < fnx σ by omega) rfl (Nat.le_of_ble_eq_true rfl) (Nat.le_of_ble_eq_true rfl) ?_
      refine t_X8_isAlive Gs Gr hD Ys Yr hW (by omega) (fK_i ?_)
      show fEv g _ mX8_firstAlive 30 [some (.ref k), some (.int (nI most)), some (.int (nI c)), some (.int (nI a)), some (.int (nI i))] [.int (nI (bn (mal D S i)))] σ Q
      refine e_if_eq 43 dX8_firstAlive_30 (by decide) (fun c30 => ?_) (fun c30 => ?_)
      · have c30 := bn0 c30
        refine e_iinc (v := nI (i + 1)) (L1 := [some (.ref k), some (.int (nI most)), some (.int (nI c)), some (.int (nI a)), some (.int (nI (i + 1)))]) dX8_firstAlive_43 rfl (show nI i + Int32.ofInt 1 = nI (i + 1) from nI_add i 1) (by decide) rfl ?_
        refine e_goto 7 dX8_firstAlive_46 (by decide) ?_
        refine ih (i + 1) c a (by omega) (pw_le pa) (by omega) ?_
        rw [mfa_f (by omega) c30] at h
        exact h
      · have c30 := bn1 c30
        refine e_iload_n dX8_firstAlive_33 rfl rfl ?_
        refine e_iconst (nI 1) dX8_firstAlive_34 (by decide) ?_
        refine e_iload dX8_firstAlive_35 rfl ?_
        refine e_ishl dX8_firstAlive_37 ?_
        refine e_int (nI (2 ^ i)) (nI_sh1 (by omega)) ?_
        refine e_ior dX8_firstAlive_38 ?_
        refine e_int (nI (a + 2 ^ i)) (nI_orb pa) ?_
        refine e_istore_n (L1 := [some (.ref k), some (.int (nI most)), some (.int (nI c)), some (.int (nI (a + 2 ^ i))), some (.int (nI i))]) dX8_firstAlive_39 rfl (by decide) rfl ?_
        refine e_iinc (v := nI (c + 1)) (L1 := [some (.ref k), some (.int (nI most)), some (.int (nI (c + 1))), some (.int (nI (a + 2 ^ i))), some (.int (nI i))]) dX8_firstAlive_40 rfl (show nI c + Int32.ofInt 1 = nI (c + 1) from nI_add c 1) (by decide) rfl ?_
        refine e_iinc (v := nI (i + 1)) (L1 := [some (.ref k), some (.int (nI most)), some (.int (nI (c + 1))), some (.int (nI (a + 2 ^ i))), some (.int (nI (i + 1)))]) dX8_firstAlive_43 rfl (show nI i + Int32.ofInt 1 = nI (i + 1) from nI_add i 1) (by decide) rfl ?_
        refine e_goto 7 dX8_firstAlive_46 (by decide) ?_
        refine ih (i + 1) (c + 1) (a + 2 ^ i) (by omega) (pw_lt pa) (by omega) ?_
        rw [mfa_t (by omega) c30, ← Nat.add_assoc] at h
        exact h
set_option maxRecDepth 20000 in
theorem t_X8_firstAlive {g : fGP} {d : Nat} {σ : fAH} {Q : fRes → fAH → Prop} {k q m : Nat} {D : fSD} {S : Nat → Nat} {sd : Int32} {most : Nat} (Gs : fGs g σ q) (Gr : fGr σ q D) (hD : fWD D) (Ys : fYs g σ k q) (Yr : fYr σ k D S m sd) (hW : fWS D S) (hm : most < 100) (h : Q (.inl (some (.int (nI (mfa (mal D S) most (dT D 1) 0 0))))) σ) : fEv g (d + 3) mX8_firstAlive 0 (fent [.ref k, .int (nI most)] 5) [] σ Q := by
  show fEv g (d + 3) mX8_firstAlive 0 [some (.ref k), some (.int (nI most)), none, none, none] [] σ Q
  refine e_iconst (nI 0) dX8_firstAlive_0 (by decide) ?_
  refine e_istore_n (L1 := [some (.ref k), some (.int (nI most)), some (.int (nI 0)), none, none]) dX8_firstAlive_1 rfl (by decide) rfl ?_
  refine e_iconst (nI 0) dX8_firstAlive_2 (by decide) ?_
  refine e_istore_n (L1 := [some (.ref k), some (.int (nI most)), some (.int (nI 0)), some (.int (nI 0)), none]) dX8_firstAlive_3 rfl (by decide) rfl ?_
  refine e_iconst (nI 0) dX8_firstAlive_4 (by decide) ?_
  refine e_istore (L1 := [some (.ref k), some (.int (nI most)), some (.int (nI 0)), some (.int (nI 0)), some (.int (nI 0))]) dX8_firstAlive_5 (by decide) rfl ?_
  exact l_X8_firstAlive Gs Gr hD Ys Yr hW hm (dT D 1) 0 0 0 (by omega) (by decide) (by omega) (by rw [Nat.zero_add]; exact h)
set_option maxRecDepth 20000 in
theorem l_X8_fillable {g : fGP} {d : Nat} {σ : fAH} {Q : fRes → fAH → Prop} {k q m : Nat} {D : fSD} {S : Nat → Nat} {sd : Int32} {pl : Nat} (Gs : fGs g σ q) (Gr : fGr σ q D) (hD : fWD D) (Ys : fYs g σ k q) (Yr : fYr σ k D S m sd) (hW : fWS D S) (hm : pl < 4096) : ∀ (n i : Nat) (c : Nat) (a : Nat), i + n = dT D 1 → a < 2 ^ i → c ≤ i → Q (.inl (some (.int (nI (a + mfa (fun i => decide (pl / 2 ^ i % 2 = 1) && mal D S i) (dT D 3) n i c))))) σ → fEv g (d + 3) mX8_fillable 7 [some (.ref k), some (.int (nI pl)), some (.int (nI c)), some (.int (nI a)), some (.int (nI i))] [] σ Q := by
  obtain ⟨⟨g0, g1, g2, g3, g4, g5⟩, ⟨gn, gK⟩, ⟨gr0, gr1, gr2, gr3, gr4⟩⟩ := id Gs
  obtain ⟨⟨y0, y1, y2, y3, y4, y5, y6⟩, ⟨yn, yK⟩, ⟨yr0, yr1, yr2, yr3, yr4, yr5, yr6⟩⟩ := id Ys
  obtain ⟨t0, t1, t2, t3, t4, t5, t6⟩ := id hD.1
  intro n
  induction n with
  | zero =>
    intro i c a hin pa pc h
    refine e_iload dX8_fillable_7 rfl ?_
    refine e_aload_n dX8_fillable_9 rfl rfl ?_
    refine e_getR (q := q) dX8_fillable_10 fl_RX8_56 y0 (show k < fnx σ by omega) rfl yr0 (by unfold fscr; omega) ?_
    refine e_getI dX8_fillable_13 fl_RX8_68 g0 (show q < fnx σ by omega) rfl ?_
    refine e_int (nI (dT D 1)) Gr.1.2.1 ?_
    refine e_icmp_ge 65 dX8_fillable_16 (by decide) (fun cz => ?_) (fun cz => absurd ((nI_le' (by omega) (by omega)).mpr (by omega)) cz)
    refine e_iload_n dX8_fillable_65 rfl rfl ?_
    exact e_ireturn .int dX8_fillable_66 rfl rfl (h)
  | succ n ih =>
    intro i c a hin pa pc h
    have hi : i < dT D 1 := by omega
    have d9 := d2 (b := pl) (i := i)
    refine e_iload dX8_fillable_7 rfl ?_
    refine e_aload_n dX8_fillable_9 rfl rfl ?_
    refine e_getR (q := q) dX8_fillable_10 fl_RX8_56 y0 (show k < fnx σ by omega) rfl yr0 (by unfold fscr; omega) ?_
    refine e_getI dX8_fillable_13 fl_RX8_68 g0 (show q < fnx σ by omega) rfl ?_
    refine e_int (nI (dT D 1)) Gr.1.2.1 ?_
    refine e_icmp_ge 65 dX8_fillable_16 (by decide) (fun cz => absurd ((nI_le' (by omega) (by omega)).mp cz) (by omega)) (fun cz => ?_)
    refine e_iload_n dX8_fillable_19 rfl rfl ?_
    refine e_aload_n dX8_fillable_20 rfl rfl ?_
    refine e_getR (q := q) dX8_fillable_21 fl_RX8_56 y0 (show k < fnx σ by omega) rfl yr0 (by unfold fscr; omega) ?_
    refine e_getI dX8_fillable_24 fl_RX8_108 g0 (show q < fnx σ by omega) rfl ?_
    refine e_int (nI (dT D 3)) Gr.1.2.2.2.2.1 ?_
    refine e_icmp_ge 65 dX8_fillable_27 (by decide) (fun c27 => ?_) (fun c27 => ?_)
    · rw [nI_le' (by omega) (by omega)] at c27
      refine e_iload_n dX8_fillable_65 rfl rfl ?_
      rw [mfa_o (by omega)] at h
      exact e_ireturn .int dX8_fillable_66 rfl rfl h
    · rw [nI_le' (by omega) (by omega)] at c27
      refine e_iload_n dX8_fillable_30 rfl rfl ?_
      refine e_iload dX8_fillable_31 rfl ?_
      refine e_ishr dX8_fillable_33 ?_
      refine e_int (nI (pl / 2 ^ i)) (nI_shr (by omega) (by omega)) ?_
      refine e_iconst (nI 1) dX8_fillable_34 (by decide) ?_
      refine e_iand dX8_fillable_35 ?_
      refine e_int (nI (pl / 2 ^ i % 2)) (nI_and1 (Nat.lt_of_le_of_lt (Nat.div_le_self _ _) (by omega))) ?_
      refine e_iconst (nI 1) dX8_fillable_36 (by decide) ?_
      refine e_icmp_ne 59 dX8_fillable_37 (by decide) (fun c37 => ?_) (fun c37 => ?_)
      · rw [nI_inj (by omega) (by omega)] at c37
        refine e_iinc (v := nI (i + 1)) (L1 := [some (.ref k), some (.int (nI pl)), some (.int (nI c)), some (.int (nI a)), some (.int (nI (i + 1)))]) dX8_fillable_59 rfl (show nI i + Int32.ofInt 1 = nI (i + 1) from nI_add i 1) (by decide) rfl ?_
        refine e_goto 7 dX8_fillable_62 (by decide) ?_
        refine ih (i + 1) c a (by omega) (pw_le pa) (by omega) ?_
        have hf : (fun i => decide (pl / 2 ^ i % 2 = 1) && mal D S i) i = false := by first | (show (decide (pl / 2 ^ i % 2 = 1) && mal D S i) = false; rw [decide_eq_false c37]; rfl) | (show (decide (pl / 2 ^ i % 2 = 1) && mal D S i) = false; rw [decide_eq_true c37, c46]; rfl)
        rw [mfa_f (by omega) hf] at h
        exact h
      · rw [nI_inj (by omega) (by omega)] at c37
        refine e_aload_n dX8_fillable_40 rfl rfl ?_
        refine e_iload dX8_fillable_41 rfl ?_
        refine e_callV (k := k) [.int (nI i)] dX8_fillable_43 cc_X8_isAlive lk_RX8_105 im_X8_isAlive se_X8_isAlive (by decide) y0 (show k < fnx σ by omega) rfl (Nat.le_of_ble_eq_true rfl) (Nat.le_of_ble_eq_true rfl) ?_
        refine t_X8_isAlive Gs Gr hD Ys Yr hW (by omega) (fK_i ?_)
        show fEv g _ mX8_fillable 46 [some (.ref k), some (.int (nI pl)), some (.int (nI c)), some (.int (nI a)), some (.int (nI i))] [.int (nI (bn (mal D S i)))] σ Q
        refine e_if_eq 59 dX8_fillable_46 (by decide) (fun c46 => ?_) (fun c46 => ?_)
        · have c46 := bn0 c46
          refine e_iinc (v := nI (i + 1)) (L1 := [some (.ref k), some (.int (nI pl)), some (.int (nI c)), some (.int (nI a)), some (.int (nI (i + 1)))]) dX8_fillable_59 rfl (show nI i + Int32.ofInt 1 = nI (i + 1) from nI_add i 1) (by decide) rfl ?_
          refine e_goto 7 dX8_fillable_62 (by decide) ?_
          refine ih (i + 1) c a (by omega) (pw_le pa) (by omega) ?_
          have hf : (fun i => decide (pl / 2 ^ i % 2 = 1) && mal D S i) i = false := by first | (show (decide (pl / 2 ^ i % 2 = 1) && mal D S i) = false; rw [decide_eq_false c37]; rfl) | (show (decide (pl / 2 ^ i % 2 = 1) && mal D S i) = false; rw [decide_eq_true c37, c46]; rfl)
          rw [mfa_f (by omega) hf] at h
          exact h
        · have c46 := bn1 c46
          refine e_iload_n dX8_fillable_49 rfl rfl ?_
          refine e_iconst (nI 1) dX8_fillable_50 (by decide) ?_
          refine e_iload dX8_fillable_51 rfl ?_
          refine e_ishl dX8_fillable_53 ?_
          refine e_int (nI (2 ^ i)) (nI_sh1 (by omega)) ?_
          refine e_ior dX8_fillable_54 ?_
          refine e_int (nI (a + 2 ^ i)) (nI_orb pa) ?_
          refine e_istore_n (L1 := [some (.ref k), some (.int (nI pl)), some (.int (nI c)), some (.int (nI (a + 2 ^ i))), some (.int (nI i))]) dX8_fillable_55 rfl (by decide) rfl ?_
          refine e_iinc (v := nI (c + 1)) (L1 := [some (.ref k), some (.int (nI pl)), some (.int (nI (c + 1))), some (.int (nI (a + 2 ^ i))), some (.int (nI i))]) dX8_fillable_56 rfl (show nI c + Int32.ofInt 1 = nI (c + 1) from nI_add c 1) (by decide) rfl ?_
          refine e_iinc (v := nI (i + 1)) (L1 := [some (.ref k), some (.int (nI pl)), some (.int (nI (c + 1))), some (.int (nI (a + 2 ^ i))), some (.int (nI (i + 1)))]) dX8_fillable_59 rfl (show nI i + Int32.ofInt 1 = nI (i + 1) from nI_add i 1) (by decide) rfl ?_
          refine e_goto 7 dX8_fillable_62 (by decide) ?_
          refine ih (i + 1) (c + 1) (a + 2 ^ i) (by omega) (pw_lt pa) (by omega) ?_
          have hf : (fun i => decide (pl / 2 ^ i % 2 = 1) && mal D S i) i = true := by show (decide (pl / 2 ^ i % 2 = 1) && mal D S i) = true; rw [decide_eq_true c37, c46]; rfl
          rw [mfa_t (by omega) hf, ← Nat.add_assoc] at h
          exact h
set_option maxRecDepth 20000 in
theorem t_X8_fillable {g : fGP} {d : Nat} {σ : fAH} {Q : fRes → fAH → Prop} {k q m : Nat} {D : fSD} {S : Nat → Nat} {sd : Int32} {pl : Nat} (Gs : fGs g σ q) (Gr : fGr σ q D) (hD : fWD D) (Ys : fYs g σ k q) (Yr : fYr σ k D S m sd) (hW : fWS D S) (hm : pl < 4096) (h : Q (.inl (some (.int (nI (mfa (fun i => decide (pl / 2 ^ i % 2 = 1) && mal D S i) (dT D 3) (dT D 1) 0 0))))) σ) : fEv g (d + 3) mX8_fillable 0 (fent [.ref k, .int (nI pl)] 5) [] σ Q := by
  show fEv g (d + 3) mX8_fillable 0 [some (.ref k), some (.int (nI pl)), none, none, none] [] σ Q
  refine e_iconst (nI 0) dX8_fillable_0 (by decide) ?_
  refine e_istore_n (L1 := [some (.ref k), some (.int (nI pl)), some (.int (nI 0)), none, none]) dX8_fillable_1 rfl (by decide) rfl ?_
  refine e_iconst (nI 0) dX8_fillable_2 (by decide) ?_
  refine e_istore_n (L1 := [some (.ref k), some (.int (nI pl)), some (.int (nI 0)), some (.int (nI 0)), none]) dX8_fillable_3 rfl (by decide) rfl ?_
  refine e_iconst (nI 0) dX8_fillable_4 (by decide) ?_
  refine e_istore (L1 := [some (.ref k), some (.int (nI pl)), some (.int (nI 0)), some (.int (nI 0)), some (.int (nI 0))]) dX8_fillable_5 (by decide) rfl ?_
  exact l_X8_fillable Gs Gr hD Ys Yr hW hm (dT D 1) 0 0 0 (by omega) (by decide) (by omega) (by rw [Nat.zero_add]; exact h)
set_option maxRecDepth 20000 in
theorem l_X10_watered {g : fGP} {d : Nat} {σ : fAH} {Q : fRes → fAH → Prop} {D : fSD} {S : Nat → Nat} {sd : Int32} {b : Nat} (Ms : fMs g σ) (Mr : fMr σ D S sd) (hD : fWD D) (hW : fWS D S) (hm : b < 4096) : ∀ (n i : Nat) (c : Nat) (a : Nat), i + n = dT D 1 → a < 2 ^ i → c ≤ i ∧ c ≤ dT D 3 → Q (.inl (some (.int (nI (a + mfa (fun i => decide (b / 2 ^ i % 2 = 1)) (dT D 3) n i c))))) σ → fEv g (d) mX10_watered 7 [some (.ref 89), some (.int (nI b)), some (.int (nI a)), some (.int (nI c)), some (.int (nI i))] [] σ Q := by
  obtain ⟨t0, t1, t2, t3, t4, t5, t6⟩ := id hD.1
  intro n
  induction n with
  | zero =>
    intro i c a hin pa pc h
    refine e_iload dX10_watered_7 rfl ?_
    refine e_aload_n dX10_watered_9 rfl rfl ?_
    refine e_getR (q := 92) dX10_watered_10 fl_RX10_20 (Ms.s 89 rfl) (Ms.n (by decide)) rfl (Ms.r 89 10 rfl) (by unfold fscr; omega) ?_
    refine e_iconst (nI 1) dX10_watered_13 (by decide) ?_
    refine e_iaload 1 dX10_watered_14 (Ms.s 92 rfl) (Ms.n (by decide)) rfl (by omega) (by decide) ?_
    refine e_int (nI (dT D 1)) (Mr.t 1 (by omega)) ?_
    refine e_icmp_ge 56 dX10_watered_15 (by decide) (fun cz => ?_) (fun cz => absurd ((nI_le' (by omega) (by omega)).mpr (by omega)) cz)
    refine e_iload_n dX10_watered_56 rfl rfl ?_
    exact e_ireturn .int dX10_watered_57 rfl rfl (h)
  | succ n ih =>
    intro i c a hin pa pc h
    have hi : i < dT D 1 := by omega
    have d9 := d2 (b := b) (i := i)
    refine e_iload dX10_watered_7 rfl ?_
    refine e_aload_n dX10_watered_9 rfl rfl ?_
    refine e_getR (q := 92) dX10_watered_10 fl_RX10_20 (Ms.s 89 rfl) (Ms.n (by decide)) rfl (Ms.r 89 10 rfl) (by unfold fscr; omega) ?_
    refine e_iconst (nI 1) dX10_watered_13 (by decide) ?_
    refine e_iaload 1 dX10_watered_14 (Ms.s 92 rfl) (Ms.n (by decide)) rfl (by omega) (by decide) ?_
    refine e_int (nI (dT D 1)) (Mr.t 1 (by omega)) ?_
    refine e_icmp_ge 56 dX10_watered_15 (by decide) (fun cz => absurd ((nI_le' (by omega) (by omega)).mp cz) (by omega)) (fun cz => ?_)
    refine e_iload_n dX10_watered_18 rfl rfl ?_
    refine e_iload dX10_watered_19 rfl ?_
    refine e_ishr dX10_watered_21 ?_
    refine e_int (nI (b / 2 ^ i)) (nI_shr (by omega) (by omega)) ?_
    refine e_iconst (nI 1) dX10_watered_22 (by decide) ?_
    refine e_iand dX10_watered_23 ?_
    refine e_int (nI (b / 2 ^ i % 2)) (nI_and1 (Nat.lt_of_le_of_lt (Nat.div_le_self _ _) (by omega))) ?_
    refine e_if_eq 50 dX10_watered_24 (by decide) (fun c24 => ?_) (fun c24 => ?_)
    · rw [nI_z (by omega)] at c24
      refine e_iinc (v := nI (i + 1)) (L1 := [some (.ref 89), some (.int (nI b)), some (.int (nI a)), some (.int (nI c)), some (.int (nI (i + 1)))]) dX10_watered_50 rfl (show nI i + Int32.ofInt 1 = nI (i + 1) from nI_add i 1) (by decide) rfl ?_
      refine e_goto 7 dX10_watered_53 (by decide) ?_
      refine ih (i + 1) c a (by omega) (pw_le pa) (by omega) ?_
      by_cases hc : c < dT D 3
      · have hf : (fun i => decide (b / 2 ^ i % 2 = 1)) i = false := decide_eq_false (by omega)
        rw [mfa_f hc hf] at h
        exact h
      · rw [mfa_o hc] at h
        rw [mfa_o hc]
        exact h
    · rw [nI_z (by omega)] at c24
      refine e_iload_n dX10_watered_27 rfl rfl ?_
      refine e_aload_n dX10_watered_28 rfl rfl ?_
      refine e_getR (q := 92) dX10_watered_29 fl_RX10_20 (Ms.s 89 rfl) (Ms.n (by decide)) rfl (Ms.r 89 10 rfl) (by unfold fscr; omega) ?_
      refine e_iconst (nI 3) dX10_watered_32 (by decide) ?_
      refine e_iaload 3 dX10_watered_33 (Ms.s 92 rfl) (Ms.n (by decide)) rfl (by omega) (by decide) ?_
      refine e_int (nI (dT D 3)) (Mr.t 3 (by omega)) ?_
      refine e_icmp_ne 40 dX10_watered_34 (by decide) (fun c34 => ?_) (fun c34 => ?_)
      · rw [nI_inj (by omega) (by omega)] at c34
        refine e_iload_n dX10_watered_40 rfl rfl ?_
        refine e_iconst (nI 1) dX10_watered_41 (by decide) ?_
        refine e_iload dX10_watered_42 rfl ?_
        refine e_ishl dX10_watered_44 ?_
        refine e_int (nI (2 ^ i)) (nI_sh1 (by omega)) ?_
        refine e_ior dX10_watered_45 ?_
        refine e_int (nI (a + 2 ^ i)) (nI_orb pa) ?_
        refine e_istore_n (L1 := [some (.ref 89), some (.int (nI b)), some (.int (nI (a + 2 ^ i))), some (.int (nI c)), some (.int (nI i))]) dX10_watered_46 rfl (by decide) rfl ?_
        refine e_iinc (v := nI (c + 1)) (L1 := [some (.ref 89), some (.int (nI b)), some (.int (nI (a + 2 ^ i))), some (.int (nI (c + 1))), some (.int (nI i))]) dX10_watered_47 rfl (show nI c + Int32.ofInt 1 = nI (c + 1) from nI_add c 1) (by decide) rfl ?_
        refine e_iinc (v := nI (i + 1)) (L1 := [some (.ref 89), some (.int (nI b)), some (.int (nI (a + 2 ^ i))), some (.int (nI (c + 1))), some (.int (nI (i + 1)))]) dX10_watered_50 rfl (show nI i + Int32.ofInt 1 = nI (i + 1) from nI_add i 1) (by decide) rfl ?_
        refine e_goto 7 dX10_watered_53 (by decide) ?_
        refine ih (i + 1) (c + 1) (a + 2 ^ i) (by omega) (pw_lt pa) (by omega) ?_
        have hf : (fun i => decide (b / 2 ^ i % 2 = 1)) i = true := decide_eq_true (by omega)
        rw [mfa_t (by omega) hf, ← Nat.add_assoc] at h
        exact h
      · rw [nI_inj (by omega) (by omega)] at c34
        refine e_goto 50 dX10_watered_37 (by decide) ?_
        refine e_iinc (v := nI (i + 1)) (L1 := [some (.ref 89), some (.int (nI b)), some (.int (nI a)), some (.int (nI c)), some (.int (nI (i + 1)))]) dX10_watered_50 rfl (show nI i + Int32.ofInt 1 = nI (i + 1) from nI_add i 1) (by decide) rfl ?_
        refine e_goto 7 dX10_watered_53 (by decide) ?_
        refine ih (i + 1) c a (by omega) (pw_le pa) (by omega) ?_
        by_cases hc : c < dT D 3
        · have hf : (fun i => decide (b / 2 ^ i % 2 = 1)) i = false := decide_eq_false (by omega)
          rw [mfa_f hc hf] at h
          exact h
        · rw [mfa_o hc] at h
          rw [mfa_o hc]
          exact h
set_option maxRecDepth 20000 in
theorem t_X10_watered {g : fGP} {d : Nat} {σ : fAH} {Q : fRes → fAH → Prop} {D : fSD} {S : Nat → Nat} {sd : Int32} {b : Nat} (Ms : fMs g σ) (Mr : fMr σ D S sd) (hD : fWD D) (hW : fWS D S) (hm : b < 4096) (h : Q (.inl (some (.int (nI (mfa (fun i => decide (b / 2 ^ i % 2 = 1)) (dT D 3) (dT D 1) 0 0))))) σ) : fEv g (d) mX10_watered 0 (fent [.ref 89, .int (nI b)] 5) [] σ Q := by
  show fEv g (d) mX10_watered 0 [some (.ref 89), some (.int (nI b)), none, none, none] [] σ Q
  refine e_iconst (nI 0) dX10_watered_0 (by decide) ?_
  refine e_istore_n (L1 := [some (.ref 89), some (.int (nI b)), some (.int (nI 0)), none, none]) dX10_watered_1 rfl (by decide) rfl ?_
  refine e_iconst (nI 0) dX10_watered_2 (by decide) ?_
  refine e_istore_n (L1 := [some (.ref 89), some (.int (nI b)), some (.int (nI 0)), some (.int (nI 0)), none]) dX10_watered_3 rfl (by decide) rfl ?_
  refine e_iconst (nI 0) dX10_watered_4 (by decide) ?_
  refine e_istore (L1 := [some (.ref 89), some (.int (nI b)), some (.int (nI 0)), some (.int (nI 0)), some (.int (nI 0))]) dX10_watered_5 (by decide) rfl ?_
  exact l_X10_watered Ms Mr hD hW hm (dT D 1) 0 0 0 (by omega) (by decide) (by omega) (by rw [Nat.zero_add]; exact h)
set_option maxRecDepth 20000 in
theorem l_X8_ordersDone {g : fGP} {d : Nat} {σ : fAH} {Q : fRes → fAH → Prop} {k q m : Nat} {D : fSD} {S : Nat → Nat} {sd : Int32} (Gs : fGs g σ q) (Gr : fGr σ q D) (hD : fWD D) (Ys : fYs g σ k q) (Yr : fYr σ k D S m sd) (hW : fWS D S) : ∀ (n i : Nat) (a : Nat), i + n = dT D 2 → a ≤ i → Q (.inl (some (.int (nI (a + mct (mdone D S) n i))))) σ → fEv g (d + 1) mX8_ordersDone 4 [some (.ref k), some (.int (nI a)), some (.int (nI i))] [] σ Q := by
  obtain ⟨⟨g0, g1, g2, g3, g4, g5⟩, ⟨gn, gK⟩, ⟨gr0, gr1, gr2, gr3, gr4⟩⟩ := id Gs
  obtain ⟨⟨y0, y1, y2, y3, y4, y5, y6⟩, ⟨yn, yK⟩, ⟨yr0, yr1, yr2, yr3, yr4, yr5, yr6⟩⟩ := id Ys
  obtain ⟨t0, t1, t2, t3, t4, t5, t6⟩ := id hD.1
  intro n
  induction n with
  | zero =>
    intro i a hin pa h
    refine e_iload_n dX8_ordersDone_4 rfl rfl ?_
    refine e_aload_n dX8_ordersDone_5 rfl rfl ?_
    refine e_getR (q := q) dX8_ordersDone_6 fl_RX8_56 y0 (show k < fnx σ by omega) rfl yr0 (by unfold fscr; omega) ?_
    refine e_getI dX8_ordersDone_9 fl_RX8_171 g0 (show q < fnx σ by omega) rfl ?_
    refine e_int (nI (dT D 2)) Gr.1.2.2.1 ?_
    refine e_icmp_ge 32 dX8_ordersDone_12 (by decide) (fun cz => ?_) (fun cz => absurd ((nI_le' (by omega) (by omega)).mpr (by omega)) cz)
    refine e_iload_n dX8_ordersDone_32 rfl rfl ?_
    exact e_ireturn .int dX8_ordersDone_33 rfl rfl (h)
  | succ n ih =>
    intro i a hin pa h
    have hi : i < dT D 2 := by omega
    refine e_iload_n dX8_ordersDone_4 rfl rfl ?_
    refine e_aload_n dX8_ordersDone_5 rfl rfl ?_
    refine e_getR (q := q) dX8_ordersDone_6 fl_RX8_56 y0 (show k < fnx σ by omega) rfl yr0 (by unfold fscr; omega) ?_
    refine e_getI dX8_ordersDone_9 fl_RX8_171 g0 (show q < fnx σ by omega) rfl ?_
    refine e_int (nI (dT D 2)) Gr.1.2.2.1 ?_
    refine e_icmp_ge 32 dX8_ordersDone_12 (by decide) (fun cz => absurd ((nI_le' (by omega) (by omega)).mp cz) (by omega)) (fun cz => ?_)
    refine e_aload_n dX8_ordersDone_15 rfl rfl ?_
    refine e_iload_n dX8_ordersDone_16 rfl rfl ?_
    refine e_callV (k := k) [.int (nI i)] dX8_ordersDone_17 cc_X8_isDone lk_RX8_183 im_X8_isDone se_X8_isDone (by decide) y0 (show k < fnx σ by omega) rfl (Nat.le_of_ble_eq_true rfl) (Nat.le_of_ble_eq_true rfl) ?_
    refine t_X8_isDone Gs Gr hD Ys Yr hW (by omega) (fK_i ?_)
    show fEv g _ mX8_ordersDone 20 [some (.ref k), some (.int (nI a)), some (.int (nI i))] [.int (nI (bn (mdone D S i)))] σ Q
    refine e_if_eq 26 dX8_ordersDone_20 (by decide) (fun c20 => ?_) (fun c20 => ?_)
    · have c20 := bn0 c20
      refine e_iinc (v := nI (i + 1)) (L1 := [some (.ref k), some (.int (nI a)), some (.int (nI (i + 1)))]) dX8_ordersDone_26 rfl (show nI i + Int32.ofInt 1 = nI (i + 1) from nI_add i 1) (by decide) rfl ?_
      refine e_goto 4 dX8_ordersDone_29 (by decide) ?_
      refine ih (i + 1) a (by omega) (by omega) ?_
      rw [mct, c20] at h
      have h : Q (.inl (some (.int (nI (a + (0 + mct (mdone D S) n (i + 1))))))) σ := h
      rw [Nat.zero_add] at h
      exact h
    · have c20 := bn1 c20
      refine e_iinc (v := nI (a + 1)) (L1 := [some (.ref k), some (.int (nI (a + 1))), some (.int (nI i))]) dX8_ordersDone_23 rfl (show nI a + Int32.ofInt 1 = nI (a + 1) from nI_add a 1) (by decide) rfl ?_
      refine e_iinc (v := nI (i + 1)) (L1 := [some (.ref k), some (.int (nI (a + 1))), some (.int (nI (i + 1)))]) dX8_ordersDone_26 rfl (show nI i + Int32.ofInt 1 = nI (i + 1) from nI_add i 1) (by decide) rfl ?_
      refine e_goto 4 dX8_ordersDone_29 (by decide) ?_
      refine ih (i + 1) (a + 1) (by omega) (by omega) ?_
      rw [mct, c20] at h
      have h : Q (.inl (some (.int (nI (a + (1 + mct (mdone D S) n (i + 1))))))) σ := h
      rw [← Nat.add_assoc] at h
      exact h
set_option maxRecDepth 20000 in
theorem t_X8_ordersDone {g : fGP} {d : Nat} {σ : fAH} {Q : fRes → fAH → Prop} {k q m : Nat} {D : fSD} {S : Nat → Nat} {sd : Int32} (Gs : fGs g σ q) (Gr : fGr σ q D) (hD : fWD D) (Ys : fYs g σ k q) (Yr : fYr σ k D S m sd) (hW : fWS D S) (h : Q (.inl (some (.int (nI (mct (mdone D S) (dT D 2) 0))))) σ) : fEv g (d + 1) mX8_ordersDone 0 (fent [.ref k] 3) [] σ Q := by
  show fEv g (d + 1) mX8_ordersDone 0 [some (.ref k), none, none] [] σ Q
  refine e_iconst (nI 0) dX8_ordersDone_0 (by decide) ?_
  refine e_istore_n (L1 := [some (.ref k), some (.int (nI 0)), none]) dX8_ordersDone_1 rfl (by decide) rfl ?_
  refine e_iconst (nI 0) dX8_ordersDone_2 (by decide) ?_
  refine e_istore_n (L1 := [some (.ref k), some (.int (nI 0)), some (.int (nI 0))]) dX8_ordersDone_3 rfl (by decide) rfl ?_
  exact l_X8_ordersDone Gs Gr hD Ys Yr hW (dT D 2) 0 0 (by omega) (by omega) (by rw [Nat.zero_add]; exact h)
