theorem nL_div {a b : Nat} (ha : a < 9223372036854775808) (hb : b < 9223372036854775808) : nL a / nL b = nL (a / b) := (Int64.ofNat_div ha hb).symm
theorem nL_rem {a b : Nat} (ha : a < 9223372036854775808) (hb : b < 9223372036854775808) : nL a - nL a / nL b * nL b = nL (a % b) := by
  rw [nL_div ha hb, nL_mul]
  have h : a / b * b ≤ a := Nat.div_mul_le_self a b
  have e : nL a - nL (a / b * b) = nL (a - a / b * b) := (Int64.ofNat_sub a (a / b * b) h).symm
  rw [e]
  exact congrArg nL (by have := Nat.div_add_mod' a b; omega)
theorem nL_ne {b : Nat} (hb : b < 9223372036854775808) (h : ¬ b = 0) : ¬ nL b = 0 := fun e => h ((nL_inj hb (by decide)).mp e)
theorem gcd_st (a b : Nat) : Nat.gcd b (a % b) = Nat.gcd a b := by
  rw [Nat.gcd_comm b (a % b), ← Nat.gcd_rec, Nat.gcd_comm]
theorem rem_half {b r : Nat} (h : r < b) (h0 : 0 < r) : 2 * (b % r) < b := by
  have h1 := Nat.mod_lt b h0
  have h2 := Nat.div_add_mod b r
  have h3 : 0 < b / r := Nat.div_pos (by omega) h0
  have h4 : r * 1 ≤ r * (b / r) := Nat.mul_le_mul (Nat.le_refl _) h3
  omega
set_option maxRecDepth 20000 in
theorem l_X10_lst31 {g : fGP} {d : Nat} {σ : fAH} {Q : fRes → fAH → Prop} {up lo wt a b : Nat} {o9 o10 : Option Value} (hu : up < 9223372036854775808) (hl : lo < 9223372036854775808) (hw : wt < 100) (ha : a < 9223372036854775808) (h0 : 0 < a) (h : Q (.inl (some (.long (nL (if wt = 0 then up / a else lo / a))))) σ) : fEv g d mX10_least 31 [some (.long (nL up)), none, some (.long (nL lo)), none, some (.int (nI wt)), some (.long (nL a)), none, some (.long (nL b)), none, o9, o10] [] σ Q := by
  refine e_iload dX10_least_31 rfl ?_
  refine e_if_ne 43 dX10_least_33 (by decide) (fun c33 => ?_) (fun c33 => ?_)
  · rw [nI_z (by omega)] at c33
    refine e_lload_n dX10_least_43 rfl rfl ?_
    refine e_lload dX10_least_44 rfl ?_
    refine e_ldiv dX10_least_46 (nL_ne (by omega) (by omega)) ?_
    refine e_long (nL (lo / a)) (nL_div (by omega) (by omega)) ?_
    exact e_lreturn dX10_least_47 rfl (by rw [if_neg (by omega)] at h; exact h)
  · rw [nI_z (by omega)] at c33
    refine e_lload_n dX10_least_36 rfl rfl ?_
    refine e_lload dX10_least_37 rfl ?_
    refine e_ldiv dX10_least_39 (nL_ne (by omega) (by omega)) ?_
    refine e_long (nL (up / a)) (nL_div (by omega) (by omega)) ?_
    refine e_goto 47 dX10_least_40 (by decide) ?_
    exact e_lreturn dX10_least_47 rfl (by rw [if_pos (by omega)] at h; exact h)
set_option maxRecDepth 20000 in
theorem l_X10_least {g : fGP} {d : Nat} {σ : fAH} {Q : fRes → fAH → Prop} {up lo wt : Nat} (hu : up < 9223372036854775808) (hl : lo < 9223372036854775808) (hw : wt < 100) : ∀ (b a : Nat) (o9 o10 : Option Value), b < 9223372036854775808 → a < 9223372036854775808 → 0 < Nat.gcd a b → Q (.inl (some (.long (nL (if wt = 0 then up / Nat.gcd a b else lo / Nat.gcd a b))))) σ → fEv g d mX10_least 6 [some (.long (nL up)), none, some (.long (nL lo)), none, some (.int (nI wt)), some (.long (nL a)), none, some (.long (nL b)), none, o9, o10] [] σ Q := by
  intro b
  induction b using Nat.strongRecOn with
  | ind b ih =>
    intro a o9 o10 hb ha h0 h
    refine e_lload dX10_least_6 rfl ?_
    refine e_lconst 0 dX10_least_8 (by decide) ?_
    refine e_long (nL 0) rfl ?_
    refine e_lcmp dX10_least_9 ?_
    refine e_if_eq 31 dX10_least_10 (by decide) (fun c10 => ?_) (fun c10 => ?_)
    · rw [lc_eq, nL_inj (by omega) (by omega)] at c10
      have c10 : b = 0 := c10
      subst c10
      rw [Nat.gcd_zero_right] at h h0
      exact l_X10_lst31 hu hl hw ha h0 h
    · rw [lc_eq, nL_inj (by omega) (by omega)] at c10
      refine e_lload dX10_least_13 rfl ?_
      refine e_lload dX10_least_15 rfl ?_
      refine e_lrem dX10_least_17 (nL_ne hb c10) ?_
      refine e_long (nL (a % b)) (nL_rem ha hb) ?_
      refine e_lstore (L1 := [some (.long (nL up)), none, some (.long (nL lo)), none, some (.int (nI wt)), some (.long (nL a)), none, some (.long (nL b)), none, some (.long (nL (a % b))), none]) dX10_least_18 (by decide) rfl ?_
      refine e_lload dX10_least_20 rfl ?_
      refine e_lstore (L1 := [some (.long (nL up)), none, some (.long (nL lo)), none, some (.int (nI wt)), some (.long (nL b)), none, some (.long (nL b)), none, some (.long (nL (a % b))), none]) dX10_least_22 (by decide) rfl ?_
      refine e_lload dX10_least_24 rfl ?_
      refine e_lstore (L1 := [some (.long (nL up)), none, some (.long (nL lo)), none, some (.int (nI wt)), some (.long (nL b)), none, some (.long (nL (a % b))), none, some (.long (nL (a % b))), none]) dX10_least_26 (by decide) rfl ?_
      refine e_goto 6 dX10_least_28 (by decide) ?_
      have hr := Nat.mod_lt a (Nat.pos_of_ne_zero c10)
      exact ih (a % b) hr b _ _ (by omega) hb (by rw [gcd_st]; exact h0) (by rw [gcd_st]; exact h)
set_option maxRecDepth 20000 in
theorem t_X10_least {g : fGP} {d : Nat} {σ : fAH} {Q : fRes → fAH → Prop} {up lo wt : Nat} (hu : up < 9223372036854775808) (hl : lo < 9223372036854775808) (hw : wt < 100) (h0 : 0 < lo) (h : Q (.inl (some (.long (nL (if wt = 0 then up / Nat.gcd up lo else lo / Nat.gcd up lo))))) σ) : fEv g d mX10_least 0 (fent [.long (nL up), .long (nL lo), .int (nI wt)] 11) [] σ Q := by
  show fEv g d mX10_least 0 [some (.long (nL up)), none, some (.long (nL lo)), none, some (.int (nI wt)), none, none, none, none, none, none] [] σ Q
  refine e_lload_n dX10_least_0 rfl rfl ?_
  refine e_lstore (L1 := [some (.long (nL up)), none, some (.long (nL lo)), none, some (.int (nI wt)), some (.long (nL up)), none, none, none, none, none]) dX10_least_1 (by decide) rfl ?_
  refine e_lload_n dX10_least_3 rfl rfl ?_
  refine e_lstore (L1 := [some (.long (nL up)), none, some (.long (nL lo)), none, some (.int (nI wt)), some (.long (nL up)), none, some (.long (nL lo)), none, none, none]) dX10_least_4 (by decide) rfl ?_
  exact l_X10_least hu hl hw lo up none none hl hu (Nat.gcd_pos_of_pos_right _ h0) h
set_option maxRecDepth 20000 in
theorem l_X9_lst44 {g : fGP} {d : Nat} {σ : fAH} {Q : fRes → fAH → Prop} {up lo wt a b i : Nat} {o10 o11 : Option Value} (hu : up < 9223372036854775808) (hl : lo < 9223372036854775808) (hw : wt < 100) (ha : a < 9223372036854775808) (h0 : 0 < a) (h : Q (.inl (some (.long (nL (if wt = 0 then up / a else lo / a))))) σ) : fEv g d mX9_inLeastTerms 44 [some (.long (nL up)), none, some (.long (nL lo)), none, some (.int (nI wt)), some (.long (nL a)), none, some (.long (nL b)), none, some (.int (nI i)), o10, o11] [] σ Q := by
  refine e_iload dX9_inLeastTerms_44 rfl ?_
  refine e_if_ne 53 dX9_inLeastTerms_46 (by decide) (fun c46 => ?_) (fun c46 => ?_)
  · rw [nI_z (by omega)] at c46
    refine e_lload_n dX9_inLeastTerms_53 rfl rfl ?_
    refine e_lstore (L1 := [some (.long (nL up)), none, some (.long (nL lo)), none, some (.int (nI wt)), some (.long (nL a)), none, some (.long (nL b)), none, some (.long (nL lo)), none, o11]) dX9_inLeastTerms_54 (by decide) rfl ?_
    refine e_lload dX9_inLeastTerms_56 rfl ?_
    refine e_lconst 0 dX9_inLeastTerms_58 (by decide) ?_
    refine e_long (nL 0) rfl ?_
    refine e_lcmp dX9_inLeastTerms_59 ?_
    refine e_if_ne 68 dX9_inLeastTerms_60 (by decide) (fun _ => ?_) (fun q => absurd ((nL_inj (b := 0) ha (by decide)).mp (lc_eq.mp q)) (by omega))
    refine e_lload dX9_inLeastTerms_68 rfl ?_
    refine e_lload dX9_inLeastTerms_70 rfl ?_
    refine e_ldiv dX9_inLeastTerms_72 (nL_ne (by omega) (by omega)) ?_
    refine e_long (nL (lo / a)) (nL_div (by omega) (by omega)) ?_
    exact e_lreturn dX9_inLeastTerms_73 rfl (by rw [if_neg (by omega)] at h; exact h)
  · rw [nI_z (by omega)] at c46
    refine e_lload_n dX9_inLeastTerms_49 rfl rfl ?_
    refine e_goto 54 dX9_inLeastTerms_50 (by decide) ?_
    refine e_lstore (L1 := [some (.long (nL up)), none, some (.long (nL lo)), none, some (.int (nI wt)), some (.long (nL a)), none, some (.long (nL b)), none, some (.long (nL up)), none, o11]) dX9_inLeastTerms_54 (by decide) rfl ?_
    refine e_lload dX9_inLeastTerms_56 rfl ?_
    refine e_lconst 0 dX9_inLeastTerms_58 (by decide) ?_
    refine e_long (nL 0) rfl ?_
    refine e_lcmp dX9_inLeastTerms_59 ?_
    refine e_if_ne 68 dX9_inLeastTerms_60 (by decide) (fun _ => ?_) (fun q => absurd ((nL_inj (b := 0) ha (by decide)).mp (lc_eq.mp q)) (by omega))
    refine e_lload dX9_inLeastTerms_68 rfl ?_
    refine e_lload dX9_inLeastTerms_70 rfl ?_
    refine e_ldiv dX9_inLeastTerms_72 (nL_ne (by omega) (by omega)) ?_
    refine e_long (nL (up / a)) (nL_div (by omega) (by omega)) ?_
    exact e_lreturn dX9_inLeastTerms_73 rfl (by rw [if_pos (by omega)] at h; exact h)
set_option maxRecDepth 20000 in
theorem l_X9_lst9 {g : fGP} {d : Nat} {σ : fAH} {Q : fRes → fAH → Prop} {up lo wt : Nat} (hu : up < 9223372036854775808) (hl : lo < 9223372036854775808) (hw : wt < 100) : ∀ (n a b i : Nat) (o10 o11 : Option Value), i + 2 * n < 100 → b < 2 ^ n → b < 9223372036854775808 → a < 9223372036854775808 → 0 < Nat.gcd a b → Q (.inl (some (.long (nL (if wt = 0 then up / Nat.gcd a b else lo / Nat.gcd a b))))) σ → fEv g d mX9_inLeastTerms 9 [some (.long (nL up)), none, some (.long (nL lo)), none, some (.int (nI wt)), some (.long (nL a)), none, some (.long (nL b)), none, some (.int (nI i)), o10, o11] [] σ Q := by
  intro n
  induction n with
  | zero =>
    intro a b i o10 o11 hi hbn hb ha h0 h
    have hz : b = 0 := by have e : (2 : Nat) ^ 0 = 1 := rfl; omega
    subst hz
    rw [Nat.gcd_zero_right] at h h0
    refine e_iload dX9_inLeastTerms_9 rfl ?_
    refine e_bipush (nI 100) dX9_inLeastTerms_11 (by decide) ?_
    refine e_icmp_ge 44 dX9_inLeastTerms_13 (by decide) (fun c13 => ?_) (fun c13 => ?_)
    · rw [nI_le' (by omega) (by omega)] at c13
      exact l_X9_lst44 hu hl hw ha h0 h
    · rw [nI_le' (by omega) (by omega)] at c13
      refine e_lload dX9_inLeastTerms_16 rfl ?_
      refine e_lconst 0 dX9_inLeastTerms_18 (by decide) ?_
      refine e_long (nL 0) rfl ?_
      refine e_lcmp dX9_inLeastTerms_19 ?_
      refine e_if_eq 44 dX9_inLeastTerms_20 (by decide) (fun _ => ?_) (fun q => absurd (lc_eq.mpr rfl) q)
      exact l_X9_lst44 hu hl hw ha h0 h
  | succ n ih =>
    intro a b i o10 o11 hi hbn hb ha h0 h
    refine e_iload dX9_inLeastTerms_9 rfl ?_
    refine e_bipush (nI 100) dX9_inLeastTerms_11 (by decide) ?_
    refine e_icmp_ge 44 dX9_inLeastTerms_13 (by decide) (fun q => absurd ((nI_le' (by omega) (by omega)).mp q) (by omega)) (fun _ => ?_)
    refine e_lload dX9_inLeastTerms_16 rfl ?_
    refine e_lconst 0 dX9_inLeastTerms_18 (by decide) ?_
    refine e_long (nL 0) rfl ?_
    refine e_lcmp dX9_inLeastTerms_19 ?_
    refine e_if_eq 44 dX9_inLeastTerms_20 (by decide) (fun c20 => ?_) (fun c20 => ?_)
    · rw [lc_eq, nL_inj (by omega) (by omega)] at c20
      have c20 : b = 0 := c20
      subst c20
      rw [Nat.gcd_zero_right] at h h0
      exact l_X9_lst44 hu hl hw (by omega) h0 h
    · rw [lc_eq, nL_inj (by omega) (by omega)] at c20
      refine e_lload dX9_inLeastTerms_23 rfl ?_
      refine e_lload dX9_inLeastTerms_25 rfl ?_
      refine e_lrem dX9_inLeastTerms_27 (nL_ne (by omega) c20) ?_
      refine e_long (nL (a % b)) (nL_rem ha hb) ?_
      refine e_lstore (L1 := [some (.long (nL up)), none, some (.long (nL lo)), none, some (.int (nI wt)), some (.long (nL a)), none, some (.long (nL b)), none, some (.int (nI i)), some (.long (nL (a % b))), none]) dX9_inLeastTerms_28 (by decide) rfl ?_
      refine e_lload dX9_inLeastTerms_30 rfl ?_
      refine e_lstore (L1 := [some (.long (nL up)), none, some (.long (nL lo)), none, some (.int (nI wt)), some (.long (nL b)), none, some (.long (nL b)), none, some (.int (nI i)), some (.long (nL (a % b))), none]) dX9_inLeastTerms_32 (by decide) rfl ?_
      refine e_lload dX9_inLeastTerms_34 rfl ?_
      refine e_lstore (L1 := [some (.long (nL up)), none, some (.long (nL lo)), none, some (.int (nI wt)), some (.long (nL b)), none, some (.long (nL (a % b))), none, some (.int (nI i)), some (.long (nL (a % b))), none]) dX9_inLeastTerms_36 (by decide) rfl ?_
      refine e_iinc (v := nI (i + 1)) (L1 := [some (.long (nL up)), none, some (.long (nL lo)), none, some (.int (nI wt)), some (.long (nL b)), none, some (.long (nL (a % b))), none, some (.int (nI (i + 1))), some (.long (nL (a % b))), none]) dX9_inLeastTerms_38 rfl (show nI i + Int32.ofInt 1 = nI (i + 1) from nI_add i 1) (by decide) rfl ?_
      refine e_goto 9 dX9_inLeastTerms_41 (by decide) ?_
      have hr := Nat.mod_lt a (Nat.pos_of_ne_zero c20)
      have c20a := c20
      refine e_iload dX9_inLeastTerms_9 rfl ?_
      refine e_bipush (nI 100) dX9_inLeastTerms_11 (by decide) ?_
      refine e_icmp_ge 44 dX9_inLeastTerms_13 (by decide) (fun q => absurd ((nI_le' (by omega) (by omega)).mp q) (by omega)) (fun _ => ?_)
      refine e_lload dX9_inLeastTerms_16 rfl ?_
      refine e_lconst 0 dX9_inLeastTerms_18 (by decide) ?_
      refine e_long (nL 0) rfl ?_
      refine e_lcmp dX9_inLeastTerms_19 ?_
      refine e_if_eq 44 dX9_inLeastTerms_20 (by decide) (fun c20 => ?_) (fun c20 => ?_)
      · rw [lc_eq, nL_inj (by omega) (by omega)] at c20
        have e9 : Nat.gcd a b = b := by rw [← gcd_st, c20, Nat.gcd_zero_right]
        rw [e9] at h h0
        exact l_X9_lst44 hu hl hw (by omega) h0 h
      · rw [lc_eq, nL_inj (by omega) (by omega)] at c20
        refine e_lload dX9_inLeastTerms_23 rfl ?_
        refine e_lload dX9_inLeastTerms_25 rfl ?_
        refine e_lrem dX9_inLeastTerms_27 (nL_ne (by omega) c20) ?_
        refine e_long (nL (b % (a % b))) (nL_rem hb (by omega)) ?_
        refine e_lstore (L1 := [some (.long (nL up)), none, some (.long (nL lo)), none, some (.int (nI wt)), some (.long (nL b)), none, some (.long (nL (a % b))), none, some (.int (nI (i + 1))), some (.long (nL (b % (a % b)))), none]) dX9_inLeastTerms_28 (by decide) rfl ?_
        refine e_lload dX9_inLeastTerms_30 rfl ?_
        refine e_lstore (L1 := [some (.long (nL up)), none, some (.long (nL lo)), none, some (.int (nI wt)), some (.long (nL (a % b))), none, some (.long (nL (a % b))), none, some (.int (nI (i + 1))), some (.long (nL (b % (a % b)))), none]) dX9_inLeastTerms_32 (by decide) rfl ?_
        refine e_lload dX9_inLeastTerms_34 rfl ?_
        refine e_lstore (L1 := [some (.long (nL up)), none, some (.long (nL lo)), none, some (.int (nI wt)), some (.long (nL (a % b))), none, some (.long (nL (b % (a % b)))), none, some (.int (nI (i + 1))), some (.long (nL (b % (a % b)))), none]) dX9_inLeastTerms_36 (by decide) rfl ?_
        refine e_iinc (v := nI ((i + 1) + 1)) (L1 := [some (.long (nL up)), none, some (.long (nL lo)), none, some (.int (nI wt)), some (.long (nL (a % b))), none, some (.long (nL (b % (a % b)))), none, some (.int (nI ((i + 1) + 1))), some (.long (nL (b % (a % b)))), none]) dX9_inLeastTerms_38 rfl (show nI (i + 1) + Int32.ofInt 1 = nI ((i + 1) + 1) from nI_add (i + 1) 1) (by decide) rfl ?_
        refine e_goto 9 dX9_inLeastTerms_41 (by decide) ?_
        have hr2 := rem_half hr (Nat.pos_of_ne_zero c20)
        have hp : 2 ^ (n + 1) = 2 ^ n * 2 := Nat.pow_succ _ _
        have hr3 := Nat.mod_lt b (Nat.pos_of_ne_zero c20)
        exact ih (a % b) (b % (a % b)) (i + 2) _ _ (by omega) (by omega) (by omega) (by omega) (by rw [gcd_st, gcd_st]; exact h0) (by rw [gcd_st, gcd_st]; exact h)
set_option maxRecDepth 20000 in
theorem t_X9_inLeastTerms {g : fGP} {d : Nat} {σ : fAH} {Q : fRes → fAH → Prop} {up lo wt : Nat} (hu : up < 9223372036854775808) (hl : lo < 4294967296) (hw : wt < 100) (h0 : 0 < lo) (h : Q (.inl (some (.long (nL (if wt = 0 then up / Nat.gcd up lo else lo / Nat.gcd up lo))))) σ) : fEv g d mX9_inLeastTerms 0 (fent [.long (nL up), .long (nL lo), .int (nI wt)] 12) [] σ Q := by
  show fEv g d mX9_inLeastTerms 0 [some (.long (nL up)), none, some (.long (nL lo)), none, some (.int (nI wt)), none, none, none, none, none, none, none] [] σ Q
  refine e_lload_n dX9_inLeastTerms_0 rfl rfl ?_
  refine e_lstore (L1 := [some (.long (nL up)), none, some (.long (nL lo)), none, some (.int (nI wt)), some (.long (nL up)), none, none, none, none, none, none]) dX9_inLeastTerms_1 (by decide) rfl ?_
  refine e_lload_n dX9_inLeastTerms_3 rfl rfl ?_
  refine e_lstore (L1 := [some (.long (nL up)), none, some (.long (nL lo)), none, some (.int (nI wt)), some (.long (nL up)), none, some (.long (nL lo)), none, none, none, none]) dX9_inLeastTerms_4 (by decide) rfl ?_
  refine e_iconst (nI 0) dX9_inLeastTerms_6 (by decide) ?_
  refine e_istore (L1 := [some (.long (nL up)), none, some (.long (nL lo)), none, some (.int (nI wt)), some (.long (nL up)), none, some (.long (nL lo)), none, some (.int (nI 0)), none, none]) dX9_inLeastTerms_7 (by decide) rfl ?_
  exact l_X9_lst9 hu (by omega) hw 32 up lo 0 none none (by omega) hl (by omega) hu (Nat.gcd_pos_of_pos_right _ h0) h
