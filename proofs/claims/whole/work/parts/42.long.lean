/-! longs that are numbers -/
def nL (n : Nat) : Int64 := Int64.ofNat n
theorem nL_add (a b : Nat) : nL a + nL b = nL (a + b) := (Int64.ofNat_add a b).symm
theorem nL_mul (a b : Nat) : nL a * nL b = nL (a * b) := (Int64.ofNat_mul a b).symm
theorem nL_toInt {a : Nat} (h : a < 9223372036854775808) : (nL a).toInt = a := Int64.toInt_ofNat_of_lt h
theorem nL_i {x : Nat} (h : x < 2147483648) : (nI x).toInt64 = nL x := by
  apply Int64.toInt_inj.1
  rw [Int32.toInt_toInt64, nL_toInt (by omega)]
  exact Int32.toInt_ofNat_of_lt h
theorem nL_lt {a b : Nat} (ha : a < 9223372036854775808) (hb : b < 9223372036854775808) : nL a < nL b ↔ a < b := by
  rw [Int64.lt_iff_toInt_lt, nL_toInt ha, nL_toInt hb]
  omega
theorem nL_inj {a b : Nat} (ha : a < 9223372036854775808) (hb : b < 9223372036854775808) : nL a = nL b ↔ a = b := by
  rw [← Int64.toInt_inj, nL_toInt ha, nL_toInt hb]
  omega
theorem lc_gt {x y : Int64} : 0 < lg_cmp x y ↔ y < x := by
  unfold lg_cmp
  by_cases h : x > y
  · rw [if_pos h]; exact ⟨fun _ => h, fun _ => by decide⟩
  · rw [if_neg h]
    split
    · exact ⟨fun q => absurd q (by decide), fun q => absurd q h⟩
    · exact ⟨fun q => absurd q (by decide), fun q => absurd q h⟩
theorem lc_le {x y : Int64} : lg_cmp x y ≤ 0 ↔ ¬ y < x := by
  rw [← lc_gt]
  exact (Int32.not_lt).symm
theorem lc_eq {x y : Int64} : lg_cmp x y = 0 ↔ x = y := by
  unfold lg_cmp
  by_cases h : x > y
  · rw [if_pos h]
    exact ⟨fun q => absurd q (by decide), fun q => by subst q; exact absurd h (Int64.lt_irrefl)⟩
  · rw [if_neg h]
    by_cases e : x = y
    · rw [if_pos e]; exact ⟨fun _ => e, fun _ => rfl⟩
    · rw [if_neg e]; exact ⟨fun q => absurd q (by decide), fun q => absurd q e⟩
theorem lc_ne {x y : Int64} : lg_cmp x y = 0 ↔ x = y := lc_eq
/-- -1 for none -/
def ob (b : Option Nat) : Int64 := match b with
  | none => -1
  | some x => nL x
theorem ob_lt {b : Option Nat} {v : Nat} (hv : v < 9223372036854775808) (hb : ∀ x, b = some x → x < 9223372036854775808) : ob b < nL v ↔ mbt b v = true := by
  cases b with
  | none =>
    refine ⟨fun _ => rfl, fun _ => ?_⟩
    show (-1 : Int64) < nL v
    rw [Int64.lt_iff_toInt_lt, nL_toInt hv]
    show (-1 : Int) < v
    omega
  | some x =>
    show nL x < nL v ↔ decide (x < v) = true
    rw [nL_lt (hb x rfl) hv, decide_eq_true_iff]
theorem nL_fours : ∀ n, n < 13 → nL 1 <<< ((nI (2 * n)).toInt64 &&& 63) = nL (4 ^ n) := by decide +kernel
