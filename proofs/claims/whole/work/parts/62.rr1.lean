theorem hr_n {hi : Nat} (hh : hi < 1000) : ∀ v, v < 200000 → (nI v ≤ nI hi ↔ v < hi + 1) := fun v hv => by
  rw [nI_le' (by omega) (by omega)]
  omega
theorem hr_s {x : Nat} (h1 : x < 1000) : ∀ v, v < 200000 → (nI v ≤ nI x - nI 1 ↔ v < x) := fun v hv => by
  by_cases h : 1 ≤ x
  · rw [pk_sub h, nI_le' (by omega) (by omega)]
    omega
  · have e : x = 0 := by omega
    subst e
    rw [show nI 0 - nI 1 = -1 by decide]
    constructor
    · intro q
      have := (nI_zge (a := v) (by omega)).mpr (by omega)
      exact absurd (Int32.le_trans this q) (by decide)
    · intro q
      omega
def msix (a b c x4 x5 x6 : Nat) : Nat := if x6 = 0 then (if x5 = 0 then 27 * (27 * (27 * a + b) + c) + x4 else 27 * (27 * (27 * (27 * a + b) + c) + x4) + x5) else 27 * (if x5 = 0 then 27 * (27 * (27 * a + b) + c) + x4 else 27 * (27 * (27 * (27 * a + b) + c) + x4) + x5) + x6
def f89 : Nat → Prop := fun a => a = 89
theorem mdg_t {B : Nat → Nat} {n b : Nat} (h : b < n) (hq : qdg B b = true) : ¬ mdg B n b = b := by
  unfold mdg
  obtain ⟨k, hk⟩ : ∃ k, n - b = k + 1 := ⟨n - b - 1, by omega⟩
  rw [hk, msc_t hq]
  have := msc_le (f := qdg B) k (b + 1)
  omega
theorem mdg_f {B : Nat → Nat} {n b : Nat} (h : ¬ (b < n ∧ qdg B b = true)) : mdg B n b = b := by
  unfold mdg
  by_cases hb : b < n
  · rw [msc_f (by cases q : qdg B b; rfl; exact absurd ⟨hb, q⟩ h)]
  · rw [show n - b = 0 by omega]
    rfl
set_option maxRecDepth 20000 in
theorem t_X10_byteAt {g : fGP} {d : Nat} {σ : fAH} {Q : fRes → fAH → Prop} {B : Nat → Nat} {n : Nat} {k : Nat} (Ms : fMs g σ) (hB : ∀ i, i < 600 → fI σ 90 i = nI (B i)) (hn : fI σ 89 2 = nI n) (hn6 : n ≤ 600) (hk : k < 100000) (h : Q (.inl (some (.int (mba B n k)))) σ) : fEv g d mX10_byteAt 0 (fent [.ref 89, .int (nI k)] 2) [] σ Q := by
  show fEv g d mX10_byteAt 0 [some (.ref 89), some (.int (nI k))] [] σ Q
  refine e_iload_n dX10_byteAt_0 rfl rfl ?_
  refine e_aload_n dX10_byteAt_1 rfl rfl ?_
  refine e_getI dX10_byteAt_2 fl_RX10_82 (Ms.s 89 rfl) (Ms.n (by decide)) rfl ?_
  refine e_int (nI n) hn ?_
  refine e_icmp_lt 12 dX10_byteAt_5 (by decide) (fun c5 => ?_) (fun c5 => ?_)
  · rw [nI_lt' (by omega) (by omega)] at c5
    refine e_aload_n dX10_byteAt_12 rfl rfl ?_
    refine e_getR (q := 90) dX10_byteAt_13 fl_RX10_13 (Ms.s 89 rfl) (Ms.n (by decide)) rfl (Ms.r 89 8 rfl) (by unfold fscr; omega) ?_
    refine e_iload_n dX10_byteAt_16 rfl rfl ?_
    refine e_iaload k dX10_byteAt_17 (Ms.s 90 rfl) (Ms.n (by decide)) rfl (by omega) (by decide) ?_
    refine e_int (nI (B k)) (hB k (by omega)) ?_
    have e9 : mba B n k = nI (B k) := if_pos (by omega)
    rw [e9] at h
    exact e_ireturn .int dX10_byteAt_18 rfl rfl h
  · rw [nI_lt' (by omega) (by omega)] at c5
    refine e_iconst (-1) dX10_byteAt_8 (by decide) ?_
    refine e_goto 18 dX10_byteAt_9 (by decide) ?_
    have e9 : mba B n k = -1 := if_neg (by omega)
    rw [e9] at h
    exact e_ireturn .int dX10_byteAt_18 rfl rfl h
set_option maxRecDepth 20000 in
theorem t_X10_isDigit {g : fGP} {d : Nat} {σ : fAH} {Q : fRes → fAH → Prop} {B : Nat → Nat} {n : Nat} {k : Nat} (hb : ∀ i, B i < 256) (h : Q (.inl (some (.int (nI (bn (decide (k < n ∧ qdg B k = true))))))) σ) : fEv g d mX10_isDigit 0 (fent [.int (mba B n k)] 1) [] σ Q := by
  show fEv g d mX10_isDigit 0 [some (.int (mba B n k))] [] σ Q
  refine e_iload_n dX10_isDigit_0 rfl rfl ?_
  refine e_bipush (nI 48) dX10_isDigit_1 (by decide) ?_
  refine e_icmp_lt 16 dX10_isDigit_3 (by decide) (fun c3 => ?_) (fun c3 => ?_)
  · rw [mba_lt (hb k) (by decide)] at c3
    refine e_iconst (nI 0) dX10_isDigit_16 (by decide) ?_
    have hm : decide (k < n ∧ qdg B k = true) = false := decide_eq_false (fun q => by have := of_decide_eq_true q.2; omega)
    rw [hm] at h
    exact e_ireturn .boolean dX10_isDigit_17 rfl (by decide) h
  · rw [mba_lt (hb k) (by decide)] at c3
    refine e_iload_n dX10_isDigit_6 rfl rfl ?_
    refine e_bipush (nI 57) dX10_isDigit_7 (by decide) ?_
    refine e_icmp_gt 16 dX10_isDigit_9 (by decide) (fun c9 => ?_) (fun c9 => ?_)
    · rw [mba_gt (hb k) (by decide)] at c9
      refine e_iconst (nI 0) dX10_isDigit_16 (by decide) ?_
      have hm : decide (k < n ∧ qdg B k = true) = false := decide_eq_false (fun q => by have := of_decide_eq_true q.2; omega)
      rw [hm] at h
      exact e_ireturn .boolean dX10_isDigit_17 rfl (by decide) h
    · rw [mba_gt (hb k) (by decide)] at c9
      refine e_iconst (nI 1) dX10_isDigit_12 (by decide) ?_
      refine e_goto 17 dX10_isDigit_13 (by decide) ?_
      have hm : decide (k < n ∧ qdg B k = true) = true := decide_eq_true ⟨by omega, decide_eq_true (by omega)⟩
      rw [hm] at h
      exact e_ireturn .boolean dX10_isDigit_17 rfl (by decide) h
set_option maxRecDepth 20000 in
theorem l_X10_blanks {g : fGP} {d : Nat} {σ : fAH} {Q : fRes → fAH → Prop} {B : Nat → Nat} {n : Nat} (Ms : fMs g σ) (hB : ∀ i, i < 600 → fI σ 90 i = nI (B i)) (hb : ∀ i, B i < 256) (hn : fI σ 89 2 = nI n) (hn6 : n ≤ 600)  : ∀ (k a : Nat), a + k = n → Q (.inl none) (fsI σ 89 4 (nI (msc (qbl B) k a))) → fEv g (d + 1) mX10_blanks 0 [some (.ref 89)] [] (fsI σ 89 4 (nI a)) Q := by
  intro k
  induction k with
  | zero =>
    intro a ha h
    refine e_aload_n dX10_blanks_0 rfl rfl ?_
    refine e_aload_n dX10_blanks_1 rfl rfl ?_
    refine e_getI dX10_blanks_2 fl_RX10_85 (Ms.s 89 rfl) (Ms.n (by decide)) rfl ?_
    refine e_int (nI a) (by rw [fI_I, if_pos ⟨rfl, rfl⟩]) ?_
    refine e_callV (k := 89) [.int (nI a)] dX10_blanks_5 cc_X10_byteAt lk_RX10_88 im_X10_byteAt se_X10_byteAt (by decide) (Ms.s 89 rfl) (Ms.n (by decide)) rfl (Nat.le_of_ble_eq_true rfl) (Nat.le_of_ble_eq_true rfl) ?_
    refine t_X10_byteAt Ms hB hn hn6 (by omega) (fK_i ?_)
    show fEv g _ mX10_blanks 8 [some (.ref 89)] [.int (mba B n a)] (fsI σ 89 4 (nI a)) Q
    refine e_bipush (nI 32) dX10_blanks_8 (by decide) ?_
    refine e_icmp_ne 26 dX10_blanks_10 (by decide) (fun c10 => ?_) (fun c10 => ?_)
    · rw [mba_eq (hb a) (by decide)] at c10
      exact e_return dX10_blanks_26 rfl h
    · rw [mba_eq (hb a) (by decide)] at c10
      refine e_aload_n dX10_blanks_13 rfl rfl ?_
      refine e_dup dX10_blanks_14 rfl ?_
      refine e_getI dX10_blanks_15 fl_RX10_85 (Ms.s 89 rfl) (Ms.n (by decide)) rfl ?_
      refine e_int (nI a) (by rw [fI_I, if_pos ⟨rfl, rfl⟩]) ?_
      refine e_iconst (nI 1) dX10_blanks_18 (by decide) ?_
      refine e_iadd dX10_blanks_19 ?_
      refine e_int (nI (a + 1)) (nI_add a 1) ?_
      refine e_putI dX10_blanks_20 fl_RX10_85 (Ms.s 89 rfl) (Ms.n (by decide)) rfl rfl ?_
      refine e_goto 0 dX10_blanks_23 (by decide) ?_
      exact absurd c10.1 (by omega)
  | succ k ih =>
    intro a ha h
    refine e_aload_n dX10_blanks_0 rfl rfl ?_
    refine e_aload_n dX10_blanks_1 rfl rfl ?_
    refine e_getI dX10_blanks_2 fl_RX10_85 (Ms.s 89 rfl) (Ms.n (by decide)) rfl ?_
    refine e_int (nI a) (by rw [fI_I, if_pos ⟨rfl, rfl⟩]) ?_
    refine e_callV (k := 89) [.int (nI a)] dX10_blanks_5 cc_X10_byteAt lk_RX10_88 im_X10_byteAt se_X10_byteAt (by decide) (Ms.s 89 rfl) (Ms.n (by decide)) rfl (Nat.le_of_ble_eq_true rfl) (Nat.le_of_ble_eq_true rfl) ?_
    refine t_X10_byteAt Ms hB hn hn6 (by omega) (fK_i ?_)
    show fEv g _ mX10_blanks 8 [some (.ref 89)] [.int (mba B n a)] (fsI σ 89 4 (nI a)) Q
    refine e_bipush (nI 32) dX10_blanks_8 (by decide) ?_
    refine e_icmp_ne 26 dX10_blanks_10 (by decide) (fun c10 => ?_) (fun c10 => ?_)
    · rw [mba_eq (hb a) (by decide)] at c10
      rw [msc_f (decide_eq_false (fun q => c10 ⟨by omega, q⟩))] at h
      exact e_return dX10_blanks_26 rfl h
    · rw [mba_eq (hb a) (by decide)] at c10
      refine e_aload_n dX10_blanks_13 rfl rfl ?_
      refine e_dup dX10_blanks_14 rfl ?_
      refine e_getI dX10_blanks_15 fl_RX10_85 (Ms.s 89 rfl) (Ms.n (by decide)) rfl ?_
      refine e_int (nI a) (by rw [fI_I, if_pos ⟨rfl, rfl⟩]) ?_
      refine e_iconst (nI 1) dX10_blanks_18 (by decide) ?_
      refine e_iadd dX10_blanks_19 ?_
      refine e_int (nI (a + 1)) (nI_add a 1) ?_
      refine e_putI dX10_blanks_20 fl_RX10_85 (Ms.s 89 rfl) (Ms.n (by decide)) rfl rfl ?_
      refine e_goto 0 dX10_blanks_23 (by decide) ?_
      rw [fsI_2]
      rw [msc_t (decide_eq_true c10.2)] at h
      exact ih (a + 1) (by omega) h
set_option maxRecDepth 20000 in
theorem t_X10_blanks {g : fGP} {d : Nat} {σ : fAH} {Q : fRes → fAH → Prop} {B : Nat → Nat} {n : Nat} {a : Nat} (Ms : fMs g σ) (hB : ∀ i, i < 600 → fI σ 90 i = nI (B i)) (hb : ∀ i, B i < 256) (hn : fI σ 89 2 = nI n) (hn6 : n ≤ 600) (hat : fI σ 89 4 = nI a) (ha : a ≤ n) (h : Q (.inl none) (fsI σ 89 4 (nI (mbl B n a)))) : fEv g (d + 1) mX10_blanks 0 (fent [.ref 89] 1) [] σ Q := by
  have k := l_X10_blanks (d := d) (Q := Q) Ms hB hb hn hn6 (n - a) a (by omega) h
  rw [fsI_id hat] at k
  exact k
set_option maxRecDepth 20000 in
theorem t_X10_wrong {g : fGP} {d : Nat} {σ : fAH} {Q : fRes → fAH → Prop} {c p : Nat} (Ms : fMs g σ) (hf : fI σ 89 5 = nI 0) (h : Q (.inl none) (fsI (fsI σ 89 5 (nI c)) 89 6 (nI p))) : fEv g d mX10_wrong 0 (fent [.ref 89, .int (nI c), .int (nI p)] 3) [] σ Q := by
  show fEv g d mX10_wrong 0 [some (.ref 89), some (.int (nI c)), some (.int (nI p))] [] σ Q
  refine e_aload_n dX10_wrong_0 rfl rfl ?_
  refine e_getI dX10_wrong_1 fl_RX10_92 (Ms.s 89 rfl) (Ms.n (by decide)) rfl ?_
  refine e_int (nI 0) hf ?_
  refine e_if_ne 17 dX10_wrong_4 (by decide) (fun c => absurd c (by decide)) (fun _ => ?_)
  refine e_aload_n dX10_wrong_7 rfl rfl ?_
  refine e_iload_n dX10_wrong_8 rfl rfl ?_
  refine e_putI dX10_wrong_9 fl_RX10_92 (Ms.s 89 rfl) (Ms.n (by decide)) rfl rfl ?_
  refine e_aload_n dX10_wrong_12 rfl rfl ?_
  refine e_iload_n dX10_wrong_13 rfl rfl ?_
  refine e_putI dX10_wrong_14 fl_RX10_95 (Ms.s 89 rfl) (Ms.n (by decide)) rfl rfl ?_
  exact e_return dX10_wrong_17 rfl h
set_option maxRecDepth 20000 in
theorem t_X10_wrongN {g : fGP} {d : Nat} {σ : fAH} {Q : fRes → fAH → Prop} {c p : Int32} {x : Nat} (Ms : fMs g σ) (hf : fI σ 89 5 = nI x) (hx : 1 ≤ x ∧ x ≤ 3) (h : Q (.inl none) σ) : fEv g d mX10_wrong 0 (fent [.ref 89, .int c, .int p] 3) [] σ Q := by
  show fEv g d mX10_wrong 0 [some (.ref 89), some (.int c), some (.int p)] [] σ Q
  refine e_aload_n dX10_wrong_0 rfl rfl ?_
  refine e_getI dX10_wrong_1 fl_RX10_92 (Ms.s 89 rfl) (Ms.n (by decide)) rfl ?_
  refine e_int (nI x) hf ?_
  refine e_if_ne 17 dX10_wrong_4 (by decide) (fun _ => ?_) (fun c => absurd ((nI_z (by omega)).mp c) (by omega))
  exact e_return dX10_wrong_17 rfl h
set_option maxRecDepth 20000 in
theorem l_X10_dig {g : fGP} {d : Nat} {σ : fAH} {Q : fRes → fAH → Prop} {B : Nat → Nat} {n : Nat} {lo hi : Int32} {st : Nat} (Ms : fMs g σ) (hB : ∀ i, i < 600 → fI σ 90 i = nI (B i)) (hb : ∀ i, B i < 256) (hn : fI σ 89 2 = nI n) (hn6 : n ≤ 600)  : ∀ (k a v : Nat), a + k = n → fEv g (d + 1) mX10_number 106 [some (.ref 89), some (.int lo), some (.int hi), some (.int (nI st)), some (.int (nI (min 100000 (mdn B k a v))))] [] (fsI σ 89 4 (nI (msc (qdg B) k a))) Q → fEv g (d + 1) mX10_number 44 [some (.ref 89), some (.int lo), some (.int hi), some (.int (nI st)), some (.int (nI (min 100000 v)))] [] (fsI σ 89 4 (nI a)) Q := by
  intro k
  induction k with
  | zero =>
    intro a v ha h
    refine e_aload_n dX10_number_44 rfl rfl ?_
    refine e_aload_n dX10_number_45 rfl rfl ?_
    refine e_getI dX10_number_46 fl_RX10_85 (Ms.s 89 rfl) (Ms.n (by decide)) rfl ?_
    refine e_int (nI a) (by rw [fI_I, if_pos ⟨rfl, rfl⟩]) ?_
    refine e_callV (k := 89) [.int (nI a)] dX10_number_49 cc_X10_byteAt lk_RX10_88 im_X10_byteAt se_X10_byteAt (by decide) (Ms.s 89 rfl) (Ms.n (by decide)) rfl (Nat.le_of_ble_eq_true rfl) (Nat.le_of_ble_eq_true rfl) ?_
    refine t_X10_byteAt Ms hB hn hn6 (by omega) (fK_i ?_)
    show fEv g _ mX10_number 52 [some (.ref 89), some (.int lo), some (.int hi), some (.int (nI st)), some (.int (nI (min 100000 v)))] [.int (mba B n a)] (fsI σ 89 4 (nI a)) Q
    refine e_callS [.int (mba B n a)] dX10_number_52 cc_X10_isDigit lk_RX10_101 st_X10_isDigit in_RX10 rfl (Nat.le_of_ble_eq_true rfl) (Nat.le_of_ble_eq_true rfl) ?_
    refine t_X10_isDigit hb (fK_i ?_)
    show fEv g _ mX10_number 55 [some (.ref 89), some (.int lo), some (.int hi), some (.int (nI st)), some (.int (nI (min 100000 v)))] [.int (nI (bn (decide (a < n ∧ qdg B a = true))))] (fsI σ 89 4 (nI a)) Q
    refine e_if_eq 106 dX10_number_55 (by decide) (fun c55 => ?_) (fun c55 => ?_)
    · have c55 := bn0 c55
      have c55 := of_decide_eq_false c55
      exact h
    · have c55 := bn1 c55
      have c55 := of_decide_eq_true c55
      have q55 := of_decide_eq_true c55.2
      have hba := hb a
      refine e_bipush (nI 10) dX10_number_58 (by decide) ?_
      refine e_iload dX10_number_60 rfl ?_
      refine e_imul dX10_number_62 ?_
      refine e_int (nI (10 * (min 100000 v))) (pk_mul 10 (min 100000 v)) ?_
      refine e_aload_n dX10_number_63 rfl rfl ?_
      refine e_aload_n dX10_number_64 rfl rfl ?_
      refine e_getI dX10_number_65 fl_RX10_85 (Ms.s 89 rfl) (Ms.n (by decide)) rfl ?_
      refine e_int (nI a) (by rw [fI_I, if_pos ⟨rfl, rfl⟩]) ?_
      refine e_callV (k := 89) [.int (nI a)] dX10_number_68 cc_X10_byteAt lk_RX10_88 im_X10_byteAt se_X10_byteAt (by decide) (Ms.s 89 rfl) (Ms.n (by decide)) rfl (Nat.le_of_ble_eq_true rfl) (Nat.le_of_ble_eq_true rfl) ?_
      refine t_X10_byteAt Ms hB hn hn6 (by omega) (fK_i ?_)
      show fEv g _ mX10_number 71 [some (.ref 89), some (.int lo), some (.int hi), some (.int (nI st)), some (.int (nI (min 100000 v)))] [.int (mba B n a), .int (nI (10 * (min 100000 v)))] (fsI σ 89 4 (nI a)) Q
      refine e_int (nI (B a)) (mba_in c55.1) ?_
      refine e_iadd dX10_number_71 ?_
      refine e_int (nI (10 * (min 100000 v) + B a)) (nI_add (10 * (min 100000 v)) (B a)) ?_
      refine e_bipush (nI 48) dX10_number_72 (by decide) ?_
      refine e_isub dX10_number_74 ?_
      refine e_int (nI ((10 * (min 100000 v) + B a) - 48)) (pk_sub (by omega)) ?_
      refine e_istore (L1 := [some (.ref 89), some (.int lo), some (.int hi), some (.int (nI st)), some (.int (nI ((10 * (min 100000 v) + B a) - 48)))]) dX10_number_75 (by decide) rfl ?_
      refine e_iload dX10_number_77 rfl ?_
      refine e_ldcI (100000) dX10_number_79 kc_RX10_109 ?_
      refine e_int (nI 100000) (by decide) ?_
      refine e_icmp_le 89 dX10_number_81 (by decide) (fun c81 => ?_) (fun c81 => ?_)
      · rw [nI_le' (by omega) (by omega)] at c81
        refine e_iload dX10_number_89 rfl ?_
        refine e_istore (L1 := [some (.ref 89), some (.int lo), some (.int hi), some (.int (nI st)), some (.int (nI ((10 * (min 100000 v) + B a) - 48)))]) dX10_number_91 (by decide) rfl ?_
        refine e_aload_n dX10_number_93 rfl rfl ?_
        refine e_dup dX10_number_94 rfl ?_
        refine e_getI dX10_number_95 fl_RX10_85 (Ms.s 89 rfl) (Ms.n (by decide)) rfl ?_
        refine e_int (nI a) (by rw [fI_I, if_pos ⟨rfl, rfl⟩]) ?_
        refine e_iconst (nI 1) dX10_number_98 (by decide) ?_
        refine e_iadd dX10_number_99 ?_
        refine e_int (nI (a + 1)) (nI_add a 1) ?_
        refine e_putI dX10_number_100 fl_RX10_85 (Ms.s 89 rfl) (Ms.n (by decide)) rfl rfl ?_
        refine e_goto 44 dX10_number_103 (by decide) ?_
        exact absurd c55.1 (by omega)
      · rw [nI_le' (by omega) (by omega)] at c81
        refine e_ldcI (100000) dX10_number_84 kc_RX10_109 ?_
        refine e_int (nI 100000) (by decide) ?_
        refine e_goto 91 dX10_number_86 (by decide) ?_
        refine e_istore (L1 := [some (.ref 89), some (.int lo), some (.int hi), some (.int (nI st)), some (.int (nI 100000))]) dX10_number_91 (by decide) rfl ?_
        refine e_aload_n dX10_number_93 rfl rfl ?_
        refine e_dup dX10_number_94 rfl ?_
        refine e_getI dX10_number_95 fl_RX10_85 (Ms.s 89 rfl) (Ms.n (by decide)) rfl ?_
        refine e_int (nI a) (by rw [fI_I, if_pos ⟨rfl, rfl⟩]) ?_
        refine e_iconst (nI 1) dX10_number_98 (by decide) ?_
        refine e_iadd dX10_number_99 ?_
        refine e_int (nI (a + 1)) (nI_add a 1) ?_
        refine e_putI dX10_number_100 fl_RX10_85 (Ms.s 89 rfl) (Ms.n (by decide)) rfl rfl ?_
        refine e_goto 44 dX10_number_103 (by decide) ?_
        exact absurd c55.1 (by omega)
  | succ k ih =>
    intro a v ha h
    refine e_aload_n dX10_number_44 rfl rfl ?_
    refine e_aload_n dX10_number_45 rfl rfl ?_
    refine e_getI dX10_number_46 fl_RX10_85 (Ms.s 89 rfl) (Ms.n (by decide)) rfl ?_
    refine e_int (nI a) (by rw [fI_I, if_pos ⟨rfl, rfl⟩]) ?_
    refine e_callV (k := 89) [.int (nI a)] dX10_number_49 cc_X10_byteAt lk_RX10_88 im_X10_byteAt se_X10_byteAt (by decide) (Ms.s 89 rfl) (Ms.n (by decide)) rfl (Nat.le_of_ble_eq_true rfl) (Nat.le_of_ble_eq_true rfl) ?_
    refine t_X10_byteAt Ms hB hn hn6 (by omega) (fK_i ?_)
    show fEv g _ mX10_number 52 [some (.ref 89), some (.int lo), some (.int hi), some (.int (nI st)), some (.int (nI (min 100000 v)))] [.int (mba B n a)] (fsI σ 89 4 (nI a)) Q
    refine e_callS [.int (mba B n a)] dX10_number_52 cc_X10_isDigit lk_RX10_101 st_X10_isDigit in_RX10 rfl (Nat.le_of_ble_eq_true rfl) (Nat.le_of_ble_eq_true rfl) ?_
    refine t_X10_isDigit hb (fK_i ?_)
    show fEv g _ mX10_number 55 [some (.ref 89), some (.int lo), some (.int hi), some (.int (nI st)), some (.int (nI (min 100000 v)))] [.int (nI (bn (decide (a < n ∧ qdg B a = true))))] (fsI σ 89 4 (nI a)) Q
    refine e_if_eq 106 dX10_number_55 (by decide) (fun c55 => ?_) (fun c55 => ?_)
    · have c55 := bn0 c55
      have c55 := of_decide_eq_false c55
      have hq : qdg B a = false := by cases q : qdg B a; rfl; exact absurd ⟨by omega, q⟩ c55
      rw [msc_f hq, mdn_f hq] at h
      exact h
    · have c55 := bn1 c55
      have c55 := of_decide_eq_true c55
      have q55 := of_decide_eq_true c55.2
      have hba := hb a
      refine e_bipush (nI 10) dX10_number_58 (by decide) ?_
      refine e_iload dX10_number_60 rfl ?_
      refine e_imul dX10_number_62 ?_
      refine e_int (nI (10 * (min 100000 v))) (pk_mul 10 (min 100000 v)) ?_
      refine e_aload_n dX10_number_63 rfl rfl ?_
      refine e_aload_n dX10_number_64 rfl rfl ?_
      refine e_getI dX10_number_65 fl_RX10_85 (Ms.s 89 rfl) (Ms.n (by decide)) rfl ?_
      refine e_int (nI a) (by rw [fI_I, if_pos ⟨rfl, rfl⟩]) ?_
      refine e_callV (k := 89) [.int (nI a)] dX10_number_68 cc_X10_byteAt lk_RX10_88 im_X10_byteAt se_X10_byteAt (by decide) (Ms.s 89 rfl) (Ms.n (by decide)) rfl (Nat.le_of_ble_eq_true rfl) (Nat.le_of_ble_eq_true rfl) ?_
      refine t_X10_byteAt Ms hB hn hn6 (by omega) (fK_i ?_)
      show fEv g _ mX10_number 71 [some (.ref 89), some (.int lo), some (.int hi), some (.int (nI st)), some (.int (nI (min 100000 v)))] [.int (mba B n a), .int (nI (10 * (min 100000 v)))] (fsI σ 89 4 (nI a)) Q
      refine e_int (nI (B a)) (mba_in c55.1) ?_
      refine e_iadd dX10_number_71 ?_
      refine e_int (nI (10 * (min 100000 v) + B a)) (nI_add (10 * (min 100000 v)) (B a)) ?_
      refine e_bipush (nI 48) dX10_number_72 (by decide) ?_
      refine e_isub dX10_number_74 ?_
      refine e_int (nI ((10 * (min 100000 v) + B a) - 48)) (pk_sub (by omega)) ?_
      refine e_istore (L1 := [some (.ref 89), some (.int lo), some (.int hi), some (.int (nI st)), some (.int (nI ((10 * (min 100000 v) + B a) - 48)))]) dX10_number_75 (by decide) rfl ?_
      refine e_iload dX10_number_77 rfl ?_
      refine e_ldcI (100000) dX10_number_79 kc_RX10_109 ?_
      refine e_int (nI 100000) (by decide) ?_
      refine e_icmp_le 89 dX10_number_81 (by decide) (fun c81 => ?_) (fun c81 => ?_)
      · rw [nI_le' (by omega) (by omega)] at c81
        refine e_iload dX10_number_89 rfl ?_
        refine e_istore (L1 := [some (.ref 89), some (.int lo), some (.int hi), some (.int (nI st)), some (.int (nI ((10 * (min 100000 v) + B a) - 48)))]) dX10_number_91 (by decide) rfl ?_
        refine e_aload_n dX10_number_93 rfl rfl ?_
        refine e_dup dX10_number_94 rfl ?_
        refine e_getI dX10_number_95 fl_RX10_85 (Ms.s 89 rfl) (Ms.n (by decide)) rfl ?_
        refine e_int (nI a) (by rw [fI_I, if_pos ⟨rfl, rfl⟩]) ?_
        refine e_iconst (nI 1) dX10_number_98 (by decide) ?_
        refine e_iadd dX10_number_99 ?_
        refine e_int (nI (a + 1)) (nI_add a 1) ?_
        refine e_putI dX10_number_100 fl_RX10_85 (Ms.s 89 rfl) (Ms.n (by decide)) rfl rfl ?_
        refine e_goto 44 dX10_number_103 (by decide) ?_
        rw [fsI_2]
        rw [msc_t c55.2, mdn_t c55.2] at h
        have k9 := ih (a + 1) (10 * v + (B a - 48)) (by omega) h
        rw [show min 100000 (10 * v + (B a - 48)) = (10 * (min 100000 v) + B a) - 48 by omega] at k9
        exact k9
      · rw [nI_le' (by omega) (by omega)] at c81
        refine e_ldcI (100000) dX10_number_84 kc_RX10_109 ?_
        refine e_int (nI 100000) (by decide) ?_
        refine e_goto 91 dX10_number_86 (by decide) ?_
        refine e_istore (L1 := [some (.ref 89), some (.int lo), some (.int hi), some (.int (nI st)), some (.int (nI 100000))]) dX10_number_91 (by decide) rfl ?_
        refine e_aload_n dX10_number_93 rfl rfl ?_
        refine e_dup dX10_number_94 rfl ?_
        refine e_getI dX10_number_95 fl_RX10_85 (Ms.s 89 rfl) (Ms.n (by decide)) rfl ?_
        refine e_int (nI a) (by rw [fI_I, if_pos ⟨rfl, rfl⟩]) ?_
        refine e_iconst (nI 1) dX10_number_98 (by decide) ?_
        refine e_iadd dX10_number_99 ?_
        refine e_int (nI (a + 1)) (nI_add a 1) ?_
        refine e_putI dX10_number_100 fl_RX10_85 (Ms.s 89 rfl) (Ms.n (by decide)) rfl rfl ?_
        refine e_goto 44 dX10_number_103 (by decide) ?_
        rw [fsI_2]
        rw [msc_t c55.2, mdn_t c55.2] at h
        have k9 := ih (a + 1) (10 * v + (B a - 48)) (by omega) h
        rw [show min 100000 (10 * v + (B a - 48)) = 100000 by omega] at k9
        exact k9
set_option maxRecDepth 20000 in
theorem t_X10_number {g : fGP} {d : Nat} {σ : fAH} {Q : fRes → fAH → Prop} {B : Nat → Nat} {n : Nat} {s : fP} {lo hi1 : Nat} {hi : Int32} (Ms : fMs g σ) (hB : ∀ i, i < 600 → fI σ 90 i = nI (B i)) (hb : ∀ i, B i < 256) (hn : fI σ 89 2 = nI n) (hn6 : n ≤ 600) (hs : fPs σ 89 4 n s) (hlo : lo ≤ 2) (hh1 : ∀ a, s = .inr a → hi1 ≤ 1000) (hl : ∀ a, s = .inr a → ∀ v, v < 200000 → (nI v ≤ hi ↔ v < hi1)) (h : ∀ σ', fSm f89 σ σ' → fPs σ' 89 4 n (mnum B n lo hi1 s) → (∀ j, j ≠ 4 → j ≠ 5 → j ≠ 6 → fI σ' 89 j = fI σ 89 j) → Q (.inl (some (.int (nI (mnv B n lo hi1 0 s))))) σ') : fEv g (d + 2) mX10_number 0 (fent [.ref 89, .int (nI lo), .int hi] 5) [] σ Q := by
  show fEv g (d + 2) mX10_number 0 [some (.ref 89), some (.int (nI lo)), some (.int hi), none, none] [] σ Q
  cases s with
  | inl x =>
    have hs : fI σ 89 5 = nI x.1 ∧ fI σ 89 6 = nI x.2 ∧ 1 ≤ x.1 ∧ x.1 ≤ 3 ∧ x.2 ≤ n ∧ ∃ a9, a9 ≤ n ∧ fI σ 89 4 = nI a9 := hs
    refine e_aload_n dX10_number_0 rfl rfl ?_
    refine e_getI dX10_number_1 fl_RX10_92 (Ms.s 89 rfl) (Ms.n (by decide)) rfl ?_
    refine e_int (nI x.1) hs.1 ?_
    refine e_if_eq 9 dX10_number_4 (by decide) (fun c => absurd ((nI_z (by omega)).mp c) (by omega)) (fun _ => ?_)
    refine e_iconst (nI 0) dX10_number_7 (by decide) ?_
    exact e_ireturn .int dX10_number_8 rfl rfl (h _ fSm.rfl' hs (fun j h3 h5 h6 => rfl))
  | inr a =>
    have hs : a ≤ n ∧ fI σ 89 4 = nI a ∧ fI σ 89 5 = nI 0 ∧ fI σ 89 6 = -1 := hs
    have hat := hs.2.1
    have ha := hs.1
    have hh1 := hh1 a rfl
    have b1 := mbl_b (B := B) ha
    have b2 := mdg_b (B := B) b1.2
    refine e_aload_n dX10_number_0 rfl rfl ?_
    refine e_getI dX10_number_1 fl_RX10_92 (Ms.s 89 rfl) (Ms.n (by decide)) rfl ?_
    refine e_int (nI 0) hs.2.2.1 ?_
    refine e_if_eq 9 dX10_number_4 (by decide) (fun _ => ?_) (fun c => absurd c (by decide))
    refine e_aload_n dX10_number_9 rfl rfl ?_
    refine e_callV (k := 89) [] dX10_number_10 cc_X10_blanks lk_RX10_98 im_X10_blanks se_X10_blanks (by decide) (Ms.s 89 rfl) (Ms.n (by decide)) rfl (Nat.le_of_ble_eq_true rfl) (Nat.le_of_ble_eq_true rfl) ?_
    refine t_X10_blanks (B := B) (n := n) (a := a) Ms hB hb hn hn6 hat ha (fK_v ?_)
    show fEv g _ mX10_number 13 [some (.ref 89), some (.int (nI lo)), some (.int hi), none, none] [] (fsI σ 89 4 (nI (mbl B n a))) Q
    refine e_aload_n dX10_number_13 rfl rfl ?_
    refine e_getI dX10_number_14 fl_RX10_85 (Ms.s 89 rfl) (Ms.n (by decide)) rfl ?_
    refine e_int (nI (mbl B n a)) (by rw [fI_I, if_pos ⟨rfl, rfl⟩]) ?_
    refine e_istore_n (L1 := [some (.ref 89), some (.int (nI lo)), some (.int hi), some (.int (nI (mbl B n a))), none]) dX10_number_17 rfl (by decide) rfl ?_
    refine e_iconst (nI 0) dX10_number_18 (by decide) ?_
    refine e_istore (L1 := [some (.ref 89), some (.int (nI lo)), some (.int hi), some (.int (nI (mbl B n a))), some (.int (nI 0))]) dX10_number_19 (by decide) rfl ?_
    refine e_aload_n dX10_number_21 rfl rfl ?_
    refine e_aload_n dX10_number_22 rfl rfl ?_
    refine e_getI dX10_number_23 fl_RX10_85 (Ms.s 89 rfl) (Ms.n (by decide)) rfl ?_
    refine e_int (nI (mbl B n a)) (by rw [fI_I, if_pos ⟨rfl, rfl⟩]) ?_
    refine e_callV (k := 89) [.int (nI (mbl B n a))] dX10_number_26 cc_X10_byteAt lk_RX10_88 im_X10_byteAt se_X10_byteAt (by decide) (Ms.s 89 rfl) (Ms.n (by decide)) rfl (Nat.le_of_ble_eq_true rfl) (Nat.le_of_ble_eq_true rfl) ?_
    refine t_X10_byteAt Ms hB hn hn6 (by omega) (fK_i ?_)
    show fEv g _ mX10_number 29 [some (.ref 89), some (.int (nI lo)), some (.int hi), some (.int (nI (mbl B n a))), some (.int (nI 0))] [.int (mba B n (mbl B n a))] (fsI σ 89 4 (nI (mbl B n a))) Q
    refine e_callS [.int (mba B n (mbl B n a))] dX10_number_29 cc_X10_isDigit lk_RX10_101 st_X10_isDigit in_RX10 rfl (Nat.le_of_ble_eq_true rfl) (Nat.le_of_ble_eq_true rfl) ?_
    refine t_X10_isDigit hb (fK_i ?_)
    show fEv g _ mX10_number 32 [some (.ref 89), some (.int (nI lo)), some (.int hi), some (.int (nI (mbl B n a))), some (.int (nI 0))] [.int (nI (bn (decide ((mbl B n a) < n ∧ qdg B (mbl B n a) = true))))] (fsI σ 89 4 (nI (mbl B n a))) Q
    refine e_if_ne 44 dX10_number_32 (by decide) (fun c32 => ?_) (fun c32 => ?_)
    · have c32 := bn1 c32
      have c32 := of_decide_eq_true c32
      have nd : ¬ mdg B n (mbl B n a) = mbl B n a := mdg_t c32.1 c32.2
      refine l_X10_dig (Q := Q) (d := d + 1) Ms hB hb hn hn6 (n - mbl B n a) (mbl B n a) 0 (by omega) ?_
      rw [show msc (qdg B) (n - mbl B n a) (mbl B n a) = mdg B n (mbl B n a) from rfl, show mdn B (n - mbl B n a) (mbl B n a) 0 = mV B n a from rfl]
      refine e_iload dX10_number_106 rfl ?_
      refine e_iload_n dX10_number_108 rfl rfl ?_
      refine e_iload_n dX10_number_109 rfl rfl ?_
      refine e_callS [.int (nI (min 100000 (mV B n a))), .int (nI lo), .int hi] dX10_number_110 cc_X10_in lk_RX10_110 st_X10_in in_RX10 rfl (Nat.le_of_ble_eq_true rfl) (Nat.le_of_ble_eq_true rfl) ?_
      refine t_X10_in (fK_i ?_)
      show fEv g _ mX10_number 113 [some (.ref 89), some (.int (nI lo)), some (.int hi), some (.int (nI (mbl B n a))), some (.int (nI (min 100000 (mV B n a))))] [.int (nI (bn (decide (nI lo ≤ nI (min 100000 (mV B n a)) ∧ nI (min 100000 (mV B n a)) ≤ hi))))] (fsI σ 89 4 (nI (mdg B n (mbl B n a)))) Q
      refine e_if_ne 122 dX10_number_113 (by decide) (fun c113 => ?_) (fun c113 => ?_)
      · have c113 := bn1 c113
        have c113 := of_decide_eq_true c113
        rw [nI_le' (by omega) (by omega), hl a rfl _ (by omega)] at c113
        refine e_aload_n dX10_number_122 rfl rfl ?_
        refine e_getI dX10_number_123 fl_RX10_92 (Ms.s 89 rfl) (Ms.n (by decide)) rfl ?_
        refine e_int (nI 0) (by rw [fI_I, if_neg (by omega)]; exact hs.2.2.1) ?_
        refine e_if_ne 134 dX10_number_126 (by decide) (fun c => absurd c (by decide)) (fun _ => ?_)
        refine e_iload dX10_number_129 rfl ?_
        refine e_goto 135 dX10_number_131 (by decide) ?_
        have e1 : mnum B n lo hi1 (.inr a) = .inr (mdg B n (mbl B n a)) := by show (if _ then _ else if _ then _ else _) = _; rw [if_neg nd, if_pos (by omega)]
        have e2 : mnv B n lo hi1 0 (.inr a) = mV B n a := by show (if _ then _ else if _ then _ else _) = _; rw [if_neg nd, if_pos (by omega)]
        rw [e1, e2] at h
        rw [show min 100000 (mV B n a) = mV B n a by omega]
        exact e_ireturn .int dX10_number_135 rfl rfl (h _ (fSm_I (A := f89) rfl) ⟨by omega, by rw [fI_I, if_pos ⟨rfl, rfl⟩], by rw [fI_I, if_neg (by omega)]; exact hs.2.2.1, by rw [fI_I, if_neg (by omega)]; exact hs.2.2.2⟩ (fun j h3 h5 h6 => by rw [fI_I, if_neg (by omega)]))
      · have c113 := bn0 c113
        have c113 := of_decide_eq_false c113
        rw [nI_le' (by omega) (by omega), hl a rfl _ (by omega)] at c113
        refine e_aload_n dX10_number_116 rfl rfl ?_
        refine e_iconst (nI 2) dX10_number_117 (by decide) ?_
        refine e_iload_n dX10_number_118 rfl rfl ?_
        refine e_callV (k := 89) [.int (nI 2), .int (nI (mbl B n a))] dX10_number_119 cc_X10_wrong lk_RX10_105 im_X10_wrong se_X10_wrong (by decide) (Ms.s 89 rfl) (Ms.n (by decide)) rfl (Nat.le_of_ble_eq_true rfl) (Nat.le_of_ble_eq_true rfl) ?_
        refine t_X10_wrong Ms (by rw [fI_I, if_neg (by omega)]; exact hs.2.2.1) (fK_v ?_)
        show fEv g _ mX10_number 122 [some (.ref 89), some (.int (nI lo)), some (.int hi), some (.int (nI (mbl B n a))), some (.int (nI (min 100000 (mV B n a))))] [] (fsI (fsI (fsI σ 89 4 (nI (mdg B n (mbl B n a)))) 89 5 (nI 2)) 89 6 (nI (mbl B n a))) Q
        refine e_aload_n dX10_number_122 rfl rfl ?_
        refine e_getI dX10_number_123 fl_RX10_92 (Ms.s 89 rfl) (Ms.n (by decide)) rfl ?_
        refine e_int (nI 2) (by rw [fI_I, if_neg (by omega), fI_I, if_pos ⟨rfl, rfl⟩]) ?_
        refine e_if_ne 134 dX10_number_126 (by decide) (fun _ => ?_) (fun c => absurd c (by decide))
        refine e_iconst (nI 0) dX10_number_134 (by decide) ?_
        have e1 : mnum B n lo hi1 (.inr a) = .inl (2, mbl B n a) := by show (if _ then _ else if _ then _ else _) = _; rw [if_neg nd, if_neg (by omega)]
        have e2 : mnv B n lo hi1 0 (.inr a) = 0 := by show (if _ then _ else if _ then _ else _) = _; rw [if_neg nd, if_neg (by omega)]
        rw [e1, e2] at h
        exact e_ireturn .int dX10_number_135 rfl rfl (h _ (((fSm_I (A := f89) rfl).tr (fSm_I rfl)).tr (fSm_I rfl)) ⟨by rw [fI_I, if_neg (by omega), fI_I, if_pos ⟨rfl, rfl⟩], by rw [fI_I, if_pos ⟨rfl, rfl⟩], by show 1 ≤ 2; decide, by show 2 ≤ 3; decide, by show mbl B n a ≤ n; omega, mdg B n (mbl B n a), by omega, by rw [fI_I, if_neg (by omega), fI_I, if_neg (by omega), fI_I, if_pos ⟨rfl, rfl⟩]⟩ (fun j h3 h5 h6 => by rw [fI_I, if_neg (by omega), fI_I, if_neg (by omega), fI_I, if_neg (by omega)]))
    · have c32 := bn0 c32
      have c32 := of_decide_eq_false c32
      have nd : mdg B n (mbl B n a) = mbl B n a := mdg_f c32
      refine e_aload_n dX10_number_35 rfl rfl ?_
      refine e_iconst (nI 1) dX10_number_36 (by decide) ?_
      refine e_aload_n dX10_number_37 rfl rfl ?_
      refine e_getI dX10_number_38 fl_RX10_85 (Ms.s 89 rfl) (Ms.n (by decide)) rfl ?_
      refine e_int (nI (mbl B n a)) (by rw [fI_I, if_pos ⟨rfl, rfl⟩]) ?_
      refine e_callV (k := 89) [.int (nI 1), .int (nI (mbl B n a))] dX10_number_41 cc_X10_wrong lk_RX10_105 im_X10_wrong se_X10_wrong (by decide) (Ms.s 89 rfl) (Ms.n (by decide)) rfl (Nat.le_of_ble_eq_true rfl) (Nat.le_of_ble_eq_true rfl) ?_
      refine t_X10_wrong Ms (by rw [fI_I, if_neg (by omega)]; exact hs.2.2.1) (fK_v ?_)
      show fEv g _ mX10_number 44 [some (.ref 89), some (.int (nI lo)), some (.int hi), some (.int (nI (mbl B n a))), some (.int (nI 0))] [] (fsI (fsI (fsI σ 89 4 (nI (mbl B n a))) 89 5 (nI 1)) 89 6 (nI (mbl B n a))) Q
      refine e_aload_n dX10_number_44 rfl rfl ?_
      refine e_aload_n dX10_number_45 rfl rfl ?_
      refine e_getI dX10_number_46 fl_RX10_85 (Ms.s 89 rfl) (Ms.n (by decide)) rfl ?_
      refine e_int (nI (mbl B n a)) (by rw [fI_I, if_neg (by omega), fI_I, if_neg (by omega), fI_I, if_pos ⟨rfl, rfl⟩]) ?_
      refine e_callV (k := 89) [.int (nI (mbl B n a))] dX10_number_49 cc_X10_byteAt lk_RX10_88 im_X10_byteAt se_X10_byteAt (by decide) (Ms.s 89 rfl) (Ms.n (by decide)) rfl (Nat.le_of_ble_eq_true rfl) (Nat.le_of_ble_eq_true rfl) ?_
      refine t_X10_byteAt Ms hB hn hn6 (by omega) (fK_i ?_)
      show fEv g _ mX10_number 52 [some (.ref 89), some (.int (nI lo)), some (.int hi), some (.int (nI (mbl B n a))), some (.int (nI 0))] [.int (mba B n (mbl B n a))] (fsI (fsI (fsI σ 89 4 (nI (mbl B n a))) 89 5 (nI 1)) 89 6 (nI (mbl B n a))) Q
      refine e_callS [.int (mba B n (mbl B n a))] dX10_number_52 cc_X10_isDigit lk_RX10_101 st_X10_isDigit in_RX10 rfl (Nat.le_of_ble_eq_true rfl) (Nat.le_of_ble_eq_true rfl) ?_
      refine t_X10_isDigit hb (fK_i ?_)
      show fEv g _ mX10_number 55 [some (.ref 89), some (.int (nI lo)), some (.int hi), some (.int (nI (mbl B n a))), some (.int (nI 0))] [.int (nI (bn (decide ((mbl B n a) < n ∧ qdg B (mbl B n a) = true))))] (fsI (fsI (fsI σ 89 4 (nI (mbl B n a))) 89 5 (nI 1)) 89 6 (nI (mbl B n a))) Q
      refine e_if_eq 106 dX10_number_55 (by decide) (fun c55 => ?_) (fun c55 => absurd (show nI (bn (decide (mbl B n a < n ∧ qdg B (mbl B n a) = true))) = 0 by rw [decide_eq_false c32]; rfl) c55)
      have c55 := bn0 c55
      refine e_iload dX10_number_106 rfl ?_
      refine e_iload_n dX10_number_108 rfl rfl ?_
      refine e_iload_n dX10_number_109 rfl rfl ?_
      refine e_callS [.int (nI 0), .int (nI lo), .int hi] dX10_number_110 cc_X10_in lk_RX10_110 st_X10_in in_RX10 rfl (Nat.le_of_ble_eq_true rfl) (Nat.le_of_ble_eq_true rfl) ?_
      refine t_X10_in (fK_i ?_)
      show fEv g _ mX10_number 113 [some (.ref 89), some (.int (nI lo)), some (.int hi), some (.int (nI (mbl B n a))), some (.int (nI 0))] [.int (nI (bn (decide (nI lo ≤ nI 0 ∧ nI 0 ≤ hi))))] (fsI (fsI (fsI σ 89 4 (nI (mbl B n a))) 89 5 (nI 1)) 89 6 (nI (mbl B n a))) Q
      refine e_if_ne 122 dX10_number_113 (by decide) (fun c113 => ?_) (fun c113 => ?_)
      · have c113 := bn1 c113
        refine e_aload_n dX10_number_122 rfl rfl ?_
        refine e_getI dX10_number_123 fl_RX10_92 (Ms.s 89 rfl) (Ms.n (by decide)) rfl ?_
        refine e_int (nI 1) (by rw [fI_I, if_neg (by omega), fI_I, if_pos ⟨rfl, rfl⟩]) ?_
        refine e_if_ne 134 dX10_number_126 (by decide) (fun _ => ?_) (fun c => absurd c (by decide))
        refine e_iconst (nI 0) dX10_number_134 (by decide) ?_
        have e1 : mnum B n lo hi1 (.inr a) = .inl (1, mbl B n a) := by show (if _ then _ else if _ then _ else _) = _; rw [if_pos nd]
        have e2 : mnv B n lo hi1 0 (.inr a) = 0 := by show (if _ then _ else if _ then _ else _) = _; rw [if_pos nd]
        rw [e1, e2] at h
        exact e_ireturn .int dX10_number_135 rfl rfl (h _ (((fSm_I (A := f89) rfl).tr (fSm_I rfl)).tr (fSm_I rfl)) ⟨by rw [fI_I, if_neg (by omega), fI_I, if_pos ⟨rfl, rfl⟩], by rw [fI_I, if_pos ⟨rfl, rfl⟩], by show 1 ≤ 1; decide, by show 1 ≤ 3; decide, by show mbl B n a ≤ n; omega, mbl B n a, by omega, by rw [fI_I, if_neg (by omega), fI_I, if_neg (by omega), fI_I, if_pos ⟨rfl, rfl⟩]⟩ (fun j h3 h5 h6 => by rw [fI_I, if_neg (by omega), fI_I, if_neg (by omega), fI_I, if_neg (by omega)]))
      · have c113 := bn0 c113
        refine e_aload_n dX10_number_116 rfl rfl ?_
        refine e_iconst (nI 2) dX10_number_117 (by decide) ?_
        refine e_iload_n dX10_number_118 rfl rfl ?_
        refine e_callV (k := 89) [.int (nI 2), .int (nI (mbl B n a))] dX10_number_119 cc_X10_wrong lk_RX10_105 im_X10_wrong se_X10_wrong (by decide) (Ms.s 89 rfl) (Ms.n (by decide)) rfl (Nat.le_of_ble_eq_true rfl) (Nat.le_of_ble_eq_true rfl) ?_
        refine t_X10_wrongN Ms (by rw [fI_I, if_neg (by omega), fI_I, if_pos ⟨rfl, rfl⟩]) (by decide) (fK_v ?_)
        show fEv g _ mX10_number 122 [some (.ref 89), some (.int (nI lo)), some (.int hi), some (.int (nI (mbl B n a))), some (.int (nI 0))] [] (fsI (fsI (fsI σ 89 4 (nI (mbl B n a))) 89 5 (nI 1)) 89 6 (nI (mbl B n a))) Q
        refine e_aload_n dX10_number_122 rfl rfl ?_
        refine e_getI dX10_number_123 fl_RX10_92 (Ms.s 89 rfl) (Ms.n (by decide)) rfl ?_
        refine e_int (nI 1) (by rw [fI_I, if_neg (by omega), fI_I, if_pos ⟨rfl, rfl⟩]) ?_
        refine e_if_ne 134 dX10_number_126 (by decide) (fun _ => ?_) (fun c => absurd c (by decide))
        refine e_iconst (nI 0) dX10_number_134 (by decide) ?_
        have e1 : mnum B n lo hi1 (.inr a) = .inl (1, mbl B n a) := by show (if _ then _ else if _ then _ else _) = _; rw [if_pos nd]
        have e2 : mnv B n lo hi1 0 (.inr a) = 0 := by show (if _ then _ else if _ then _ else _) = _; rw [if_pos nd]
        rw [e1, e2] at h
        exact e_ireturn .int dX10_number_135 rfl rfl (h _ (((fSm_I (A := f89) rfl).tr (fSm_I rfl)).tr (fSm_I rfl)) ⟨by rw [fI_I, if_neg (by omega), fI_I, if_pos ⟨rfl, rfl⟩], by rw [fI_I, if_pos ⟨rfl, rfl⟩], by show 1 ≤ 1; decide, by show 1 ≤ 3; decide, by show mbl B n a ≤ n; omega, mbl B n a, by omega, by rw [fI_I, if_neg (by omega), fI_I, if_neg (by omega), fI_I, if_pos ⟨rfl, rfl⟩]⟩ (fun j h3 h5 h6 => by rw [fI_I, if_neg (by omega), fI_I, if_neg (by omega), fI_I, if_neg (by omega)]))
