def fTwA : Nat → Prop := fun a => 55 ≤ a ∧ a < 59
def fTw (σ : fAH) (S idx : Nat → Nat) (n : Nat) : Prop := fI σ 55 3 = nI n ∧ ∀ i, i < n → fI σ 56 i = nI (mlo S (idx i)) ∧ fI σ 57 i = nI (msh S (idx i))
theorem nI_mx {a b : Nat} (ha : a < 2147483648) (hb : b < 2147483648) : (if nI a < nI b then nI b else nI a) = nI (max a b) := by
  by_cases e : a < b
  · rw [if_pos ((nI_lt' ha hb).mpr e), Nat.max_eq_right (by omega)]
  · rw [if_neg (fun q => e ((nI_lt' ha hb).mp q)), Nat.max_eq_left (by omega)]
theorem nI_mn {a b : Nat} (ha : a < 2147483648) (hb : b < 2147483648) : (if nI b < nI a then nI b else nI a) = nI (min a b) := by
  by_cases e : b < a
  · rw [if_pos ((nI_lt' hb ha).mpr e), Nat.min_eq_right (by omega)]
  · rw [if_neg (fun q => e ((nI_lt' hb ha).mp q)), Nat.min_eq_left (by omega)]
theorem mlo_le {D : fSD} {S : Nat → Nat} (hW : fWS D S) {p : Nat} (hp : p < S 120) : mlo S p ≤ 12 ∧ msh S p ≤ 12 := by
  have := hW.2.1 p hp
  unfold mlo msh mwd mhg
  omega
theorem mat_t {S idx : Nat → Nat} {p j : Nat} (h : mgt S (idx j) p = true) : mat S idx p (j + 1) = mat S idx p j := by
  show (if _ then _ else _) = _
  rw [if_pos h]
theorem mat_f {S idx : Nat → Nat} {p j : Nat} (h : ¬ mgt S (idx j) p = true) : mat S idx p (j + 1) = j + 1 := by
  show (if _ then _ else _) = _
  rw [if_neg h]
theorem mps_g {S : Nat → Nat} : ∀ (n p : Nat) (h : Nat → Nat) (m : Bool) (t q : Nat), h q ≤ (mps S n p h m t).1 q
  | 0, _, _, _, _, _ => Nat.le_refl _
  | n + 1, p, h, m, t, q => by
    unfold mps
    split
    · exact mps_g n _ _ _ _ q
    · refine Nat.le_trans ?_ (mps_g n _ _ _ _ q)
      unfold mup
      split
      · next e => rw [e]; split <;> omega
      · exact Nat.le_refl _
theorem mps_t {S : Nat → Nat} : ∀ (n p : Nat) (h : Nat → Nat) (m : Bool) (t : Nat), p + n = S 120 → (mps S n p h m t).2.2 = t ∨ ∃ q, q < S 120 ∧ (mps S n p h m t).2.2 ≤ (mps S n p h m t).1 q
  | 0, _, _, _, _, _ => Or.inl rfl
  | n + 1, p, h, m, t, e => by
    unfold mps
    split
    · exact mps_t n _ _ _ _ (by omega)
    · rcases mps_t (S := S) n (p + 1) (mup h p (if h p < mbb S h p then mbb S h p else h p)) (m || decide (h p < mbb S h p)) (if t < (if h p < mbb S h p then mbb S h p else h p) then (if h p < mbb S h p then mbb S h p else h p) else t) (by omega) with q | q
      · by_cases c : t < (if h p < mbb S h p then mbb S h p else h p)
        · refine Or.inr ⟨p, by omega, ?_⟩
          have g := mps_g (S := S) n (p + 1) (mup h p (if h p < mbb S h p then mbb S h p else h p)) (m || decide (h p < mbb S h p)) (if t < (if h p < mbb S h p then mbb S h p else h p) then (if h p < mbb S h p then mbb S h p else h p) else t) p
          rw [mup_s] at g
          rw [if_pos c] at q
          rw [if_pos c]
          rw [if_pos c] at g
          omega
        · rw [if_neg c] at q
          rw [if_neg c]
          exact Or.inl q
      · exact Or.inr q
theorem mhb_le {S idx ht : Nat → Nat} {i B : Nat} (n j b : Nat) (hb : b ≤ B) (h : ∀ r, j ≤ r → r < j + n → ht r ≤ B) : mhb S idx ht i n j b ≤ B := by
  rcases mhb_w (S := S) (idx := idx) (ht := ht) (i := i) n j b with e | ⟨r, h1, h2, _, e⟩
  · omega
  · rw [e]; exact h r h1 h2
set_option maxRecDepth 20000 in
theorem l_X6_ins89 {g : fGP} {d : Nat} {Q : fRes → fAH → Prop} {S idx : Nat → Nat} {p n : Nat} {σ : fAH} {a : Nat} (Ms : fMs g σ) (hz : fI σ 55 3 = nI n) (hn : n < 18) (ha9 : a ≤ n) (hlo : ∀ i, i < a → fI σ 56 i = nI (mlo S (idx i)) ∧ fI σ 57 i = nI (msh S (idx i))) (hhi : ∀ i, a < i → i ≤ n → fI σ 56 i = nI (mlo S (idx (i - 1))) ∧ fI σ 57 i = nI (msh S (idx (i - 1)))) (ha : mat S idx p n = a) (h : ∀ σ', fSm fTwA σ σ' → fTw σ' S (minS idx (mat S idx p n) p) (n + 1) → Q (.inl none) σ') : fEv g d mX6_insert 89 [some (.ref 55), some (.int (nI (mlo S p))), some (.int (nI (msh S p))), some (.int (nI a))] [] σ Q := by
  refine e_aload_n dX6_insert_89 rfl rfl ?_
  refine e_getR (q := 56) dX6_insert_90 fl_RX6_9 (Ms.s 55 rfl) (Ms.n (by decide)) rfl (Ms.r 55 0 rfl) (by unfold fscr; omega) ?_
  refine e_iload_n dX6_insert_93 rfl rfl ?_
  refine e_iload_n dX6_insert_94 rfl rfl ?_
  refine e_iastore a dX6_insert_95 (Ms.s 56 rfl) (Ms.n (by decide)) rfl (by omega) (by decide) ?_
  refine e_aload_n dX6_insert_96 rfl rfl ?_
  refine e_getR (q := 57) dX6_insert_97 fl_RX6_15 (Ms.s 55 rfl) (Ms.n (by decide)) rfl (Ms.r 55 1 rfl) (by unfold fscr; omega) ?_
  refine e_iload_n dX6_insert_100 rfl rfl ?_
  refine e_iload_n dX6_insert_101 rfl rfl ?_
  refine e_iastore a dX6_insert_102 (Ms.s 57 rfl) (Ms.n (by decide)) rfl (by omega) (by decide) ?_
  refine e_aload_n dX6_insert_103 rfl rfl ?_
  refine e_dup dX6_insert_104 rfl ?_
  refine e_getI dX6_insert_105 fl_RX6_21 (Ms.s 55 rfl) (Ms.n (by decide)) rfl ?_
  refine e_int (nI n) (by rw [fI_I, if_neg (by omega), fI_I, if_neg (by omega)]; exact hz) ?_
  refine e_iconst (nI 1) dX6_insert_108 (by decide) ?_
  refine e_iadd dX6_insert_109 ?_
  refine e_int (nI (n + 1)) (nI_add n 1) ?_
  refine e_putI dX6_insert_110 fl_RX6_21 (Ms.s 55 rfl) (Ms.n (by decide)) rfl rfl ?_
  refine e_return dX6_insert_113 rfl (h _ ((fSm_I (A := fTwA) ⟨by omega, by omega⟩).tr ((fSm_I (A := fTwA) ⟨by omega, by omega⟩).tr (fSm_I (A := fTwA) ⟨by omega, by omega⟩))) ⟨by rw [fI_I, if_pos ⟨rfl, rfl⟩], fun i hi => ?_⟩)
  rw [ha]
  unfold minS
  by_cases e1 : i < a
  · rw [if_pos e1, fI_I, if_neg (by omega), fI_I, if_neg (by omega), fI_I, if_neg (by omega), fI_I, if_neg (by omega), fI_I, if_neg (by omega), fI_I, if_neg (by omega)]; exact hlo i e1
  · rw [if_neg e1]
    by_cases e2 : i = a
    · rw [if_pos e2, e2, fI_I, if_neg (by omega), fI_I, if_neg (by omega), fI_I, if_pos ⟨rfl, rfl⟩, fI_I, if_neg (by omega), fI_I, if_pos ⟨rfl, rfl⟩]; exact ⟨rfl, rfl⟩
    · rw [if_neg e2, fI_I, if_neg (by omega), fI_I, if_neg (by omega), fI_I, if_neg (by omega), fI_I, if_neg (by omega), fI_I, if_neg (by omega), fI_I, if_neg (by omega)]; exact hhi i (by omega) (by omega)
set_option maxRecDepth 20000 in
theorem l_X6_ins {g : fGP} {d : Nat} {Q : fRes → fAH → Prop} {S idx : Nat → Nat} {p n : Nat} (hn : n < 18) (hbd : ∀ i, i < n → mlo S (idx i) ≤ 12 ∧ msh S (idx i) ≤ 12) (hbp : mlo S p ≤ 12 ∧ msh S p ≤ 12) : ∀ (j : Nat) (σ : fAH), j ≤ n → fMs g σ → fI σ 55 3 = nI n → (∀ i, i < j → fI σ 56 i = nI (mlo S (idx i)) ∧ fI σ 57 i = nI (msh S (idx i))) → (∀ i, j < i → i ≤ n → fI σ 56 i = nI (mlo S (idx (i - 1))) ∧ fI σ 57 i = nI (msh S (idx (i - 1)))) → mat S idx p j = mat S idx p n → (∀ σ', fSm fTwA σ σ' → fTw σ' S (minS idx (mat S idx p n) p) (n + 1) → Q (.inl none) σ') → fEv g d mX6_insert 15 [some (.ref 55), some (.int (nI (mlo S p))), some (.int (nI (msh S p))), some (.int (nI j))] [] σ Q := by
  intro j
  induction j with
  | zero =>
    intro σ hj Ms hz hlo hhi hm h
    refine e_iload_n dX6_insert_15 rfl rfl ?_
    refine e_if_le 89 dX6_insert_16 (by decide) (fun _ => ?_) (fun c => absurd c (by decide))
    exact l_X6_ins89 Ms hz hn (Nat.zero_le _) hlo hhi hm.symm h
  | succ j ih =>
    intro σ hj Ms hz hlo hhi hm h
    have hl := hbd j (by omega)
    have hl2 := hbp
    refine e_iload_n dX6_insert_15 rfl rfl ?_
    refine e_if_le 89 dX6_insert_16 (by decide) (fun c16 => absurd c16 (show ¬ nI (j + 1) ≤ 0 from fun q => absurd ((nI_zle (by omega)).mp q) (by omega))) (fun c16 => ?_)
    refine e_aload_n dX6_insert_19 rfl rfl ?_
    refine e_getR (q := 56) dX6_insert_20 fl_RX6_9 (Ms.s 55 rfl) (Ms.n (by decide)) rfl (Ms.r 55 0 rfl) (by unfold fscr; omega) ?_
    refine e_iload_n dX6_insert_23 rfl rfl ?_
    refine e_iconst (nI 1) dX6_insert_24 (by decide) ?_
    refine e_isub dX6_insert_25 ?_
    refine e_int (nI j) ((pk_sub (by omega)).trans (by rw [Nat.add_sub_cancel])) ?_
    refine e_iaload j dX6_insert_26 (Ms.s 56 rfl) (Ms.n (by decide)) rfl (by omega) (by decide) ?_
    refine e_int (nI (mlo S (idx j))) (hlo j (by omega)).1 ?_
    refine e_iload_n dX6_insert_27 rfl rfl ?_
    refine e_icmp_gt 55 dX6_insert_28 (by decide) (fun c28 => ?_) (fun c28 => ?_)
    · rw [nI_lt' (by omega) (by omega)] at c28
      refine e_aload_n dX6_insert_55 rfl rfl ?_
      refine e_getR (q := 56) dX6_insert_56 fl_RX6_9 (Ms.s 55 rfl) (Ms.n (by decide)) rfl (Ms.r 55 0 rfl) (by unfold fscr; omega) ?_
      refine e_iload_n dX6_insert_59 rfl rfl ?_
      refine e_aload_n dX6_insert_60 rfl rfl ?_
      refine e_getR (q := 56) dX6_insert_61 fl_RX6_9 (Ms.s 55 rfl) (Ms.n (by decide)) rfl (Ms.r 55 0 rfl) (by unfold fscr; omega) ?_
      refine e_iload_n dX6_insert_64 rfl rfl ?_
      refine e_iconst (nI 1) dX6_insert_65 (by decide) ?_
      refine e_isub dX6_insert_66 ?_
      refine e_int (nI j) ((pk_sub (by omega)).trans (by rw [Nat.add_sub_cancel])) ?_
      refine e_iaload j dX6_insert_67 (Ms.s 56 rfl) (Ms.n (by decide)) rfl (by omega) (by decide) ?_
      refine e_int (nI (mlo S (idx j))) (hlo j (by omega)).1 ?_
      refine e_iastore (j + 1) dX6_insert_68 (Ms.s 56 rfl) (Ms.n (by decide)) rfl (by omega) (by decide) ?_
      refine e_aload_n dX6_insert_69 rfl rfl ?_
      refine e_getR (q := 57) dX6_insert_70 fl_RX6_15 (Ms.s 55 rfl) (Ms.n (by decide)) rfl (Ms.r 55 1 rfl) (by unfold fscr; omega) ?_
      refine e_iload_n dX6_insert_73 rfl rfl ?_
      refine e_aload_n dX6_insert_74 rfl rfl ?_
      refine e_getR (q := 57) dX6_insert_75 fl_RX6_15 (Ms.s 55 rfl) (Ms.n (by decide)) rfl (Ms.r 55 1 rfl) (by unfold fscr; omega) ?_
      refine e_iload_n dX6_insert_78 rfl rfl ?_
      refine e_iconst (nI 1) dX6_insert_79 (by decide) ?_
      refine e_isub dX6_insert_80 ?_
      refine e_int (nI j) ((pk_sub (by omega)).trans (by rw [Nat.add_sub_cancel])) ?_
      refine e_iaload j dX6_insert_81 (Ms.s 57 rfl) (Ms.n (by decide)) rfl (by omega) (by decide) ?_
      refine e_int (nI (msh S (idx j))) (by rw [fI_I, if_neg (by omega)]; exact (hlo j (by omega)).2) ?_
      refine e_iastore (j + 1) dX6_insert_82 (Ms.s 57 rfl) (Ms.n (by decide)) rfl (by omega) (by decide) ?_
      refine e_iinc (v := nI j) (L1 := [some (.ref 55), some (.int (nI (mlo S p))), some (.int (nI (msh S p))), some (.int (nI j))]) dX6_insert_83 rfl (show nI (j + 1) + Int32.ofInt (-1) = nI j from (hl_m (by omega)).trans (by rw [Nat.add_sub_cancel])) (by decide) rfl ?_
      refine e_goto 15 dX6_insert_86 (by decide) ?_
      have hg : mgt S (idx j) p = true := decide_eq_true (by omega)
      refine ih (fsI (fsI σ 56 (j + 1) (nI (mlo S (idx j)))) 57 (j + 1) (nI (msh S (idx j)))) (by omega) (Ms.sm ((fSm_I (A := fTwA) ⟨by omega, by omega⟩).tr (fSm_I (A := fTwA) ⟨by omega, by omega⟩))) (by rw [fI_I, if_neg (by omega), fI_I, if_neg (by omega)]; exact hz) (fun i hi => by rw [fI_I, if_neg (by omega), fI_I, if_neg (by omega), fI_I, if_neg (by omega), fI_I, if_neg (by omega)]; exact hlo i (by omega)) (fun i h1 h2 => ?_) ((mat_t hg).symm.trans hm) (fun σ' Sm' Tw' => h σ' (((fSm_I (A := fTwA) ⟨by omega, by omega⟩).tr (fSm_I (A := fTwA) ⟨by omega, by omega⟩)).tr Sm') Tw')
      by_cases e : i = j + 1
      · subst e; rw [fI_I, if_neg (by omega), fI_I, if_pos ⟨rfl, rfl⟩, fI_I, if_pos ⟨rfl, rfl⟩, Nat.add_sub_cancel]; exact ⟨rfl, rfl⟩
      · rw [fI_I, if_neg (by omega), fI_I, if_neg (by omega), fI_I, if_neg (by omega), fI_I, if_neg (by omega)]; exact hhi i (by omega) h2
    · rw [nI_lt' (by omega) (by omega)] at c28
      refine e_aload_n dX6_insert_31 rfl rfl ?_
      refine e_getR (q := 56) dX6_insert_32 fl_RX6_9 (Ms.s 55 rfl) (Ms.n (by decide)) rfl (Ms.r 55 0 rfl) (by unfold fscr; omega) ?_
      refine e_iload_n dX6_insert_35 rfl rfl ?_
      refine e_iconst (nI 1) dX6_insert_36 (by decide) ?_
      refine e_isub dX6_insert_37 ?_
      refine e_int (nI j) ((pk_sub (by omega)).trans (by rw [Nat.add_sub_cancel])) ?_
      refine e_iaload j dX6_insert_38 (Ms.s 56 rfl) (Ms.n (by decide)) rfl (by omega) (by decide) ?_
      refine e_int (nI (mlo S (idx j))) (hlo j (by omega)).1 ?_
      refine e_iload_n dX6_insert_39 rfl rfl ?_
      refine e_icmp_ne 89 dX6_insert_40 (by decide) (fun c40 => ?_) (fun c40 => ?_)
      · rw [nI_inj (by omega) (by omega)] at c40
        exact l_X6_ins89 Ms hz hn hj hlo hhi (hm.symm.trans (mat_f (fun q => by have := mgt_t q; omega))) h
      · rw [nI_inj (by omega) (by omega)] at c40
        refine e_aload_n dX6_insert_43 rfl rfl ?_
        refine e_getR (q := 57) dX6_insert_44 fl_RX6_15 (Ms.s 55 rfl) (Ms.n (by decide)) rfl (Ms.r 55 1 rfl) (by unfold fscr; omega) ?_
        refine e_iload_n dX6_insert_47 rfl rfl ?_
        refine e_iconst (nI 1) dX6_insert_48 (by decide) ?_
        refine e_isub dX6_insert_49 ?_
        refine e_int (nI j) ((pk_sub (by omega)).trans (by rw [Nat.add_sub_cancel])) ?_
        refine e_iaload j dX6_insert_50 (Ms.s 57 rfl) (Ms.n (by decide)) rfl (by omega) (by decide) ?_
        refine e_int (nI (msh S (idx j))) (hlo j (by omega)).2 ?_
        refine e_iload_n dX6_insert_51 rfl rfl ?_
        refine e_icmp_le 89 dX6_insert_52 (by decide) (fun c52 => ?_) (fun c52 => ?_)
        · rw [nI_le' (by omega) (by omega)] at c52
          exact l_X6_ins89 Ms hz hn hj hlo hhi (hm.symm.trans (mat_f (fun q => by have := mgt_t q; omega))) h
        · rw [nI_le' (by omega) (by omega)] at c52
          refine e_aload_n dX6_insert_55 rfl rfl ?_
          refine e_getR (q := 56) dX6_insert_56 fl_RX6_9 (Ms.s 55 rfl) (Ms.n (by decide)) rfl (Ms.r 55 0 rfl) (by unfold fscr; omega) ?_
          refine e_iload_n dX6_insert_59 rfl rfl ?_
          refine e_aload_n dX6_insert_60 rfl rfl ?_
          refine e_getR (q := 56) dX6_insert_61 fl_RX6_9 (Ms.s 55 rfl) (Ms.n (by decide)) rfl (Ms.r 55 0 rfl) (by unfold fscr; omega) ?_
          refine e_iload_n dX6_insert_64 rfl rfl ?_
          refine e_iconst (nI 1) dX6_insert_65 (by decide) ?_
          refine e_isub dX6_insert_66 ?_
          refine e_int (nI j) ((pk_sub (by omega)).trans (by rw [Nat.add_sub_cancel])) ?_
          refine e_iaload j dX6_insert_67 (Ms.s 56 rfl) (Ms.n (by decide)) rfl (by omega) (by decide) ?_
          refine e_int (nI (mlo S (idx j))) (hlo j (by omega)).1 ?_
          refine e_iastore (j + 1) dX6_insert_68 (Ms.s 56 rfl) (Ms.n (by decide)) rfl (by omega) (by decide) ?_
          refine e_aload_n dX6_insert_69 rfl rfl ?_
          refine e_getR (q := 57) dX6_insert_70 fl_RX6_15 (Ms.s 55 rfl) (Ms.n (by decide)) rfl (Ms.r 55 1 rfl) (by unfold fscr; omega) ?_
          refine e_iload_n dX6_insert_73 rfl rfl ?_
          refine e_aload_n dX6_insert_74 rfl rfl ?_
          refine e_getR (q := 57) dX6_insert_75 fl_RX6_15 (Ms.s 55 rfl) (Ms.n (by decide)) rfl (Ms.r 55 1 rfl) (by unfold fscr; omega) ?_
          refine e_iload_n dX6_insert_78 rfl rfl ?_
          refine e_iconst (nI 1) dX6_insert_79 (by decide) ?_
          refine e_isub dX6_insert_80 ?_
          refine e_int (nI j) ((pk_sub (by omega)).trans (by rw [Nat.add_sub_cancel])) ?_
          refine e_iaload j dX6_insert_81 (Ms.s 57 rfl) (Ms.n (by decide)) rfl (by omega) (by decide) ?_
          refine e_int (nI (msh S (idx j))) (by rw [fI_I, if_neg (by omega)]; exact (hlo j (by omega)).2) ?_
          refine e_iastore (j + 1) dX6_insert_82 (Ms.s 57 rfl) (Ms.n (by decide)) rfl (by omega) (by decide) ?_
          refine e_iinc (v := nI j) (L1 := [some (.ref 55), some (.int (nI (mlo S p))), some (.int (nI (msh S p))), some (.int (nI j))]) dX6_insert_83 rfl (show nI (j + 1) + Int32.ofInt (-1) = nI j from (hl_m (by omega)).trans (by rw [Nat.add_sub_cancel])) (by decide) rfl ?_
          refine e_goto 15 dX6_insert_86 (by decide) ?_
          have hg : mgt S (idx j) p = true := decide_eq_true (by omega)
          refine ih (fsI (fsI σ 56 (j + 1) (nI (mlo S (idx j)))) 57 (j + 1) (nI (msh S (idx j)))) (by omega) (Ms.sm ((fSm_I (A := fTwA) ⟨by omega, by omega⟩).tr (fSm_I (A := fTwA) ⟨by omega, by omega⟩))) (by rw [fI_I, if_neg (by omega), fI_I, if_neg (by omega)]; exact hz) (fun i hi => by rw [fI_I, if_neg (by omega), fI_I, if_neg (by omega), fI_I, if_neg (by omega), fI_I, if_neg (by omega)]; exact hlo i (by omega)) (fun i h1 h2 => ?_) ((mat_t hg).symm.trans hm) (fun σ' Sm' Tw' => h σ' (((fSm_I (A := fTwA) ⟨by omega, by omega⟩).tr (fSm_I (A := fTwA) ⟨by omega, by omega⟩)).tr Sm') Tw')
          by_cases e : i = j + 1
          · subst e; rw [fI_I, if_neg (by omega), fI_I, if_pos ⟨rfl, rfl⟩, fI_I, if_pos ⟨rfl, rfl⟩, Nat.add_sub_cancel]; exact ⟨rfl, rfl⟩
          · rw [fI_I, if_neg (by omega), fI_I, if_neg (by omega), fI_I, if_neg (by omega), fI_I, if_neg (by omega)]; exact hhi i (by omega) h2
set_option maxRecDepth 20000 in
theorem t_X6_insert {g : fGP} {d : Nat} {Q : fRes → fAH → Prop} {S idx : Nat → Nat} {p n : Nat} {σ : fAH} (Ms : fMs g σ) (Tw : fTw σ S idx n) (hn : n < 18) (hbd : ∀ i, i < n → mlo S (idx i) ≤ 12 ∧ msh S (idx i) ≤ 12) (hbp : mlo S p ≤ 12 ∧ msh S p ≤ 12) (h : ∀ σ', fSm fTwA σ σ' → fTw σ' S (minS idx (mat S idx p n) p) (n + 1) → Q (.inl none) σ') : fEv g d mX6_insert 0 (fent [.ref 55, .int (nI (mlo S p)), .int (nI (msh S p))] 4) [] σ Q := by
  show fEv g d mX6_insert 0 [some (.ref 55), some (.int (nI (mlo S p))), some (.int (nI (msh S p))), none] [] σ Q
  refine e_aload_n dX6_insert_0 rfl rfl ?_
  refine e_getI dX6_insert_1 fl_RX6_21 (Ms.s 55 rfl) (Ms.n (by decide)) rfl ?_
  refine e_int (nI n) Tw.1 ?_
  refine e_bipush (nI 18) dX6_insert_4 (by decide) ?_
  refine e_icmp_lt 10 dX6_insert_6 (by decide) (fun _ => ?_) (fun q => absurd ((nI_lt' (by omega) (by omega)).mpr hn) q)
  refine e_aload_n dX6_insert_10 rfl rfl ?_
  refine e_getI dX6_insert_11 fl_RX6_21 (Ms.s 55 rfl) (Ms.n (by decide)) rfl ?_
  refine e_int (nI n) Tw.1 ?_
  refine e_istore_n (L1 := [some (.ref 55), some (.int (nI (mlo S p))), some (.int (nI (msh S p))), some (.int (nI n))]) dX6_insert_14 rfl (by decide) rfl ?_
  exact l_X6_ins hn hbd hbp n σ (by omega) Ms Tw.1 Tw.2 (fun i h1 h2 => absurd h1 (by omega)) rfl h
set_option maxRecDepth 20000 in
theorem l_X6_hb {g : fGP} {d : Nat} {σ : fAH} {Q : fRes → fAH → Prop} {S idx ht : Nat → Nat} {n i : Nat} (Ms : fMs g σ) (Tw : fTw σ S idx n) (hn : n ≤ 18) (hi9 : i < n) (hbd : ∀ i, i < n → mlo S (idx i) ≤ 12 ∧ msh S (idx i) ≤ 12) (hh : ∀ j, j < i → fI σ 58 j = nI (ht j) ∧ ht j ≤ 18)  : ∀ (n9 j b : Nat), j + n9 = i → b ≤ 18 → Q (.inl (some (.int (nI (mhb S idx ht i n9 j b))))) σ → fEv g d mX6_highestUpon 4 [some (.ref 55), some (.int (nI i)), some (.int (nI b)), some (.int (nI j))] [] σ Q := by
  intro n9
  induction n9 with
  | zero =>
    intro j b hj hb h
    refine e_iload_n dX6_highestUpon_4 rfl rfl ?_
    refine e_iload_n dX6_highestUpon_5 rfl rfl ?_
    refine e_icmp_ge 41 dX6_highestUpon_6 (by decide) (fun cz => ?_) (fun cz => absurd ((nI_le' (by omega) (by omega)).mpr (by omega)) cz)
    refine e_iload_n dX6_highestUpon_41 rfl rfl ?_
    exact e_ireturn .int dX6_highestUpon_42 rfl rfl h
  | succ n9 ih =>
    intro j b hj hb h
    have h1 := hbd j (by omega)
    have h2 := hbd i (by omega)
    have h3 := (hh j (by omega)).2
    refine e_iload_n dX6_highestUpon_4 rfl rfl ?_
    refine e_iload_n dX6_highestUpon_5 rfl rfl ?_
    refine e_icmp_ge 41 dX6_highestUpon_6 (by decide) (fun cz => absurd ((nI_le' (by omega) (by omega)).mp cz) (by omega)) (fun cz => ?_)
    refine e_aload_n dX6_highestUpon_9 rfl rfl ?_
    refine e_getR (q := 57) dX6_highestUpon_10 fl_RX6_15 (Ms.s 55 rfl) (Ms.n (by decide)) rfl (Ms.r 55 1 rfl) (by unfold fscr; omega) ?_
    refine e_iload_n dX6_highestUpon_13 rfl rfl ?_
    refine e_iaload j dX6_highestUpon_14 (Ms.s 57 rfl) (Ms.n (by decide)) rfl (by omega) (by decide) ?_
    refine e_int (nI (msh S (idx j))) (Tw.2 j (by omega)).2 ?_
    refine e_aload_n dX6_highestUpon_15 rfl rfl ?_
    refine e_getR (q := 57) dX6_highestUpon_16 fl_RX6_15 (Ms.s 55 rfl) (Ms.n (by decide)) rfl (Ms.r 55 1 rfl) (by unfold fscr; omega) ?_
    refine e_iload_n dX6_highestUpon_19 rfl rfl ?_
    refine e_iaload i dX6_highestUpon_20 (Ms.s 57 rfl) (Ms.n (by decide)) rfl (by omega) (by decide) ?_
    refine e_int (nI (msh S (idx i))) (Tw.2 i (by omega)).2 ?_
    refine e_icmp_gt 35 dX6_highestUpon_21 (by decide) (fun c21 => ?_) (fun c21 => ?_)
    · rw [nI_lt' (by omega) (by omega)] at c21
      refine e_iinc (v := nI (j + 1)) (L1 := [some (.ref 55), some (.int (nI i)), some (.int (nI b)), some (.int (nI (j + 1)))]) dX6_highestUpon_35 rfl (show nI j + Int32.ofInt 1 = nI (j + 1) from nI_add j 1) (by decide) rfl ?_
      refine e_goto 4 dX6_highestUpon_38 (by decide) ?_
      rw [show mhb S idx ht i (n9 + 1) j b = mhb S idx ht i n9 (j + 1) (if msh S (idx j) ≤ msh S (idx i) then max b (ht j) else b) from rfl, if_neg (by omega)] at h
      exact ih (j + 1) _ (by omega) (by omega) h
    · rw [nI_lt' (by omega) (by omega)] at c21
      refine e_iload_n dX6_highestUpon_24 rfl rfl ?_
      refine e_aload_n dX6_highestUpon_25 rfl rfl ?_
      refine e_getR (q := 58) dX6_highestUpon_26 fl_RX6_18 (Ms.s 55 rfl) (Ms.n (by decide)) rfl (Ms.r 55 2 rfl) (by unfold fscr; omega) ?_
      refine e_iload_n dX6_highestUpon_29 rfl rfl ?_
      refine e_iaload j dX6_highestUpon_30 (Ms.s 58 rfl) (Ms.n (by decide)) rfl (by omega) (by decide) ?_
      refine e_int (nI (ht j)) (hh j (by omega)).1 ?_
      refine e_max dX6_highestUpon_31 ml_RX6_41 w_max (Nat.le_of_ble_eq_true rfl) ?_
      refine e_int (nI (max b (ht j))) (nI_mx (by omega) (by omega)) ?_
      refine e_istore_n (L1 := [some (.ref 55), some (.int (nI i)), some (.int (nI (max b (ht j)))), some (.int (nI j))]) dX6_highestUpon_34 rfl (by decide) rfl ?_
      refine e_iinc (v := nI (j + 1)) (L1 := [some (.ref 55), some (.int (nI i)), some (.int (nI (max b (ht j)))), some (.int (nI (j + 1)))]) dX6_highestUpon_35 rfl (show nI j + Int32.ofInt 1 = nI (j + 1) from nI_add j 1) (by decide) rfl ?_
      refine e_goto 4 dX6_highestUpon_38 (by decide) ?_
      rw [show mhb S idx ht i (n9 + 1) j b = mhb S idx ht i n9 (j + 1) (if msh S (idx j) ≤ msh S (idx i) then max b (ht j) else b) from rfl, if_pos (by omega)] at h
      exact ih (j + 1) _ (by omega) (by omega) h
set_option maxRecDepth 20000 in
theorem t_X6_highestUpon {g : fGP} {d : Nat} {σ : fAH} {Q : fRes → fAH → Prop} {S idx ht : Nat → Nat} {n i : Nat} (Ms : fMs g σ) (Tw : fTw σ S idx n) (hn : n ≤ 18) (hi9 : i < n) (hbd : ∀ i, i < n → mlo S (idx i) ≤ 12 ∧ msh S (idx i) ≤ 12) (hh : ∀ j, j < i → fI σ 58 j = nI (ht j) ∧ ht j ≤ 18) (h : Q (.inl (some (.int (nI (mhb S idx ht i i 0 0))))) σ) : fEv g d mX6_highestUpon 0 (fent [.ref 55, .int (nI i)] 4) [] σ Q := by
  show fEv g d mX6_highestUpon 0 [some (.ref 55), some (.int (nI i)), none, none] [] σ Q
  refine e_iconst (nI 0) dX6_highestUpon_0 (by decide) ?_
  refine e_istore_n (L1 := [some (.ref 55), some (.int (nI i)), some (.int (nI 0)), none]) dX6_highestUpon_1 rfl (by decide) rfl ?_
  refine e_iconst (nI 0) dX6_highestUpon_2 (by decide) ?_
  refine e_istore_n (L1 := [some (.ref 55), some (.int (nI i)), some (.int (nI 0)), some (.int (nI 0))]) dX6_highestUpon_3 rfl (by decide) rfl ?_
  exact l_X6_hb Ms Tw hn hi9 hbd hh i 0 0 (by omega) (by omega) h
set_option maxRecDepth 20000 in
theorem l_X6_h2 {g : fGP} {d : Nat} {Q : fRes → fAH → Prop} {S idx : Nat → Nat} {sz k : Nat} (hn9 : sz ≤ 18) (hbd : ∀ i, i < sz → mlo S (idx i) ≤ 12 ∧ msh S (idx i) ≤ 12) (hSo : mSo S idx sz (S 120)) (h12 : S 120 ≤ 18) : ∀ (n i : Nat) (t : Nat) (ht : Nat → Nat) (σ : fAH) (o4 : Option Value), i + n = sz → fMs g σ → fTw σ S idx sz → (∀ j, j < i → fI σ 58 j = nI (ht j) ∧ ht j ≤ 18) → (∀ j, j < i → ht j ≤ j + 1) → mH S idx ht i t → t ≤ 18 → (∀ σ' R, fSm fTwA σ σ' → mTop S R → R ≤ 18 → Q (.inl (some (.int (nI R)))) σ') → fEv g (d + 1) mX6_highest 62 [some (.ref 55), some (.ref k), some (.int (nI t)), some (.int (nI i)), o4] [] σ Q := by
  intro n
  induction n with
  | zero =>
    intro i t ht σ o4 hin Ms Tw hh hu hH ht9 h
    refine e_iload_n dX6_highest_62 rfl rfl ?_
    refine e_aload_n dX6_highest_63 rfl rfl ?_
    refine e_getI dX6_highest_64 fl_RX6_21 (Ms.s 55 rfl) (Ms.n (by decide)) rfl ?_
    refine e_int (nI sz) (Tw.1) ?_
    refine e_icmp_ge 100 dX6_highest_67 (by decide) (fun cz => ?_) (fun cz => absurd ((nI_le' (by omega) (by omega)).mpr (by omega)) cz)
    refine e_iload_n dX6_highest_100 rfl rfl ?_
    exact e_ireturn .int dX6_highest_101 rfl rfl (h _ _ fSm.rfl' (mH_top hSo (by rw [show i = sz by omega] at hH; exact hH)) ht9)
  | succ n ih =>
    intro i t ht σ o4 hin Ms Tw hh hu hH ht9 h
    have hi : i < sz := by omega
    have hhj : ∀ j, j < i → ht j ≤ j + 1 := hu
    have hml := mhb_le (S := S) (idx := idx) (ht := ht) (i := i) (B := i) i 0 0 (by omega) (fun r h1 h2 => by have := hhj r (by omega); omega)
    refine e_iload_n dX6_highest_62 rfl rfl ?_
    refine e_aload_n dX6_highest_63 rfl rfl ?_
    refine e_getI dX6_highest_64 fl_RX6_21 (Ms.s 55 rfl) (Ms.n (by decide)) rfl ?_
    refine e_int (nI sz) (Tw.1) ?_
    refine e_icmp_ge 100 dX6_highest_67 (by decide) (fun cz => absurd ((nI_le' (by omega) (by omega)).mp cz) (by omega)) (fun cz => ?_)
    refine e_aload_n dX6_highest_70 rfl rfl ?_
    refine e_getR (q := 58) dX6_highest_71 fl_RX6_18 (Ms.s 55 rfl) (Ms.n (by decide)) rfl (Ms.r 55 2 rfl) (by unfold fscr; omega) ?_
    refine e_iload_n dX6_highest_74 rfl rfl ?_
    refine e_iconst (nI 1) dX6_highest_75 (by decide) ?_
    refine e_aload_n dX6_highest_76 rfl rfl ?_
    refine e_iload_n dX6_highest_77 rfl rfl ?_
    refine e_callV (k := 55) [.int (nI i)] dX6_highest_78 cc_X6_highestUpon lk_RX6_54 im_X6_highestUpon se_X6_highestUpon (by decide) (Ms.s 55 rfl) (Ms.n (by decide)) rfl (Nat.le_of_ble_eq_true rfl) (Nat.le_of_ble_eq_true rfl) ?_
    refine t_X6_highestUpon Ms Tw hn9 hi hbd hh (fK_i ?_)
    show fEv g _ mX6_highest 81 [some (.ref 55), some (.ref k), some (.int (nI t)), some (.int (nI i)), o4] [.int (nI (mhb S idx ht i i 0 0)), .int (nI 1), .int (nI i), .ref 58] σ Q
    refine e_iadd dX6_highest_81 ?_
    refine e_int (nI (1 + mhb S idx ht i i 0 0)) (nI_add 1 (mhb S idx ht i i 0 0)) ?_
    refine e_iastore i dX6_highest_82 (Ms.s 58 rfl) (Ms.n (by decide)) rfl (by omega) (by decide) ?_
    refine e_iload_n dX6_highest_83 rfl rfl ?_
    refine e_aload_n dX6_highest_84 rfl rfl ?_
    refine e_getR (q := 58) dX6_highest_85 fl_RX6_18 (Ms.s 55 rfl) (Ms.n (by decide)) rfl (Ms.r 55 2 rfl) (by unfold fscr; omega) ?_
    refine e_iload_n dX6_highest_88 rfl rfl ?_
    refine e_iaload i dX6_highest_89 (Ms.s 58 rfl) (Ms.n (by decide)) rfl (by omega) (by decide) ?_
    refine e_int (nI (1 + mhb S idx ht i i 0 0)) (by rw [fI_I, if_pos ⟨rfl, rfl⟩]) ?_
    refine e_max dX6_highest_90 ml_RX6_41 w_max (Nat.le_of_ble_eq_true rfl) ?_
    refine e_int (nI (max t (1 + mhb S idx ht i i 0 0))) (nI_mx (by omega) (by omega)) ?_
    refine e_istore_n (L1 := [some (.ref 55), some (.ref k), some (.int (nI (max t (1 + mhb S idx ht i i 0 0)))), some (.int (nI i)), o4]) dX6_highest_93 rfl (by decide) rfl ?_
    refine e_iinc (v := nI (i + 1)) (L1 := [some (.ref 55), some (.ref k), some (.int (nI (max t (1 + mhb S idx ht i i 0 0)))), some (.int (nI (i + 1))), o4]) dX6_highest_94 rfl (show nI i + Int32.ofInt 1 = nI (i + 1) from nI_add i 1) (by decide) rfl ?_
    refine e_goto 62 dX6_highest_97 (by decide) ?_
    refine ih (i + 1) (max t (1 + mhb S idx ht i i 0 0)) (mup ht i (1 + mhb S idx ht i i 0 0)) (fsI σ 58 i (nI (1 + mhb S idx ht i i 0 0))) _ (by omega) (Ms.sm (A := fTwA) (fSm_I ⟨by omega, by omega⟩)) ⟨by rw [fI_I, if_neg (by omega)]; exact Tw.1, fun j hj => by rw [fI_I, if_neg (by omega), fI_I, if_neg (by omega)]; exact Tw.2 j hj⟩ (fun j hj => ?_) (fun j hj => by unfold mup; split <;> first | omega | exact hu j (by omega)) (mH_s hSo hi hH rfl rfl) (by omega) (fun σ' R Sm' => h σ' R ((fSm_I (A := fTwA) ⟨by omega, by omega⟩).tr Sm'))
    unfold mup
    by_cases e : j = i
    · rw [fI_I, if_pos ⟨rfl, e⟩, if_pos e]; exact ⟨rfl, by omega⟩
    · rw [fI_I, if_neg (by omega), if_neg e]; have := hh j (by omega); exact ⟨this.1, by omega⟩
set_option maxRecDepth 20000 in
theorem l_X6_h1 {g : fGP} {d : Nat} {Q : fRes → fAH → Prop} {k m : Nat} {D : fSD} {S : Nat → Nat} {sd : Int32} (hY : k ∈ [15, 22, 37, 46, 59, 69, 79]) (hD : fWD D) (hW : fWS D S) : ∀ (n i : Nat) (n9 : Nat) (idx : Nat → Nat) (σ : fAH) (o3 : Option Value) (o4 : Option Value), i + n = S 120 → fMs g σ → fYr σ k D S m sd → fTw σ S idx n9 → mSo S idx n9 i → n9 ≤ i → (∀ σ' R, fSm fTwA σ σ' → mTop S R → R ≤ 18 → Q (.inl (some (.int (nI R)))) σ') → fEv g (d + 1) mX6_highest 7 [some (.ref 55), some (.ref k), some (.int (nI i)), o3, o4] [] σ Q := by
  intro n
  induction n with
  | zero =>
    intro i n9 idx σ o3 o4 hin Ms Yr Tw hSo hni h
    have yl := fyl hY
    have Ys := Ms.yard hY
    obtain ⟨⟨y0, y1, y2, y3, y4, y5, y6⟩, ⟨yn, yK⟩, ⟨yr0, yr1, yr2, yr3, yr4, yr5, yr6⟩⟩ := id Ys
    obtain ⟨t0, t1, t2, t3, t4, t5, t6⟩ := id hD.1
    have np := hW.n hD
    refine e_iload_n dX6_highest_7 rfl rfl ?_
    refine e_aload_n dX6_highest_8 rfl rfl ?_
    refine e_getI dX6_highest_9 fl_RX6_25 y0 (show k < fnx σ by omega) rfl ?_
    refine e_int (nI (S 120)) Yr.1.1 ?_
    refine e_icmp_ge 58 dX6_highest_12 (by decide) (fun cz => ?_) (fun cz => absurd ((nI_le' (by omega) (by omega)).mpr (by omega)) cz)
    refine e_iconst (nI 0) dX6_highest_58 (by decide) ?_
    refine e_istore_n (L1 := [some (.ref 55), some (.ref k), some (.int (nI 0)), o3, o4]) dX6_highest_59 rfl (by decide) rfl ?_
    refine e_iconst (nI 0) dX6_highest_60 (by decide) ?_
    refine e_istore_n (L1 := [some (.ref 55), some (.ref k), some (.int (nI 0)), some (.int (nI 0)), o4]) dX6_highest_61 rfl (by decide) rfl ?_
    rw [show i = S 120 by omega] at hSo
    exact l_X6_h2 (by omega) (fun q hq => mlo_le hW (hSo.1 q hq).1.1) hSo (by omega) n9 0 0 (fun _ => 0) σ _ (by omega) Ms Tw (fun j hj => absurd hj (by omega)) (fun j hj => absurd hj (by omega)) ⟨fun j hj => absurd hj (by omega), Or.inl rfl⟩ (by omega) h
  | succ n ih =>
    intro i n9 idx σ o3 o4 hin Ms Yr Tw hSo hni h
    have yl := fyl hY
    have Ys := Ms.yard hY
    obtain ⟨⟨y0, y1, y2, y3, y4, y5, y6⟩, ⟨yn, yK⟩, ⟨yr0, yr1, yr2, yr3, yr4, yr5, yr6⟩⟩ := id Ys
    obtain ⟨t0, t1, t2, t3, t4, t5, t6⟩ := id hD.1
    have np := hW.n hD
    have hi : i < S 120 := by omega
    have hbd : ∀ q, q < n9 → mlo S (idx q) ≤ 12 ∧ msh S (idx q) ≤ 12 := fun q hq => mlo_le hW (hSo.1 q hq).1.1
    obtain ⟨p0, p1, p2, p3, p4, p5⟩ := hW.2.1 i hi
    have mb := mlo_le hW hi
    have mb2 : mwd S i ≤ 12 ∧ mhg S i ≤ 12 := by unfold mwd mhg; omega
    refine e_iload_n dX6_highest_7 rfl rfl ?_
    refine e_aload_n dX6_highest_8 rfl rfl ?_
    refine e_getI dX6_highest_9 fl_RX6_25 y0 (show k < fnx σ by omega) rfl ?_
    refine e_int (nI (S 120)) Yr.1.1 ?_
    refine e_icmp_ge 58 dX6_highest_12 (by decide) (fun cz => absurd ((nI_le' (by omega) (by omega)).mp cz) (by omega)) (fun cz => ?_)
    refine e_aload_n dX6_highest_15 rfl rfl ?_
    refine e_iload_n dX6_highest_16 rfl rfl ?_
    refine e_callV (k := k) [.int (nI i)] dX6_highest_17 cc_X8_isLying lk_RX6_30 im_X8_isLying se_X8_isLying (by decide) y0 (show k < fnx σ by omega) rfl (Nat.le_of_ble_eq_true rfl) (Nat.le_of_ble_eq_true rfl) ?_
    refine t_X8_isLying hD Ys Yr hW (by omega) (fK_i ?_)
    show fEv g _ mX6_highest 20 [some (.ref 55), some (.ref k), some (.int (nI i)), o3, o4] [.int (nI (bn (decide (S (i * 6 + 5) = 1))))] σ Q
    refine e_if_eq 52 dX6_highest_20 (by decide) (fun c20 => ?_) (fun c20 => ?_)
    · have c20 := bn0 c20
      have c20 := of_decide_eq_false c20
      refine e_iinc (v := nI (i + 1)) (L1 := [some (.ref 55), some (.ref k), some (.int (nI (i + 1))), o3, o4]) dX6_highest_52 rfl (show nI i + Int32.ofInt 1 = nI (i + 1) from nI_add i 1) (by decide) rfl ?_
      refine e_goto 7 dX6_highest_55 (by decide) ?_
      exact ih (i + 1) n9 idx σ _ _ (by omega) Ms Yr Tw (mSo_skip hSo (fun q => absurd q.2 c20)) (by omega) h
    · have c20 := bn1 c20
      have c20 := of_decide_eq_true c20
      refine e_aload_n dX6_highest_23 rfl rfl ?_
      refine e_iload_n dX6_highest_24 rfl rfl ?_
      refine e_callV (k := k) [.int (nI i)] dX6_highest_25 cc_X8_pieceWide lk_RX6_34 im_X8_pieceWide se_X8_pieceWide (by decide) y0 (show k < fnx σ by omega) rfl (Nat.le_of_ble_eq_true rfl) (Nat.le_of_ble_eq_true rfl) ?_
      refine t_X8_pieceWide hD Ys Yr hW (by omega) (fK_i ?_)
      show fEv g _ mX6_highest 28 [some (.ref 55), some (.ref k), some (.int (nI i)), o3, o4] [.int (nI (mwd S i))] σ Q
      refine e_istore_n (L1 := [some (.ref 55), some (.ref k), some (.int (nI i)), some (.int (nI (mwd S i))), o4]) dX6_highest_28 rfl (by decide) rfl ?_
      refine e_aload_n dX6_highest_29 rfl rfl ?_
      refine e_iload_n dX6_highest_30 rfl rfl ?_
      refine e_callV (k := k) [.int (nI i)] dX6_highest_31 cc_X8_pieceHigh lk_RX6_38 im_X8_pieceHigh se_X8_pieceHigh (by decide) y0 (show k < fnx σ by omega) rfl (Nat.le_of_ble_eq_true rfl) (Nat.le_of_ble_eq_true rfl) ?_
      refine t_X8_pieceHigh hD Ys Yr hW (by omega) (fK_i ?_)
      show fEv g _ mX6_highest 34 [some (.ref 55), some (.ref k), some (.int (nI i)), some (.int (nI (mwd S i))), o4] [.int (nI (mhg S i))] σ Q
      refine e_istore (L1 := [some (.ref 55), some (.ref k), some (.int (nI i)), some (.int (nI (mwd S i))), some (.int (nI (mhg S i)))]) dX6_highest_34 (by decide) rfl ?_
      refine e_aload_n dX6_highest_36 rfl rfl ?_
      refine e_iload_n dX6_highest_37 rfl rfl ?_
      refine e_iload dX6_highest_38 rfl ?_
      refine e_max dX6_highest_40 ml_RX6_41 w_max (Nat.le_of_ble_eq_true rfl) ?_
      refine e_int (nI (mlo S i)) (nI_mx (by omega) (by omega)) ?_
      refine e_iload_n dX6_highest_43 rfl rfl ?_
      refine e_iload dX6_highest_44 rfl ?_
      refine e_min dX6_highest_46 ml_RX6_47 w_min (Nat.le_of_ble_eq_true rfl) ?_
      refine e_int (nI (msh S i)) (nI_mn (by omega) (by omega)) ?_
      refine e_callV (k := 55) [.int (nI (mlo S i)), .int (nI (msh S i))] dX6_highest_49 cc_X6_insert lk_RX6_50 im_X6_insert se_X6_insert (by decide) (Ms.s 55 rfl) (Ms.n (by decide)) rfl (Nat.le_of_ble_eq_true rfl) (Nat.le_of_ble_eq_true rfl) ?_
      refine t_X6_insert (p := i) Ms Tw (by omega) hbd (mlo_le hW hi) (fun σ1 Smx1 Tw1 => ?_)
      show fEv g _ mX6_highest 52 [some (.ref 55), some (.ref k), some (.int (nI i)), some (.int (nI (mwd S i))), some (.int (nI (mhg S i)))] [] σ1 Q
      refine e_iinc (v := nI (i + 1)) (L1 := [some (.ref 55), some (.ref k), some (.int (nI (i + 1))), some (.int (nI (mwd S i))), some (.int (nI (mhg S i)))]) dX6_highest_52 rfl (show nI i + Int32.ofInt 1 = nI (i + 1) from nI_add i 1) (by decide) rfl ?_
      refine e_goto 7 dX6_highest_55 (by decide) ?_
      exact ih (i + 1) (n9 + 1) (minS idx (mat S idx i n9) i) σ1 _ _ (by omega) (Ms.sm Smx1) (Yr.sm Smx1 (fun i hi => by unfold fTwA; simp only [List.mem_cons, List.not_mem_nil, or_false] at hY; omega)) Tw1 (mSo_ins hSo ⟨hi, c20⟩) (by omega) (fun σ' R Sm' => h σ' R (Smx1.tr Sm'))
set_option maxRecDepth 20000 in
theorem t_X6_highest {g : fGP} {d : Nat} {σ : fAH} {Q : fRes → fAH → Prop} {k m : Nat} {D : fSD} {S : Nat → Nat} {sd : Int32} (Ms : fMs g σ) (hY : k ∈ [15, 22, 37, 46, 59, 69, 79]) (hD : fWD D) (Yr : fYr σ k D S m sd) (hW : fWS D S) (h : ∀ σ' R, fSm fTwA σ σ' → mTop S R → R ≤ 18 → Q (.inl (some (.int (nI R)))) σ') : fEv g (d + 1) mX6_highest 0 (fent [.ref 55, .ref k] 5) [] σ Q := by
  show fEv g (d + 1) mX6_highest 0 [some (.ref 55), some (.ref k), none, none, none] [] σ Q
  refine e_aload_n dX6_highest_0 rfl rfl ?_
  refine e_iconst (nI 0) dX6_highest_1 (by decide) ?_
  refine e_putI dX6_highest_2 fl_RX6_21 (Ms.s 55 rfl) (Ms.n (by decide)) rfl rfl ?_
  refine e_iconst (nI 0) dX6_highest_5 (by decide) ?_
  refine e_istore_n (L1 := [some (.ref 55), some (.ref k), some (.int (nI 0)), none, none]) dX6_highest_6 rfl (by decide) rfl ?_
  exact l_X6_h1 hY hD hW (S 120) 0 0 (fun _ => 0) _ _ _ (by omega) (Ms.sm (A := fTwA) (fSm_I ⟨by omega, by omega⟩)) (Yr.sm (A := fTwA) (fSm_I ⟨by omega, by omega⟩) (fun i hi => by unfold fTwA; simp only [List.mem_cons, List.not_mem_nil, or_false] at hY; omega)) ⟨by rw [fI_I, if_pos ⟨rfl, rfl⟩], fun i hi => absurd hi (by omega)⟩ ⟨fun i hi => absurd hi (by omega), fun i j h1 h2 => absurd h2 (by omega), fun q hq => absurd hq (by omega)⟩ (by omega) (fun σ' R Sm' => h σ' R ((fSm_I (A := fTwA) ⟨by omega, by omega⟩).tr Sm'))
