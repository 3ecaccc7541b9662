/-- what a row set aside keeps -/
def fRow (σ : fAH) (r : Nat) (S : Nat → Nat) (sd : Int32) : Prop := (∀ i, i < 156 → fI σ (199 + r) i = nI (S i) ∧ S i < 100000) ∧ fI σ (199 + r) 156 = sd
theorem fRow.sm {A : Nat → Prop} {σ σ1 : fAH} {r : Nat} {S : Nat → Nat} {sd : Int32} (h : fRow σ r S sd) (s : fSm A σ σ1) (na : ¬ A (199 + r)) : fRow σ1 r S sd := by
  unfold fRow
  rw [(s.2.2 _ na).1]
  exact h
def mfill (D : fSD) (S : Nat → Nat) (pl : Nat) : Nat := mfa (fun i => decide (pl / 2 ^ i % 2 = 1) && mal D S i) (dT D 3) (dT D 1) 0 0
theorem mfa_cg {f g : Nat → Bool} {most : Nat} : ∀ {n i c : Nat}, (∀ j, i ≤ j → j < i + n → f j = g j) → mfa f most n i c = mfa g most n i c
  | 0, _, _, _ => rfl
  | n + 1, i, c, h => by
    show (if c < most then (if f i then _ else _) else 0) = (if c < most then (if g i then _ else _) else 0)
    rw [h i (Nat.le_refl _) (by omega), mfa_cg (f := f) (g := g) (c := c + 1) (fun j h1 h2 => h j (by omega) (by omega)), mfa_cg (f := f) (g := g) (c := c) (fun j h1 h2 => h j (by omega) (by omega))]
theorem mbf_bit {f : Nat → Bool} : ∀ (n i j : Nat), (mbf f n i).testBit j = (decide (i ≤ j ∧ j < i + n) && f j)
  | 0, i, j => by
    show (0).testBit j = _
    rw [Nat.zero_testBit, decide_eq_false (by omega)]
    rfl
  | n + 1, i, j => by
    have ih := mbf_bit (f := f) n (i + 1) j
    have hd : 2 ^ (i + 1) ∣ mbf f n (i + 1) := by
      apply Nat.dvd_of_mod_eq_zero
      apply Nat.eq_of_testBit_eq
      intro q
      rw [Nat.testBit_mod_two_pow, Nat.zero_testBit, mbf_bit (f := f) n (i + 1) q]
      by_cases e : q < i + 1
      · rw [decide_eq_false (show ¬ (i + 1 ≤ q ∧ q < i + 1 + n) by omega)]
        simp
      · rw [decide_eq_false e]
        rfl
    obtain ⟨y, hy⟩ := hd
    have lt : 2 ^ i < 2 ^ (i + 1) := Nat.pow_lt_pow_right (by decide) (by omega)
    cases hf : f i
    · rw [mbf_f hf, ih]
      by_cases e : j = i
      · subst e
        rw [hf, Bool.and_false, Bool.and_false]
      · rw [show decide (i + 1 ≤ j ∧ j < i + 1 + n) = decide (i ≤ j ∧ j < i + (n + 1)) from decide_eq_decide.mpr (by omega)]
    · rw [mbf_t hf, Nat.add_comm, hy, Nat.two_pow_add_eq_or_of_lt lt, Nat.testBit_or, ← hy, ih, Nat.testBit_two_pow]
      by_cases e : j = i
      · subst e
        rw [hf, decide_eq_true rfl, Bool.or_true, decide_eq_true (by omega)]
        rfl
      · have e8 : decide (i = j) = false := decide_eq_false (fun q => e q.symm)
        rw [e8, Bool.or_false, show decide (i + 1 ≤ j ∧ j < i + 1 + n) = decide (i ≤ j ∧ j < i + (n + 1)) from decide_eq_decide.mpr (by omega)]
theorem tb1 (b i : Nat) : decide (b / 2 ^ i % 2 = 1) = b.testBit i := (Nat.testBit_eq_decide_div_mod_eq).symm
theorem mbits_lt {D : fSD} (hD : fWD D) (S : Nat → Nat) : mbits D S < 4096 := by
  have t1 := hD.1.2.1
  apply Nat.lt_pow_two_of_testBit (n := 12)
  intro i hi
  unfold mbits
  rw [mbf_bit, decide_eq_false (by omega)]
  rfl
theorem mfill_r {D : fSD} (S : Nat → Nat) (pl : Nat) : mfa (fun i => decide ((pl &&& mbits D S) / 2 ^ i % 2 = 1)) (dT D 3) (dT D 1) 0 0 = mfill D S pl := by
  refine mfa_cg (fun j _ hj => ?_)
  show decide ((pl &&& mbits D S) / 2 ^ j % 2 = 1) = (decide (pl / 2 ^ j % 2 = 1) && mal D S j)
  rw [tb1, tb1, Nat.testBit_and]
  unfold mbits
  rw [mbf_bit, decide_eq_true (by omega), Bool.true_and]
theorem mfa_le {f : Nat → Bool} {most : Nat} : ∀ (n i c : Nat), mfa f most n i c + 2 ^ i ≤ 2 ^ (i + n)
  | 0, i, c => Nat.le_of_eq (Nat.zero_add _)
  | n + 1, i, c => by
    have h1 := mfa_le (f := f) (most := most) n (i + 1) (c + 1)
    have h2 := mfa_le (f := f) (most := most) n (i + 1) c
    rw [show i + 1 + n = i + (n + 1) by omega] at h1 h2
    have e : 2 ^ (i + 1) = 2 ^ i + 2 ^ i := by rw [Nat.pow_succ]; omega
    have := Nat.two_pow_pos i
    by_cases hc : c < most
    · cases hf : f i
      · rw [mfa_f hc hf]; omega
      · rw [mfa_t hc hf]; omega
    · rw [mfa_o hc]; omega
theorem mfa_lt {f : Nat → Bool} {most n c : Nat} (h : n ≤ 12) : mfa f most n 0 c < 4096 := by
  have h1 := mfa_le (f := f) (most := most) n 0 c
  have h2 : 2 ^ (0 + n) ≤ 2 ^ 12 := Nat.pow_le_pow_right (by decide) (by omega)
  have h3 : (2 : Nat) ^ 0 = 1 := rfl
  have h4 : (2 : Nat) ^ 12 = 4096 := rfl
  omega
theorem nI_and (a b : Nat) : nI a &&& nI b = nI (a &&& b) := by
  apply Int32.toBitVec_inj.1
  show BitVec.ofNat 32 a &&& BitVec.ofNat 32 b = BitVec.ofNat 32 (a &&& b)
  apply BitVec.eq_of_getLsbD_eq
  intro i hi
  simp [hi]
/-- a plan's nights: so many from the i-th on -/
def mplan (D : fSD) (P : Nat → Nat) : Nat → Nat → fX Int32 → Nat → fX Int32 × Nat
  | 0, _, x, a => (x, a)
  | n + 1, i, x, a => if x.1 155 = 30 then (x, a) else mplan D P n (i + 1) (mgo ldr D (mfill D x.1 (P i)) (mdc D x.1 x.2.2).1 (x.1, x.2.1, (mdc D x.1 x.2.2).2)) (a + if mfill D x.1 (P i) = 0 then 1 else 0)
theorem fWN_do {D : fSD} {S : Nat → Nat} {o c : Nat} (hD : fWD D) (hW : fWS D S) (hC : fWC D S) (ho : o < dT D 2) (hc : c ≤ dT D 4) (hN : fWN S c 12) : fWN (mdo D o (S 120) 0 c S).1 (mdo D o (S 120) 0 c S).2 12 ∧ (mdo D o (S 120) 0 c S).1 155 = S 155 := by
  have := mdo_k (D := D) (o := o) (fun S1 c => fWS D S1 ∧ fWC D S1 ∧ fWN S1 c 12 ∧ S1 155 = S 155) ?_ (S 120) 0 c S (by omega) ⟨hW, hC, hN, rfl⟩
  · exact this.2.2
  · intro S1 c p h hp hc hm _ _
    have np := h.1.n hD
    have := hD.1
    have k := fWS_tk hD h.1 h.2.1 ho hp hm
    exact ⟨⟨k.1, k.2, fWN_tk hD ho (by omega) h.2.2.1, (mtk_o (j := 155) (by omega) (by omega) (by omega)).trans h.2.2.2⟩, mtk_o (by omega) (by omega) (by omega)⟩
set_option maxRecDepth 20000 in
theorem l_X10_sl228 {g : fGP} {d : Nat} {σ : fAH} {Q : fRes → fAH → Prop} {D : fSD} {S : Nat → Nat} {sd : Int32} {o1 o2 o3 : Option Value} (Ms : fMs g σ) (Mr : fMr σ D S sd) (hD : fWD D) (hn : S 155 < 1000) (h : ∀ σ', fSm fRA9 σ σ' → fMr σ' D (mup S 155 (S 155 + 1)) sd → Q (.inl none) σ') : fEv g d mX10_sledges 228 [some (.ref 89), o1, o2, o3] [] σ Q := by
  refine e_aload_n dX10_sledges_228 rfl rfl ?_
  refine e_getR (q := 197) dX10_sledges_229 fl_RX10_49 (Ms.s 89 rfl) (Ms.n (by decide)) rfl (Ms.r 89 19 rfl) (by unfold fscr; omega) ?_
  refine e_sipush (nI 155) dX10_sledges_232 (by decide) ?_
  refine e_dup2 dX10_sledges_235 rfl rfl ?_
  refine e_iaload 155 dX10_sledges_236 (Ms.s 197 rfl) (Ms.n (by decide)) rfl (by omega) (by decide) ?_
  refine e_int (nI (S 155)) (Mr.s 155 (by omega)) ?_
  refine e_iconst (nI 1) dX10_sledges_237 (by decide) ?_
  refine e_iadd dX10_sledges_238 ?_
  refine e_int (nI (S 155 + 1)) (nI_add (S 155) 1) ?_
  refine e_iastore 155 dX10_sledges_239 (Ms.s 197 rfl) (Ms.n (by decide)) rfl (by omega) (by decide) ?_
  have Mr1 := Mr.set hD (i := 155) (v := S 155 + 1) (by omega) (by omega)
  have Smx1 : fSm (fRA9) σ (fsI σ 197 155 (nI (S 155 + 1))) := fSm_I rfl
  have Sm1 := Smx1
  generalize fsI σ 197 155 (nI (S 155 + 1)) = σ1 at Mr1 Sm1 Smx1 ⊢
  generalize hS1 : mup S 155 (S 155 + 1) = S1 at Mr1
  have Ms1 := Ms.sm Sm1
  subst hS1
  exact e_return dX10_sledges_240 rfl (h _ Sm1 Mr1)
set_option maxRecDepth 20000 in
theorem l_X10_sl55 {g : fGP} {d : Nat} {Q : fRes → fAH → Prop} {D : fSD} {sd : Int32} {o : Nat} (hD : fWD D) (ho : o < dT D 2) : ∀ (n i : Nat) (c : Nat) (σ : fAH) (S : Nat → Nat), i + n = S 120 → fMs g σ → fMr σ D S sd → fWS D S → fWC D S → fWN S c 12 → c ≤ dT D 4 → (∀ σ' (o3 : Option Value), fSm fRA9 σ σ' → fMr σ' D (mdo D o n i c S).1 sd → fEv g (d + 1) mX10_sledges 222 [some (.ref 89), some (.int (nI (mdo D o n i c S).2)), some (.int (nI o)), o3] [] σ' Q) → fEv g (d + 1) mX10_sledges 55 [some (.ref 89), some (.int (nI c)), some (.int (nI o)), some (.int (nI i))] [] σ Q := by
  intro n
  induction n with
  | zero =>
    intro i c σ S hin Ms Mr hW hC hN hcc h
    obtain ⟨t0, t1, t2, t3, t4, t5, t6⟩ := id hD.1
    have np := hW.n hD
    obtain ⟨o0, o1, o2, o3, o4, o5, o6, o7, o8⟩ := hD.2.2.2.1 o ho
    have n5 := hW.2.2.2.2
    have n1 := hN.1
    refine e_iload_n dX10_sledges_55 rfl rfl ?_
    refine e_aload_n dX10_sledges_56 rfl rfl ?_
    refine e_getR (q := 197) dX10_sledges_57 fl_RX10_49 (Ms.s 89 rfl) (Ms.n (by decide)) rfl (Ms.r 89 19 rfl) (by unfold fscr; omega) ?_
    refine e_bipush (nI 120) dX10_sledges_60 (by decide) ?_
    refine e_iaload 120 dX10_sledges_62 (Ms.s 197 rfl) (Ms.n (by decide)) rfl (by omega) (by decide) ?_
    refine e_int (nI (S 120)) (Mr.s 120 (by omega)) ?_
    refine e_icmp_ge 222 dX10_sledges_63 (by decide) (fun cz => ?_) (fun cz => absurd ((nI_le' (by omega) (by omega)).mpr (by omega)) cz)
    exact h σ _ fSm.rfl' Mr
  | succ n ih =>
    intro i c σ S hin Ms Mr hW hC hN hcc h
    obtain ⟨t0, t1, t2, t3, t4, t5, t6⟩ := id hD.1
    have np := hW.n hD
    obtain ⟨o0, o1, o2, o3, o4, o5, o6, o7, o8⟩ := hD.2.2.2.1 o ho
    have n5 := hW.2.2.2.2
    have n1 := hN.1
    have hi : i < S 120 := by omega
    obtain ⟨p0, p1, p2, p3, p4, p5⟩ := hW.2.1 i hi
    have oh := hW.2.2.2.1 o ho
    refine e_iload_n dX10_sledges_55 rfl rfl ?_
    refine e_aload_n dX10_sledges_56 rfl rfl ?_
    refine e_getR (q := 197) dX10_sledges_57 fl_RX10_49 (Ms.s 89 rfl) (Ms.n (by decide)) rfl (Ms.r 89 19 rfl) (by unfold fscr; omega) ?_
    refine e_bipush (nI 120) dX10_sledges_60 (by decide) ?_
    refine e_iaload 120 dX10_sledges_62 (Ms.s 197 rfl) (Ms.n (by decide)) rfl (by omega) (by decide) ?_
    refine e_int (nI (S 120)) (Mr.s 120 (by omega)) ?_
    refine e_icmp_ge 222 dX10_sledges_63 (by decide) (fun cz => absurd ((nI_le' (by omega) (by omega)).mp cz) (by omega)) (fun cz => ?_)
    refine e_iload_n dX10_sledges_66 rfl rfl ?_
    refine e_aload_n dX10_sledges_67 rfl rfl ?_
    refine e_getR (q := 92) dX10_sledges_68 fl_RX10_20 (Ms.s 89 rfl) (Ms.n (by decide)) rfl (Ms.r 89 10 rfl) (by unfold fscr; omega) ?_
    refine e_iconst (nI 4) dX10_sledges_71 (by decide) ?_
    refine e_iaload 4 dX10_sledges_72 (Ms.s 92 rfl) (Ms.n (by decide)) rfl (by omega) (by decide) ?_
    refine e_int (nI (dT D 4)) (Mr.t 4 (by omega)) ?_
    refine e_icmp_ge 222 dX10_sledges_73 (by decide) (fun c73 => ?_) (fun c73 => ?_)
    · rw [nI_le' (by omega) (by omega)] at c73
      rw [mdo_done (fun q => by omega)] at h
      exact h σ _ fSm.rfl' Mr
    · rw [nI_le' (by omega) (by omega)] at c73
      refine e_aload_n dX10_sledges_76 rfl rfl ?_
      refine e_getR (q := 197) dX10_sledges_77 fl_RX10_49 (Ms.s 89 rfl) (Ms.n (by decide)) rfl (Ms.r 89 19 rfl) (by unfold fscr; omega) ?_
      refine e_sipush (nI 145) dX10_sledges_80 (by decide) ?_
      refine e_iload_n dX10_sledges_83 rfl rfl ?_
      refine e_iadd dX10_sledges_84 ?_
      refine e_int (nI (145 + o)) (nI_add 145 o) ?_
      refine e_iaload (145 + o) dX10_sledges_85 (Ms.s 197 rfl) (Ms.n (by decide)) rfl (by omega) (by decide) ?_
      refine e_int (nI (S (145 + o))) (Mr.s (145 + o) (by omega)) ?_
      refine e_aload_n dX10_sledges_86 rfl rfl ?_
      refine e_getR (q := 140) dX10_sledges_87 fl_RX10_40 (Ms.s 89 rfl) (Ms.n (by decide)) rfl (Ms.r 89 16 rfl) (by unfold fscr; omega) ?_
      refine e_iload_n dX10_sledges_90 rfl rfl ?_
      refine e_aaload (q := 141 + o) o dX10_sledges_91 (Ms.s 140 rfl) (by decide) (Ms.n (by decide)) rfl (by omega) (by decide) (Ms.r 140 _ (frf_order _ (by omega))) (by unfold fscr; omega) ?_
      refine e_iconst (nI 2) dX10_sledges_92 (by decide) ?_
      refine e_iaload 2 dX10_sledges_93 (Ms.s _ (fsh_order _ (by omega))) (Ms.n (by omega)) rfl (by omega) (by decide) ?_
      refine e_int (nI (dO D o 2)) (Mr.order o (by omega) 2 (by omega)) ?_
      refine e_icmp_ge 222 dX10_sledges_94 (by decide) (fun c94 => ?_) (fun c94 => ?_)
      · rw [nI_le' (by omega) (by omega)] at c94
        rw [mdo_done (fun q => by omega)] at h
        exact h σ _ fSm.rfl' Mr
      · rw [nI_le' (by omega) (by omega)] at c94
        refine e_aload_n dX10_sledges_97 rfl rfl ?_
        refine e_getR (q := 197) dX10_sledges_98 fl_RX10_49 (Ms.s 89 rfl) (Ms.n (by decide)) rfl (Ms.r 89 19 rfl) (by unfold fscr; omega) ?_
        refine e_bipush (nI 6) dX10_sledges_101 (by decide) ?_
        refine e_iload_n dX10_sledges_103 rfl rfl ?_
        refine e_imul dX10_sledges_104 ?_
        refine e_int (nI (i * 6)) ((pk_mul 6 i).trans (by rw [Nat.mul_comm])) ?_
        refine e_iconst (nI 5) dX10_sledges_105 (by decide) ?_
        refine e_iadd dX10_sledges_106 ?_
        refine e_int (nI (i * 6 + 5)) (nI_add (i * 6) 5) ?_
        refine e_iaload (i * 6 + 5) dX10_sledges_107 (Ms.s 197 rfl) (Ms.n (by decide)) rfl (by omega) (by decide) ?_
        refine e_int (nI (S (i * 6 + 5))) (Mr.s (i * 6 + 5) (by omega)) ?_
        refine e_if_eq 216 dX10_sledges_108 (by decide) (fun c108 => ?_) (fun c108 => ?_)
        · rw [nI_z (by omega)] at c108
          refine e_iinc (v := nI (i + 1)) (L1 := [some (.ref 89), some (.int (nI c)), some (.int (nI o)), some (.int (nI (i + 1)))]) dX10_sledges_216 rfl (show nI i + Int32.ofInt 1 = nI (i + 1) from nI_add i 1) (by decide) rfl ?_
          refine e_goto 55 dX10_sledges_219 (by decide) ?_
          have q1 : c < dT D 4 ∧ S (145 + o) < dO D o 2 := ⟨by omega, by omega⟩
          have hm : mdo D o (n + 1) i c S = mdo D o n (i + 1) c S := mdo_n q1 (fun q => by first | omega | (have q2 := q.2; rw [show msz D o (mwd S i) (mhg S i) = false from c162] at q2; exact absurd q2 Bool.false_ne_true))
          rw [hm] at h
          exact ih (i + 1) c σ S (by omega) Ms Mr hW hC hN hcc h
        · rw [nI_z (by omega)] at c108
          refine e_aload_n dX10_sledges_111 rfl rfl ?_
          refine e_aload_n dX10_sledges_112 rfl rfl ?_
          refine e_getR (q := 197) dX10_sledges_113 fl_RX10_49 (Ms.s 89 rfl) (Ms.n (by decide)) rfl (Ms.r 89 19 rfl) (by unfold fscr; omega) ?_
          refine e_bipush (nI 6) dX10_sledges_116 (by decide) ?_
          refine e_iload_n dX10_sledges_118 rfl rfl ?_
          refine e_imul dX10_sledges_119 ?_
          refine e_int (nI (i * 6)) ((pk_mul 6 i).trans (by rw [Nat.mul_comm])) ?_
          refine e_iconst (nI 2) dX10_sledges_120 (by decide) ?_
          refine e_iadd dX10_sledges_121 ?_
          refine e_int (nI (i * 6 + 2)) (nI_add (i * 6) 2) ?_
          refine e_iaload (i * 6 + 2) dX10_sledges_122 (Ms.s 197 rfl) (Ms.n (by decide)) rfl (by omega) (by decide) ?_
          refine e_int (nI (S (i * 6 + 2))) (Mr.s (i * 6 + 2) (by omega)) ?_
          refine e_aload_n dX10_sledges_123 rfl rfl ?_
          refine e_getR (q := 197) dX10_sledges_124 fl_RX10_49 (Ms.s 89 rfl) (Ms.n (by decide)) rfl (Ms.r 89 19 rfl) (by unfold fscr; omega) ?_
          refine e_bipush (nI 6) dX10_sledges_127 (by decide) ?_
          refine e_iload_n dX10_sledges_129 rfl rfl ?_
          refine e_imul dX10_sledges_130 ?_
          refine e_int (nI (i * 6)) ((pk_mul 6 i).trans (by rw [Nat.mul_comm])) ?_
          refine e_iconst (nI 1) dX10_sledges_131 (by decide) ?_
          refine e_iadd dX10_sledges_132 ?_
          refine e_int (nI (i * 6 + 1)) (nI_add (i * 6) 1) ?_
          refine e_iaload (i * 6 + 1) dX10_sledges_133 (Ms.s 197 rfl) (Ms.n (by decide)) rfl (by omega) (by decide) ?_
          refine e_int (nI (S (i * 6 + 1))) (Mr.s (i * 6 + 1) (by omega)) ?_
          refine e_isub dX10_sledges_134 ?_
          refine e_int (nI ((S (i * 6 + 2)) - (S (i * 6 + 1)))) (pk_sub (by omega)) ?_
          refine e_aload_n dX10_sledges_135 rfl rfl ?_
          refine e_getR (q := 197) dX10_sledges_136 fl_RX10_49 (Ms.s 89 rfl) (Ms.n (by decide)) rfl (Ms.r 89 19 rfl) (by unfold fscr; omega) ?_
          refine e_bipush (nI 6) dX10_sledges_139 (by decide) ?_
          refine e_iload_n dX10_sledges_141 rfl rfl ?_
          refine e_imul dX10_sledges_142 ?_
          refine e_int (nI (i * 6)) ((pk_mul 6 i).trans (by rw [Nat.mul_comm])) ?_
          refine e_iconst (nI 4) dX10_sledges_143 (by decide) ?_
          refine e_iadd dX10_sledges_144 ?_
          refine e_int (nI (i * 6 + 4)) (nI_add (i * 6) 4) ?_
          refine e_iaload (i * 6 + 4) dX10_sledges_145 (Ms.s 197 rfl) (Ms.n (by decide)) rfl (by omega) (by decide) ?_
          refine e_int (nI (S (i * 6 + 4))) (Mr.s (i * 6 + 4) (by omega)) ?_
          refine e_aload_n dX10_sledges_146 rfl rfl ?_
          refine e_getR (q := 197) dX10_sledges_147 fl_RX10_49 (Ms.s 89 rfl) (Ms.n (by decide)) rfl (Ms.r 89 19 rfl) (by unfold fscr; omega) ?_
          refine e_bipush (nI 6) dX10_sledges_150 (by decide) ?_
          refine e_iload_n dX10_sledges_152 rfl rfl ?_
          refine e_imul dX10_sledges_153 ?_
          refine e_int (nI (i * 6)) ((pk_mul 6 i).trans (by rw [Nat.mul_comm])) ?_
          refine e_iconst (nI 3) dX10_sledges_154 (by decide) ?_
          refine e_iadd dX10_sledges_155 ?_
          refine e_int (nI (i * 6 + 3)) (nI_add (i * 6) 3) ?_
          refine e_iaload (i * 6 + 3) dX10_sledges_156 (Ms.s 197 rfl) (Ms.n (by decide)) rfl (by omega) (by decide) ?_
          refine e_int (nI (S (i * 6 + 3))) (Mr.s (i * 6 + 3) (by omega)) ?_
          refine e_isub dX10_sledges_157 ?_
          refine e_int (nI ((S (i * 6 + 4)) - (S (i * 6 + 3)))) (pk_sub (by omega)) ?_
          refine e_iload_n dX10_sledges_158 rfl rfl ?_
          refine e_callV (k := 89) [.int (nI ((S (i * 6 + 2)) - (S (i * 6 + 1)))), .int (nI ((S (i * 6 + 4)) - (S (i * 6 + 3)))), .int (nI o)] dX10_sledges_159 cc_X10_isSize lk_RX10_212 im_X10_isSize se_X10_isSize (by decide) (Ms.s 89 rfl) (Ms.n (by decide)) rfl (Nat.le_of_ble_eq_true rfl) (Nat.le_of_ble_eq_true rfl) ?_
          refine t_X10_isSize Ms Mr hD hW (by omega) (by omega) (by omega) (fK_i ?_)
          show fEv g _ mX10_sledges 162 [some (.ref 89), some (.int (nI c)), some (.int (nI o)), some (.int (nI i))] [.int (nI (bn (msz D o ((S (i * 6 + 2)) - (S (i * 6 + 1))) ((S (i * 6 + 4)) - (S (i * 6 + 3))))))] σ Q
          refine e_if_ne 168 dX10_sledges_162 (by decide) (fun c162 => ?_) (fun c162 => ?_)
          · have c162 := bn1 c162
            refine e_aload_n dX10_sledges_168 rfl rfl ?_
            refine e_getR (q := 197) dX10_sledges_169 fl_RX10_49 (Ms.s 89 rfl) (Ms.n (by decide)) rfl (Ms.r 89 19 rfl) (by unfold fscr; omega) ?_
            refine e_bipush (nI 6) dX10_sledges_172 (by decide) ?_
            refine e_iload_n dX10_sledges_174 rfl rfl ?_
            refine e_imul dX10_sledges_175 ?_
            refine e_int (nI (i * 6)) ((pk_mul 6 i).trans (by rw [Nat.mul_comm])) ?_
            refine e_iconst (nI 5) dX10_sledges_176 (by decide) ?_
            refine e_iadd dX10_sledges_177 ?_
            refine e_int (nI (i * 6 + 5)) (nI_add (i * 6) 5) ?_
            refine e_iconst (nI 0) dX10_sledges_178 (by decide) ?_
            refine e_iastore (i * 6 + 5) dX10_sledges_179 (Ms.s 197 rfl) (Ms.n (by decide)) rfl (by omega) (by decide) ?_
            have Mr1 := Mr.set hD (i := i * 6 + 5) (v := 0) (by omega) (by omega)
            have Smx1 : fSm (fRA9) σ (fsI σ 197 (i * 6 + 5) (nI 0)) := fSm_I rfl
            have Sm1 := Smx1
            generalize fsI σ 197 (i * 6 + 5) (nI 0) = σ1 at Mr1 Sm1 Smx1 ⊢
            generalize hS1 : mup S (i * 6 + 5) 0 = S1 at Mr1
            have Ms1 := Ms.sm Sm1
            have b1 : S1 (145 + o) = S (145 + o) ∧ S1 151 = S 151 := by rw [← hS1, mup_n _ _ (by omega), mup_n _ _ (by omega)]; exact ⟨rfl, rfl⟩
            refine e_aload_n dX10_sledges_180 rfl rfl ?_
            refine e_getR (q := 197) dX10_sledges_181 fl_RX10_49 (Ms1.s 89 rfl) (Ms1.n (by decide)) rfl (Ms1.r 89 19 rfl) (by unfold fscr; omega) ?_
            refine e_sipush (nI 145) dX10_sledges_184 (by decide) ?_
            refine e_iload_n dX10_sledges_187 rfl rfl ?_
            refine e_iadd dX10_sledges_188 ?_
            refine e_int (nI (145 + o)) (nI_add 145 o) ?_
            refine e_dup2 dX10_sledges_189 rfl rfl ?_
            refine e_iaload (145 + o) dX10_sledges_190 (Ms1.s 197 rfl) (Ms1.n (by decide)) rfl (by omega) (by decide) ?_
            refine e_int (nI (S1 (145 + o))) (Mr1.s (145 + o) (by omega)) ?_
            refine e_iconst (nI 1) dX10_sledges_191 (by decide) ?_
            refine e_iadd dX10_sledges_192 ?_
            refine e_int (nI (S1 (145 + o) + 1)) (nI_add (S1 (145 + o)) 1) ?_
            refine e_iastore (145 + o) dX10_sledges_193 (Ms1.s 197 rfl) (Ms1.n (by decide)) rfl (by omega) (by decide) ?_
            have Mr2 := Mr1.set hD (i := 145 + o) (v := S1 (145 + o) + 1) (by omega) (by omega)
            have Smx2 : fSm (fRA9) σ1 (fsI σ1 197 (145 + o) (nI (S1 (145 + o) + 1))) := fSm_I rfl
            have Sm2 := Sm1.tr Smx2
            generalize fsI σ1 197 (145 + o) (nI (S1 (145 + o) + 1)) = σ2 at Mr2 Sm2 Smx2 ⊢
            generalize hS2 : mup S1 (145 + o) (S1 (145 + o) + 1) = S2 at Mr2
            have Ms2 := Ms.sm Sm2
            have b2 : S2 151 = S 151 := by rw [← hS2, mup_n _ _ (by omega)]; exact b1.2
            refine e_aload_n dX10_sledges_194 rfl rfl ?_
            refine e_getR (q := 197) dX10_sledges_195 fl_RX10_49 (Ms2.s 89 rfl) (Ms2.n (by decide)) rfl (Ms2.r 89 19 rfl) (by unfold fscr; omega) ?_
            refine e_sipush (nI 151) dX10_sledges_198 (by decide) ?_
            refine e_dup2 dX10_sledges_201 rfl rfl ?_
            refine e_iaload 151 dX10_sledges_202 (Ms2.s 197 rfl) (Ms2.n (by decide)) rfl (by omega) (by decide) ?_
            refine e_int (nI (S2 151)) (Mr2.s 151 (by omega)) ?_
            refine e_aload_n dX10_sledges_203 rfl rfl ?_
            refine e_getR (q := 140) dX10_sledges_204 fl_RX10_40 (Ms2.s 89 rfl) (Ms2.n (by decide)) rfl (Ms2.r 89 16 rfl) (by unfold fscr; omega) ?_
            refine e_iload_n dX10_sledges_207 rfl rfl ?_
            refine e_aaload (q := 141 + o) o dX10_sledges_208 (Ms2.s 140 rfl) (by decide) (Ms2.n (by decide)) rfl (by omega) (by decide) (Ms2.r 140 _ (frf_order _ (by omega))) (by unfold fscr; omega) ?_
            refine e_iconst (nI 4) dX10_sledges_209 (by decide) ?_
            refine e_iaload 4 dX10_sledges_210 (Ms2.s _ (fsh_order _ (by omega))) (Ms2.n (by omega)) rfl (by omega) (by decide) ?_
            refine e_int (nI (dO D o 4)) (Mr2.order o (by omega) 4 (by omega)) ?_
            refine e_iadd dX10_sledges_211 ?_
            refine e_int (nI (S2 151 + dO D o 4)) (nI_add (S2 151) (dO D o 4)) ?_
            refine e_iastore 151 dX10_sledges_212 (Ms2.s 197 rfl) (Ms2.n (by decide)) rfl (by omega) (by decide) ?_
            have Mr3 := Mr2.set hD (i := 151) (v := S2 151 + dO D o 4) (by omega) (by omega)
            have Smx3 : fSm (fRA9) σ2 (fsI σ2 197 151 (nI (S2 151 + dO D o 4))) := fSm_I rfl
            have Sm3 := Sm2.tr Smx3
            generalize fsI σ2 197 151 (nI (S2 151 + dO D o 4)) = σ3 at Mr3 Sm3 Smx3 ⊢
            generalize hS3 : mup S2 151 (S2 151 + dO D o 4) = S3 at Mr3
            have Ms3 := Ms.sm Sm3
            refine e_iinc (v := nI (c + 1)) (L1 := [some (.ref 89), some (.int (nI (c + 1))), some (.int (nI o)), some (.int (nI i))]) dX10_sledges_213 rfl (show nI c + Int32.ofInt 1 = nI (c + 1) from nI_add c 1) (by decide) rfl ?_
            refine e_iinc (v := nI (i + 1)) (L1 := [some (.ref 89), some (.int (nI (c + 1))), some (.int (nI o)), some (.int (nI (i + 1)))]) dX10_sledges_216 rfl (show nI i + Int32.ofInt 1 = nI (i + 1) from nI_add i 1) (by decide) rfl ?_
            refine e_goto 55 dX10_sledges_219 (by decide) ?_
            have q1 : c < dT D 4 ∧ S (145 + o) < dO D o 2 := ⟨by omega, by omega⟩
            rw [mdo_m q1 ⟨by omega, c162⟩] at h
            have e3 : S3 = mtk D S o i := by rw [← hS3, ← hS2, ← hS1]; rfl
            rw [e3] at Mr3
            have k9 := fWS_tk hD hW hC ho hi q1.2
            exact ih (i + 1) (c + 1) σ3 (mtk D S o i) (by rw [mtk_o (by omega) (by omega) (by omega)]; omega) Ms3 Mr3 k9.1 k9.2 (fWN_tk hD ho (by omega) hN) (by omega) (fun σ' o3 Sm' Mr' => h σ' o3 (Sm3.tr Sm') Mr')
          · have c162 := bn0 c162
            refine e_goto 216 dX10_sledges_165 (by decide) ?_
            refine e_iinc (v := nI (i + 1)) (L1 := [some (.ref 89), some (.int (nI c)), some (.int (nI o)), some (.int (nI (i + 1)))]) dX10_sledges_216 rfl (show nI i + Int32.ofInt 1 = nI (i + 1) from nI_add i 1) (by decide) rfl ?_
            refine e_goto 55 dX10_sledges_219 (by decide) ?_
            have q1 : c < dT D 4 ∧ S (145 + o) < dO D o 2 := ⟨by omega, by omega⟩
            have hm : mdo D o (n + 1) i c S = mdo D o n (i + 1) c S := mdo_n q1 (fun q => by first | omega | (have q2 := q.2; rw [show msz D o (mwd S i) (mhg S i) = false from c162] at q2; exact absurd q2 Bool.false_ne_true))
            rw [hm] at h
            exact ih (i + 1) c σ S (by omega) Ms Mr hW hC hN hcc h
set_option maxRecDepth 20000 in
theorem l_X10_sl4 {g : fGP} {d : Nat} {Q : fRes → fAH → Prop} {D : fSD} {sd : Int32} (hD : fWD D) : ∀ (n i : Nat) (c : Nat) (σ : fAH) (S : Nat → Nat) (o3 : Option Value), i + n = dT D 2 → fMs g σ → fMr σ D S sd → fWS D S → fWC D S → fWN S c 12 → c ≤ dT D 4 → S 155 < dT D 5 → (∀ σ', fSm fRA9 σ σ' → fMr σ' D (mup (mdl D n i c S).1 155 ((mdl D n i c S).1 155 + 1)) sd → Q (.inl none) σ') → fEv g (d + 1) mX10_sledges 4 [some (.ref 89), some (.int (nI c)), some (.int (nI i)), o3] [] σ Q := by
  intro n
  induction n with
  | zero =>
    intro i c σ S o3 hin Ms Mr hW hC hN hcc hth h
    obtain ⟨t0, t1, t2, t3, t4, t5, t6⟩ := id hD.1
    have np := hW.n hD
    have n5 := hW.2.2.2.2
    have n1 := hN.1
    refine e_iload_n dX10_sledges_4 rfl rfl ?_
    refine e_aload_n dX10_sledges_5 rfl rfl ?_
    refine e_getR (q := 92) dX10_sledges_6 fl_RX10_20 (Ms.s 89 rfl) (Ms.n (by decide)) rfl (Ms.r 89 10 rfl) (by unfold fscr; omega) ?_
    refine e_iconst (nI 2) dX10_sledges_9 (by decide) ?_
    refine e_iaload 2 dX10_sledges_10 (Ms.s 92 rfl) (Ms.n (by decide)) rfl (by omega) (by decide) ?_
    refine e_int (nI (dT D 2)) (Mr.t 2 (by omega)) ?_
    refine e_icmp_ge 228 dX10_sledges_11 (by decide) (fun cz => ?_) (fun cz => absurd ((nI_le' (by omega) (by omega)).mpr (by omega)) cz)
    exact l_X10_sl228 Ms Mr hD (by omega) h
  | succ n ih =>
    intro i c σ S o3 hin Ms Mr hW hC hN hcc hth h
    obtain ⟨t0, t1, t2, t3, t4, t5, t6⟩ := id hD.1
    have np := hW.n hD
    have n5 := hW.2.2.2.2
    have n1 := hN.1
    have hi : i < dT D 2 := by omega
    obtain ⟨o0, o1, o2, o3a, o4, o5, o6, o7, o8⟩ := hD.2.2.2.1 i hi
    refine e_iload_n dX10_sledges_4 rfl rfl ?_
    refine e_aload_n dX10_sledges_5 rfl rfl ?_
    refine e_getR (q := 92) dX10_sledges_6 fl_RX10_20 (Ms.s 89 rfl) (Ms.n (by decide)) rfl (Ms.r 89 10 rfl) (by unfold fscr; omega) ?_
    refine e_iconst (nI 2) dX10_sledges_9 (by decide) ?_
    refine e_iaload 2 dX10_sledges_10 (Ms.s 92 rfl) (Ms.n (by decide)) rfl (by omega) (by decide) ?_
    refine e_int (nI (dT D 2)) (Mr.t 2 (by omega)) ?_
    refine e_icmp_ge 228 dX10_sledges_11 (by decide) (fun cz => absurd ((nI_le' (by omega) (by omega)).mp cz) (by omega)) (fun cz => ?_)
    refine e_aload_n dX10_sledges_14 rfl rfl ?_
    refine e_getR (q := 197) dX10_sledges_15 fl_RX10_49 (Ms.s 89 rfl) (Ms.n (by decide)) rfl (Ms.r 89 19 rfl) (by unfold fscr; omega) ?_
    refine e_sipush (nI 155) dX10_sledges_18 (by decide) ?_
    refine e_iaload 155 dX10_sledges_21 (Ms.s 197 rfl) (Ms.n (by decide)) rfl (by omega) (by decide) ?_
    refine e_int (nI (S 155)) (Mr.s 155 (by omega)) ?_
    refine e_aload_n dX10_sledges_22 rfl rfl ?_
    refine e_getR (q := 92) dX10_sledges_23 fl_RX10_20 (Ms.s 89 rfl) (Ms.n (by decide)) rfl (Ms.r 89 10 rfl) (by unfold fscr; omega) ?_
    refine e_iconst (nI 5) dX10_sledges_26 (by decide) ?_
    refine e_iaload 5 dX10_sledges_27 (Ms.s 92 rfl) (Ms.n (by decide)) rfl (by omega) (by decide) ?_
    refine e_int (nI (dT D 5)) (Mr.t 5 (by omega)) ?_
    refine e_icmp_ge 228 dX10_sledges_28 (by decide) (fun q => absurd ((nI_le' (by omega) (by omega)).mp q) (by omega)) (fun _ => ?_)
    refine e_aload_n dX10_sledges_31 rfl rfl ?_
    refine e_getR (q := 197) dX10_sledges_32 fl_RX10_49 (Ms.s 89 rfl) (Ms.n (by decide)) rfl (Ms.r 89 19 rfl) (by unfold fscr; omega) ?_
    refine e_sipush (nI 155) dX10_sledges_35 (by decide) ?_
    refine e_iaload 155 dX10_sledges_38 (Ms.s 197 rfl) (Ms.n (by decide)) rfl (by omega) (by decide) ?_
    refine e_int (nI (S 155)) (Mr.s 155 (by omega)) ?_
    refine e_aload_n dX10_sledges_39 rfl rfl ?_
    refine e_getR (q := 140) dX10_sledges_40 fl_RX10_40 (Ms.s 89 rfl) (Ms.n (by decide)) rfl (Ms.r 89 16 rfl) (by unfold fscr; omega) ?_
    refine e_iload_n dX10_sledges_43 rfl rfl ?_
    refine e_aaload (q := 141 + i) i dX10_sledges_44 (Ms.s 140 rfl) (by decide) (Ms.n (by decide)) rfl (by omega) (by decide) (Ms.r 140 _ (frf_order _ (by omega))) (by unfold fscr; omega) ?_
    refine e_iconst (nI 3) dX10_sledges_45 (by decide) ?_
    refine e_iaload 3 dX10_sledges_46 (Ms.s _ (fsh_order _ (by omega))) (Ms.n (by omega)) rfl (by omega) (by decide) ?_
    refine e_int (nI (dO D i 3)) (Mr.order i (by omega) 3 (by omega)) ?_
    refine e_icmp_le 53 dX10_sledges_47 (by decide) (fun c47 => ?_) (fun c47 => ?_)
    · rw [nI_le' (by omega) (by omega)] at c47
      refine e_iconst (nI 0) dX10_sledges_53 (by decide) ?_
      refine e_istore_n (L1 := [some (.ref 89), some (.int (nI c)), some (.int (nI i)), some (.int (nI 0))]) dX10_sledges_54 rfl (by decide) rfl ?_
      rw [mdl_y (by omega)] at h
      have k9 := fWS_do (c := c) hD hW hC hi
      have k8 := fWN_do hD hW hC hi hcc hN
      have k7 := mdo_c (D := D) (o := i) (S 120) 0 c S hcc
      refine l_X10_sl55 hD hi (S 120) 0 c σ S (by omega) Ms Mr hW hC hN hcc (fun σ1 o9 Sm1 Mr1 => ?_)
      have Ms1 := Ms.sm Sm1
      refine e_iinc (v := nI (i + 1)) (L1 := [some (.ref 89), some (.int (nI (mdo D i (S 120) 0 c S).2)), some (.int (nI (i + 1))), o9]) dX10_sledges_222 rfl (show nI i + Int32.ofInt 1 = nI (i + 1) from nI_add i 1) (by decide) rfl ?_
      refine e_goto 4 dX10_sledges_225 (by decide) ?_
      exact ih (i + 1) _ σ1 _ o9 (by omega) Ms1 Mr1 k9.1 k9.2 k8.1 k7.2 (by rw [k8.2]; exact hth) (fun σ' Sm' Mr' => h σ' (Sm1.tr Sm') Mr')
    · rw [nI_le' (by omega) (by omega)] at c47
      refine e_goto 222 dX10_sledges_50 (by decide) ?_
      refine e_iinc (v := nI (i + 1)) (L1 := [some (.ref 89), some (.int (nI c)), some (.int (nI (i + 1))), o3]) dX10_sledges_222 rfl (show nI i + Int32.ofInt 1 = nI (i + 1) from nI_add i 1) (by decide) rfl ?_
      refine e_goto 4 dX10_sledges_225 (by decide) ?_
      have hm : mdl D (n + 1) i c S = mdl D n (i + 1) c S := mdl_n (by omega)
      rw [hm] at h
      exact ih (i + 1) c σ S _ (by omega) Ms Mr hW hC hN hcc hth h
set_option maxRecDepth 20000 in
theorem t_X10_sledges {g : fGP} {d : Nat} {σ : fAH} {Q : fRes → fAH → Prop} {D : fSD} {S : Nat → Nat} {sd : Int32} (Ms : fMs g σ) (Mr : fMr σ D S sd) (hD : fWD D) (hW : fWS D S) (hC : fWC D S) (hN : fWN S 0 12) (h : ∀ σ', fSm fRA9 σ σ' → fMr σ' D (mend D S) sd → Q (.inl none) σ') : fEv g (d + 1) mX10_sledges 0 (fent [.ref 89] 4) [] σ Q := by
  obtain ⟨t0, t1, t2, t3, t4, t5, t6⟩ := id hD.1
  have n5 := hW.2.2.2.2
  show fEv g (d + 1) mX10_sledges 0 [some (.ref 89), none, none, none] [] σ Q
  refine e_iconst (nI 0) dX10_sledges_0 (by decide) ?_
  refine e_istore_n (L1 := [some (.ref 89), some (.int (nI 0)), none, none]) dX10_sledges_1 rfl (by decide) rfl ?_
  refine e_iconst (nI 0) dX10_sledges_2 (by decide) ?_
  refine e_istore_n (L1 := [some (.ref 89), some (.int (nI 0)), some (.int (nI 0)), none]) dX10_sledges_3 rfl (by decide) rfl ?_
  unfold mend mslg at h
  by_cases hth : S 155 < dT D 5
  · rw [if_pos hth] at h
    exact l_X10_sl4 hD (dT D 2) 0 0 σ S none (by omega) Ms Mr hW hC hN (by omega) hth h
  · rw [if_neg hth] at h
    refine e_iload_n dX10_sledges_4 rfl rfl ?_
    refine e_aload_n dX10_sledges_5 rfl rfl ?_
    refine e_getR (q := 92) dX10_sledges_6 fl_RX10_20 (Ms.s 89 rfl) (Ms.n (by decide)) rfl (Ms.r 89 10 rfl) (by unfold fscr; omega) ?_
    refine e_iconst (nI 2) dX10_sledges_9 (by decide) ?_
    refine e_iaload 2 dX10_sledges_10 (Ms.s 92 rfl) (Ms.n (by decide)) rfl (by omega) (by decide) ?_
    refine e_int (nI (dT D 2)) (Mr.t 2 (by omega)) ?_
    refine e_icmp_ge 228 dX10_sledges_11 (by decide) (fun c11 => ?_) (fun c11 => ?_)
    · rw [nI_le' (by omega) (by omega)] at c11
      exact l_X10_sl228 Ms Mr hD (by omega) h
    · rw [nI_le' (by omega) (by omega)] at c11
      refine e_aload_n dX10_sledges_14 rfl rfl ?_
      refine e_getR (q := 197) dX10_sledges_15 fl_RX10_49 (Ms.s 89 rfl) (Ms.n (by decide)) rfl (Ms.r 89 19 rfl) (by unfold fscr; omega) ?_
      refine e_sipush (nI 155) dX10_sledges_18 (by decide) ?_
      refine e_iaload 155 dX10_sledges_21 (Ms.s 197 rfl) (Ms.n (by decide)) rfl (by omega) (by decide) ?_
      refine e_int (nI (S 155)) (Mr.s 155 (by omega)) ?_
      refine e_aload_n dX10_sledges_22 rfl rfl ?_
      refine e_getR (q := 92) dX10_sledges_23 fl_RX10_20 (Ms.s 89 rfl) (Ms.n (by decide)) rfl (Ms.r 89 10 rfl) (by unfold fscr; omega) ?_
      refine e_iconst (nI 5) dX10_sledges_26 (by decide) ?_
      refine e_iaload 5 dX10_sledges_27 (Ms.s 92 rfl) (Ms.n (by decide)) rfl (by omega) (by decide) ?_
      refine e_int (nI (dT D 5)) (Mr.t 5 (by omega)) ?_
      refine e_icmp_ge 228 dX10_sledges_28 (by decide) (fun _ => ?_) (fun q => absurd ((nI_le' (by omega) (by omega)).mpr (by omega)) q)
      exact l_X10_sl228 Ms Mr hD (by omega) h
