theorem mln_lt {D : fSD} {S : Nat → Nat} {k v : Nat} (h : dS D k 2 < 12) : mln D S k v < 1000 := by
  have md : mdir D k v < 1000 := by
    unfold mdir
    split
    · omega
    · split <;> omega
  unfold mln
  split
  · exact md
  · omega
theorem fWN.mono {S : Nat → Nat} {c k c' k' : Nat} (h : fWN S c k) (h1 : c ≤ c') (h2 : k ≤ k') : fWN S c' k' := by
  unfold fWN at *
  omega
theorem fWN_spl {D : fSD} {S : Nat → Nat} {k p line c n : Nat} (hD : fWD D) (hW : fWS D S) (hC : fWC D S) (hk : k < dT D 1) (hz : S (133 + k) = 0) (hpc : mpc D S k = some p) (hN : fWN S c n) : fWN (mspl D S k line) c n := by
  have hlt := hC.lt hk hz
  have := hW.1
  have := hD.1
  have s1 := (hD.2.2.1 k hk).2.1
  have hp := (mpc_lt hpc).1
  unfold fWN at *
  rw [mspl_o hpc s1 (by omega) (by omega) (by omega) (by omega) (by omega) (by omega) (by omega), mspl_o (j := 155) hpc s1 (by omega) (by omega) (by omega) (by omega) (by omega) (by omega) (by omega), mspl_o (j := 154) hpc s1 (by omega) (by omega) (by omega) (by omega) (by omega) (by omega) (by omega), mspl_152 hpc s1 (by omega) (by omega) (by omega), mspl_153 hpc s1 (by omega) (by omega) (by omega)]
  refine ⟨hN.1, ?_, hN.2.2⟩
  split <;> omega
theorem fWN_bru {S : Nat → Nat} {k c n : Nat} (hk : k < 12) (hN : fWN S c n) : fWN (mbru S k) c (n + 1) := by
  unfold fWN at *
  rw [mbru_o (by omega) (by omega), mbru_o (j := 155) (by omega) (by omega), mbru_o (j := 153) (by omega) (by omega), mbru_o (j := 152) (by omega) (by omega), mbru_b hk]
  omega
theorem fWN_st {Z : Type} {dr : Z → Nat × Z} {D : fSD} {fill cold k c n : Nat} {x : fX Z} (hD : fWD D) (hW : fWS D x.1) (hC : fWC D x.1) (hk : k < dT D 1) (hN : fWN x.1 c n) : fWN (mst dr D fill cold k x).1 c (n + 1) := by
  have t1 := hD.1.2.1
  unfold mst
  split
  · next h =>
    obtain ⟨p, hpc, hp, hz, hi⟩ := mal_pc h.2
    split
    · split
      · exact (fWN_spl hD hW hC hk hz hpc hN).mono (Nat.le_refl _) (by omega)
      · exact (fWN_spl hD hW hC hk hz hpc hN).mono (Nat.le_refl _) (by omega)
    · split
      · exact fWN_bru (by omega) hN
      · exact hN.mono (Nat.le_refl _) (by omega)
  · exact hN.mono (Nat.le_refl _) (by omega)
theorem fWN_frz {Z : Type} {dr : Z → Nat × Z} {D : fSD} {fill cold c : Nat} (hD : fWD D) : ∀ (n k : Nat) (x : fX Z), k + n = dT D 1 → fWS D x.1 → fWC D x.1 → x.1 155 < 30 → fWN x.1 c k → fWN (mfrz dr D fill cold n k x).1 c 12
  | 0, k, _, e, _, _, _, hN => hN.mono (Nat.le_refl _) (by have := hD.1.2.1; omega)
  | n + 1, k, x, e, hW, hC, hn, hN => by
    have h1 := fWS_st (dr := dr) (fill := fill) (cold := cold) (k := k) hD hW hC (by omega) hn
    exact fWN_frz hD n (k + 1) _ (by omega) h1.1 h1.2.1 (by rw [h1.2.2]; exact hn) (fWN_st hD hW hC (by omega) hN)
theorem fWN_tk {D : fSD} {S : Nat → Nat} {o p c n : Nat} (hD : fWD D) (ho : o < dT D 2) (hp : p < 18) (hN : fWN S c n) : fWN (mtk D S o p) (c + 1) n := by
  have := hD.1
  have oo := hD.2.2.2.1 o ho
  unfold fWN at *
  rw [mtk_b hp (by omega), mtk_o (j := 155) (by omega) (by omega) (by omega), mtk_o (j := 153) (by omega) (by omega) (by omega), mtk_o (j := 152) (by omega) (by omega) (by omega), mtk_o (j := 154) (by omega) (by omega) (by omega)]
  omega
theorem fWN_sl {D : fSD} {S : Nat → Nat} (hD : fWD D) (hW : fWS D S) (hC : fWC D S) (hN : fWN S 0 12) : fWN (mslg D S) 9 12 := by
  unfold mslg
  split
  · have := mdl_k (D := D) (fun S1 c => fWS D S1 ∧ fWC D S1 ∧ fWN S1 c 12 ∧ c ≤ dT D 4) ?_ (dT D 2) 0 0 S (by omega) ⟨hW, hC, hN, by omega⟩
    · have h4 := hD.1
      exact this.2.2.1.mono (by omega) (Nat.le_refl _)
    · intro o ho S1 c p h hp hc hm _ _
      have np := h.1.n hD
      have := hD.1
      have k := fWS_tk hD h.1 h.2.1 ho hp hm
      exact ⟨⟨k.1, k.2, fWN_tk hD ho (by omega) h.2.2.1, hc⟩, mtk_o (by omega) (by omega) (by omega)⟩
  · exact hN.mono (by omega) (Nat.le_refl _)
theorem fWN_end {D : fSD} {S : Nat → Nat} (hD : fWD D) (hW : fWS D S) (hC : fWC D S) (hN : fWN S 0 12) : fWN (mend D S) 0 0 := by
  have h := fWN_sl hD hW hC hN
  have e := (fWS_sl hD hW hC).2.2.1
  unfold fWN mend at *
  rw [mup_n _ _ (by omega), mup_s, mup_n _ _ (by omega), mup_n _ _ (by omega), mup_n _ _ (by omega), e]
  rw [e] at h
  omega
theorem mcnt {D : fSD} (hD : fWD D) {t : Nat} : ∀ n, n ≤ dT D 6 → (msum (fun i => if dZ D i 0 = t then 1 else 0) n = 0 ↔ msum (fun i => if dZ D i 0 = t then dZ D i 2 else 0) n = 0)
  | 0, _ => Iff.rfl
  | n + 1, h => by
    have z := hD.2.2.2.2.1 n (by omega)
    have := mcnt hD (t := t) n (by omega)
    show msum _ n + (if _ then _ else _) = 0 ↔ msum _ n + (if _ then _ else _) = 0
    split <;> omega
theorem msum1 {D : fSD} {t : Nat} : ∀ {n : Nat}, n ≤ 24 → msum (fun i => if dZ D i 0 = t then 1 else 0) n ≤ n
  | 0, _ => Nat.le_refl _
  | n + 1, h => by
    have := msum1 (D := D) (t := t) (n := n) (by omega)
    show msum _ n + (if _ then _ else _) ≤ n + 1
    split <;> omega
set_option maxRecDepth 20000 in
theorem l_X10_drawn1 {g : fGP} {d : Nat} {σ : fAH} {Q : fRes → fAH → Prop} {D : fSD} {S : Nat → Nat} {sd : Int32} (Ms : fMs g σ) (Mr : fMr σ D S sd) (hD : fWD D) (hW : fWS D S) : ∀ (n i : Nat), i + n = dT D 6 → fEv g (d + 1) mX10_drawn 50 [some (.ref 89), some (.int (nI 0)), some (.int (nI (msum (fun i => if dZ D i 0 = S 155 then 1 else 0) (dT D 6)))), some (.int (nI (dT D 6))), none] [] σ Q → fEv g (d + 1) mX10_drawn 6 [some (.ref 89), some (.int (nI 0)), some (.int (nI (msum (fun i => if dZ D i 0 = S 155 then 1 else 0) i))), some (.int (nI i)), none] [] σ Q := by
  obtain ⟨t0, t1, t2, t3, t4, t5, t6⟩ := id hD.1
  have n5 := hW.2.2.2.2
  intro n
  induction n with
  | zero =>
    intro i  hin  h
    have e9 : i = dT D 6 := by omega
    subst e9
    refine e_iload_n dX10_drawn_6 rfl rfl ?_
    refine e_aload_n dX10_drawn_7 rfl rfl ?_
    refine e_getR (q := 92) dX10_drawn_8 fl_RX10_20 (Ms.s 89 rfl) (Ms.n (by decide)) rfl (Ms.r 89 10 rfl) (by unfold fscr; omega) ?_
    refine e_bipush (nI 6) dX10_drawn_11 (by decide) ?_
    refine e_iaload 6 dX10_drawn_13 (Ms.s 92 rfl) (Ms.n (by decide)) rfl (by omega) (by decide) ?_
    refine e_int (nI (dT D 6)) (Mr.t 6 (by omega)) ?_
    refine e_icmp_ge 50 dX10_drawn_14 (by decide) (fun cz => ?_) (fun cz => absurd ((nI_le' (by omega) (by omega)).mpr (by omega)) cz)
    exact h
  | succ n ih =>
    intro i  hin  h
    have hi : i < dT D 6 := by omega
    have z := hD.2.2.2.2.1 i hi
    refine e_iload_n dX10_drawn_6 rfl rfl ?_
    refine e_aload_n dX10_drawn_7 rfl rfl ?_
    refine e_getR (q := 92) dX10_drawn_8 fl_RX10_20 (Ms.s 89 rfl) (Ms.n (by decide)) rfl (Ms.r 89 10 rfl) (by unfold fscr; omega) ?_
    refine e_bipush (nI 6) dX10_drawn_11 (by decide) ?_
    refine e_iaload 6 dX10_drawn_13 (Ms.s 92 rfl) (Ms.n (by decide)) rfl (by omega) (by decide) ?_
    refine e_int (nI (dT D 6)) (Mr.t 6 (by omega)) ?_
    refine e_icmp_ge 50 dX10_drawn_14 (by decide) (fun cz => absurd ((nI_le' (by omega) (by omega)).mp cz) (by omega)) (fun cz => ?_)
    refine e_iload_n dX10_drawn_17 rfl rfl ?_
    refine e_aload_n dX10_drawn_18 rfl rfl ?_
    refine e_getR (q := 172) dX10_drawn_19 fl_RX10_46 (Ms.s 89 rfl) (Ms.n (by decide)) rfl (Ms.r 89 18 rfl) (by unfold fscr; omega) ?_
    refine e_iload_n dX10_drawn_22 rfl rfl ?_
    refine e_aaload (q := 173 + i) i dX10_drawn_23 (Ms.s 172 rfl) (by decide) (Ms.n (by decide)) rfl (by omega) (by decide) (Ms.r 172 _ (frf_odds _ (by omega))) (by unfold fscr; omega) ?_
    refine e_iconst (nI 0) dX10_drawn_24 (by decide) ?_
    refine e_iaload 0 dX10_drawn_25 (Ms.s _ (fsh_odds _ (by omega))) (Ms.n (by omega)) rfl (by omega) (by decide) ?_
    refine e_int (nI (dZ D i 0)) (Mr.odds i (by omega) 0 (by omega)) ?_
    refine e_aload_n dX10_drawn_26 rfl rfl ?_
    refine e_getR (q := 197) dX10_drawn_27 fl_RX10_49 (Ms.s 89 rfl) (Ms.n (by decide)) rfl (Ms.r 89 19 rfl) (by unfold fscr; omega) ?_
    refine e_sipush (nI 155) dX10_drawn_30 (by decide) ?_
    refine e_iaload 155 dX10_drawn_33 (Ms.s 197 rfl) (Ms.n (by decide)) rfl (by omega) (by decide) ?_
    refine e_int (nI (S 155)) (Mr.s 155 (by omega)) ?_
    refine e_icmp_ne 41 dX10_drawn_34 (by decide) (fun c34 => ?_) (fun c34 => ?_)
    · rw [nI_inj (by omega) (by omega)] at c34
      refine e_iconst (nI 0) dX10_drawn_41 (by decide) ?_
      refine e_iadd dX10_drawn_42 ?_
      refine e_int (nI (msum (fun i => if dZ D i 0 = S 155 then 1 else 0) i)) (nI_add (msum (fun i => if dZ D i 0 = S 155 then 1 else 0) i) 0) ?_
      refine e_istore_n (L1 := [some (.ref 89), some (.int (nI 0)), some (.int (nI (msum (fun i => if dZ D i 0 = S 155 then 1 else 0) i))), some (.int (nI i)), none]) dX10_drawn_43 rfl (by decide) rfl ?_
      refine e_iinc (v := nI (i + 1)) (L1 := [some (.ref 89), some (.int (nI 0)), some (.int (nI (msum (fun i => if dZ D i 0 = S 155 then 1 else 0) i))), some (.int (nI (i + 1))), none]) dX10_drawn_44 rfl (show nI i + Int32.ofInt 1 = nI (i + 1) from nI_add i 1) (by decide) rfl ?_
      refine e_goto 6 dX10_drawn_47 (by decide) ?_
      have hm : msum (fun i => if dZ D i 0 = S 155 then 1 else 0) (i + 1) = msum (fun i => if dZ D i 0 = S 155 then 1 else 0) i + 0 := by show _ + (if _ then _ else _) = _; rw [if_neg (by omega)]
      have h9 := ih (i + 1) (by omega) h
      rw [hm] at h9
      exact h9
    · rw [nI_inj (by omega) (by omega)] at c34
      refine e_iconst (nI 1) dX10_drawn_37 (by decide) ?_
      refine e_goto 42 dX10_drawn_38 (by decide) ?_
      refine e_iadd dX10_drawn_42 ?_
      refine e_int (nI (msum (fun i => if dZ D i 0 = S 155 then 1 else 0) i + 1)) (nI_add (msum (fun i => if dZ D i 0 = S 155 then 1 else 0) i) 1) ?_
      refine e_istore_n (L1 := [some (.ref 89), some (.int (nI 0)), some (.int (nI (msum (fun i => if dZ D i 0 = S 155 then 1 else 0) i + 1))), some (.int (nI i)), none]) dX10_drawn_43 rfl (by decide) rfl ?_
      refine e_iinc (v := nI (i + 1)) (L1 := [some (.ref 89), some (.int (nI 0)), some (.int (nI (msum (fun i => if dZ D i 0 = S 155 then 1 else 0) i + 1))), some (.int (nI (i + 1))), none]) dX10_drawn_44 rfl (show nI i + Int32.ofInt 1 = nI (i + 1) from nI_add i 1) (by decide) rfl ?_
      refine e_goto 6 dX10_drawn_47 (by decide) ?_
      have hm : msum (fun i => if dZ D i 0 = S 155 then 1 else 0) (i + 1) = msum (fun i => if dZ D i 0 = S 155 then 1 else 0) i + 1 := by show _ + (if _ then _ else _) = _; rw [if_pos (by omega)]
      have h9 := ih (i + 1) (by omega) h
      rw [hm] at h9
      exact h9
set_option maxRecDepth 20000 in
theorem l_X10_drawn2 {g : fGP} {d : Nat} {σ : fAH} {Q : fRes → fAH → Prop} {D : fSD} {S : Nat → Nat} {sd : Int32} {v : Nat} {o2 : Option Value} (Ms : fMs g σ) (Mr : fMr σ D S sd) (hD : fWD D) (hW : fWS D S) (hv : v < 8) : ∀ (n i : Nat) (a : Nat), i + n = dT D 6 → a ≤ 8 * i → Q (.inl (some (.int (nI (mco D (S 155) v n i a))))) σ → fEv g (d) mX10_drawn 65 [some (.ref 89), some (.int (nI a)), o2, some (.int (nI v)), some (.int (nI i))] [] σ Q := by
  obtain ⟨t0, t1, t2, t3, t4, t5, t6⟩ := id hD.1
  have n5 := hW.2.2.2.2
  intro n
  induction n with
  | zero =>
    intro i a hin pa h
    refine e_iload dX10_drawn_65 rfl ?_
    refine e_aload_n dX10_drawn_67 rfl rfl ?_
    refine e_getR (q := 92) dX10_drawn_68 fl_RX10_20 (Ms.s 89 rfl) (Ms.n (by decide)) rfl (Ms.r 89 10 rfl) (by unfold fscr; omega) ?_
    refine e_bipush (nI 6) dX10_drawn_71 (by decide) ?_
    refine e_iaload 6 dX10_drawn_73 (Ms.s 92 rfl) (Ms.n (by decide)) rfl (by omega) (by decide) ?_
    refine e_int (nI (dT D 6)) (Mr.t 6 (by omega)) ?_
    refine e_icmp_ge 133 dX10_drawn_74 (by decide) (fun cz => ?_) (fun cz => absurd ((nI_le' (by omega) (by omega)).mpr (by omega)) cz)
    refine e_iconst (nI 0) dX10_drawn_133 (by decide) ?_
    exact e_ireturn .int dX10_drawn_134 rfl rfl (h)
  | succ n ih =>
    intro i a hin pa h
    have hi : i < dT D 6 := by omega
    have z := hD.2.2.2.2.1 i hi
    refine e_iload dX10_drawn_65 rfl ?_
    refine e_aload_n dX10_drawn_67 rfl rfl ?_
    refine e_getR (q := 92) dX10_drawn_68 fl_RX10_20 (Ms.s 89 rfl) (Ms.n (by decide)) rfl (Ms.r 89 10 rfl) (by unfold fscr; omega) ?_
    refine e_bipush (nI 6) dX10_drawn_71 (by decide) ?_
    refine e_iaload 6 dX10_drawn_73 (Ms.s 92 rfl) (Ms.n (by decide)) rfl (by omega) (by decide) ?_
    refine e_int (nI (dT D 6)) (Mr.t 6 (by omega)) ?_
    refine e_icmp_ge 133 dX10_drawn_74 (by decide) (fun cz => absurd ((nI_le' (by omega) (by omega)).mp cz) (by omega)) (fun cz => ?_)
    refine e_aload_n dX10_drawn_77 rfl rfl ?_
    refine e_getR (q := 172) dX10_drawn_78 fl_RX10_46 (Ms.s 89 rfl) (Ms.n (by decide)) rfl (Ms.r 89 18 rfl) (by unfold fscr; omega) ?_
    refine e_iload dX10_drawn_81 rfl ?_
    refine e_aaload (q := 173 + i) i dX10_drawn_83 (Ms.s 172 rfl) (by decide) (Ms.n (by decide)) rfl (by omega) (by decide) (Ms.r 172 _ (frf_odds _ (by omega))) (by unfold fscr; omega) ?_
    refine e_iconst (nI 0) dX10_drawn_84 (by decide) ?_
    refine e_iaload 0 dX10_drawn_85 (Ms.s _ (fsh_odds _ (by omega))) (Ms.n (by omega)) rfl (by omega) (by decide) ?_
    refine e_int (nI (dZ D i 0)) (Mr.odds i (by omega) 0 (by omega)) ?_
    refine e_aload_n dX10_drawn_86 rfl rfl ?_
    refine e_getR (q := 197) dX10_drawn_87 fl_RX10_49 (Ms.s 89 rfl) (Ms.n (by decide)) rfl (Ms.r 89 19 rfl) (by unfold fscr; omega) ?_
    refine e_sipush (nI 155) dX10_drawn_90 (by decide) ?_
    refine e_iaload 155 dX10_drawn_93 (Ms.s 197 rfl) (Ms.n (by decide)) rfl (by omega) (by decide) ?_
    refine e_int (nI (S 155)) (Mr.s 155 (by omega)) ?_
    refine e_icmp_eq 100 dX10_drawn_94 (by decide) (fun c94 => ?_) (fun c94 => ?_)
    · rw [nI_inj (by omega) (by omega)] at c94
      refine e_iload_n dX10_drawn_100 rfl rfl ?_
      refine e_aload_n dX10_drawn_101 rfl rfl ?_
      refine e_getR (q := 172) dX10_drawn_102 fl_RX10_46 (Ms.s 89 rfl) (Ms.n (by decide)) rfl (Ms.r 89 18 rfl) (by unfold fscr; omega) ?_
      refine e_iload dX10_drawn_105 rfl ?_
      refine e_aaload (q := 173 + i) i dX10_drawn_107 (Ms.s 172 rfl) (by decide) (Ms.n (by decide)) rfl (by omega) (by decide) (Ms.r 172 _ (frf_odds _ (by omega))) (by unfold fscr; omega) ?_
      refine e_iconst (nI 2) dX10_drawn_108 (by decide) ?_
      refine e_iaload 2 dX10_drawn_109 (Ms.s _ (fsh_odds _ (by omega))) (Ms.n (by omega)) rfl (by omega) (by decide) ?_
      refine e_int (nI (dZ D i 2)) (Mr.odds i (by omega) 2 (by omega)) ?_
      refine e_iadd dX10_drawn_110 ?_
      refine e_int (nI (a + dZ D i 2)) (nI_add a (dZ D i 2)) ?_
      refine e_istore_n (L1 := [some (.ref 89), some (.int (nI (a + dZ D i 2))), o2, some (.int (nI v)), some (.int (nI i))]) dX10_drawn_111 rfl (by decide) rfl ?_
      refine e_iload_n dX10_drawn_112 rfl rfl ?_
      refine e_iload_n dX10_drawn_113 rfl rfl ?_
      refine e_icmp_ge 127 dX10_drawn_114 (by decide) (fun c114 => ?_) (fun c114 => ?_)
      · rw [nI_le' (by omega) (by omega)] at c114
        refine e_iinc (v := nI (i + 1)) (L1 := [some (.ref 89), some (.int (nI (a + dZ D i 2))), o2, some (.int (nI v)), some (.int (nI (i + 1)))]) dX10_drawn_127 rfl (show nI i + Int32.ofInt 1 = nI (i + 1) from nI_add i 1) (by decide) rfl ?_
        refine e_goto 65 dX10_drawn_130 (by decide) ?_
        refine ih (i + 1) (a + dZ D i 2) (by omega) (by omega) ?_
        have hm : mco D (S 155) v (n + 1) i a = mco D (S 155) v n (i + 1) (a + dZ D i 2) := by rw [mco, if_pos (by omega), if_neg (by omega)]
        rw [hm] at h
        exact h
      · rw [nI_le' (by omega) (by omega)] at c114
        refine e_aload_n dX10_drawn_117 rfl rfl ?_
        refine e_getR (q := 172) dX10_drawn_118 fl_RX10_46 (Ms.s 89 rfl) (Ms.n (by decide)) rfl (Ms.r 89 18 rfl) (by unfold fscr; omega) ?_
        refine e_iload dX10_drawn_121 rfl ?_
        refine e_aaload (q := 173 + i) i dX10_drawn_123 (Ms.s 172 rfl) (by decide) (Ms.n (by decide)) rfl (by omega) (by decide) (Ms.r 172 _ (frf_odds _ (by omega))) (by unfold fscr; omega) ?_
        refine e_iconst (nI 1) dX10_drawn_124 (by decide) ?_
        refine e_iaload 1 dX10_drawn_125 (Ms.s _ (fsh_odds _ (by omega))) (Ms.n (by omega)) rfl (by omega) (by decide) ?_
        refine e_int (nI (dZ D i 1)) (Mr.odds i (by omega) 1 (by omega)) ?_
        have hm : mco D (S 155) v (n + 1) i a = dZ D i 1 := by rw [mco, if_pos (by omega), if_pos (by omega)]
        rw [hm] at h
        exact e_ireturn .int dX10_drawn_126 rfl rfl h
    · rw [nI_inj (by omega) (by omega)] at c94
      refine e_goto 127 dX10_drawn_97 (by decide) ?_
      refine e_iinc (v := nI (i + 1)) (L1 := [some (.ref 89), some (.int (nI a)), o2, some (.int (nI v)), some (.int (nI (i + 1)))]) dX10_drawn_127 rfl (show nI i + Int32.ofInt 1 = nI (i + 1) from nI_add i 1) (by decide) rfl ?_
      refine e_goto 65 dX10_drawn_130 (by decide) ?_
      refine ih (i + 1) (a) (by omega) (by omega) ?_
      have hm : mco D (S 155) v (n + 1) i a = mco D (S 155) v n (i + 1) (a) := by rw [mco, if_neg (by omega)]
      rw [hm] at h
      exact h
set_option maxRecDepth 20000 in
theorem t_X10_drawn {g : fGP} {d : Nat} {σ : fAH} {Q : fRes → fAH → Prop} {D : fSD} {S : Nat → Nat} {sd : Int32} {tr : Bool} (Ms : fMs g σ) (Mr : fMr σ D S sd) (hD : fWD D) (hW : fWS D S) (h : ∀ σ', fSm (fRA tr) σ σ' → fMr σ' D S (mdc D S sd).2 → Q (.inl (some (.int (nI (mdc D S sd).1)))) σ') : fEv g (d + 1) mX10_drawn 0 (fent [.ref 89] 5) [] σ Q := by
  obtain ⟨t0, t1, t2, t3, t4, t5, t6⟩ := id hD.1
  have n5 := hW.2.2.2.2
  have mb := msum1 (D := D) (t := S 155) (n := dT D 6) (by omega)
  show fEv g (d + 1) mX10_drawn 0 [some (.ref 89), none, none, none, none] [] σ Q
  refine e_iconst (nI 0) dX10_drawn_0 (by decide) ?_
  refine e_istore_n (L1 := [some (.ref 89), some (.int (nI 0)), none, none, none]) dX10_drawn_1 rfl (by decide) rfl ?_
  refine e_iconst (nI 0) dX10_drawn_2 (by decide) ?_
  refine e_istore_n (L1 := [some (.ref 89), some (.int (nI 0)), some (.int (nI 0)), none, none]) dX10_drawn_3 rfl (by decide) rfl ?_
  refine e_iconst (nI 0) dX10_drawn_4 (by decide) ?_
  refine e_istore_n (L1 := [some (.ref 89), some (.int (nI 0)), some (.int (nI 0)), some (.int (nI 0)), none]) dX10_drawn_5 rfl (by decide) rfl ?_
  refine l_X10_drawn1 Ms Mr hD hW (dT D 6) 0 (by omega) ?_
  refine e_iload_n dX10_drawn_50 rfl rfl ?_
  refine e_if_ne 56 dX10_drawn_51 (by decide) (fun c51 => ?_) (fun c51 => ?_)
  · rw [nI_z (by omega)] at c51
    have hz : ¬ _ := fun q => c51 ((mcnt hD (t := S 155) (dT D 6) (Nat.le_refl _)).mpr q)
    have hm : mdc D S sd = (mco D (S 155) (d8 sd) (dT D 6) 0 0, sdn sd) := if_pos (Nat.pos_of_ne_zero hz)
    rw [hm] at h
    refine e_aload_n dX10_drawn_56 rfl rfl ?_
    refine e_iconst (nI 3) dX10_drawn_57 (by decide) ?_
    refine e_callV (k := 89) [.int (nI 3)] dX10_drawn_58 cc_X10_draws lk_RX10_190 im_X10_draws se_X10_draws (by decide) (Ms.s 89 rfl) (Ms.n (by decide)) rfl (Nat.le_of_ble_eq_true rfl) (Nat.le_of_ble_eq_true rfl) ?_
    refine t_X10_draws8 Ms Mr hD (fun σ1 Smx1 Mr1 => ?_)
    show fEv g _ mX10_drawn 61 [some (.ref 89), some (.int (nI 0)), some (.int (nI (msum (fun i => if dZ D i 0 = S 155 then 1 else 0) (dT D 6)))), some (.int (nI (dT D 6))), none] [.int (nI (d8 sd))] σ1 Q
    have Sm1 := (Smx1.to (B := fRA tr) (fun _ q => Or.inl q))
    have Ms1 := Ms.sm Sm1
    have hW1 := hW
    have d81 := d8_lt sd
    have d41 := d4_lt sd
    refine e_istore_n (L1 := [some (.ref 89), some (.int (nI 0)), some (.int (nI (msum (fun i => if dZ D i 0 = S 155 then 1 else 0) (dT D 6)))), some (.int (nI (d8 sd))), none]) dX10_drawn_61 rfl (by decide) rfl ?_
    refine e_iconst (nI 0) dX10_drawn_62 (by decide) ?_
    refine e_istore (L1 := [some (.ref 89), some (.int (nI 0)), some (.int (nI (msum (fun i => if dZ D i 0 = S 155 then 1 else 0) (dT D 6)))), some (.int (nI (d8 sd))), some (.int (nI 0))]) dX10_drawn_63 (by decide) rfl ?_
    exact l_X10_drawn2 Ms1 Mr1 hD hW d81 (dT D 6) 0 0 (by omega) (by omega) (h _ Sm1 Mr1)
  · rw [nI_z (by omega)] at c51
    have hz := (mcnt hD (t := S 155) (dT D 6) (Nat.le_refl _)).mp c51
    have hm : mdc D S sd = (0, sd) := if_neg (by show ¬ 0 < msum _ _; omega)
    rw [hm] at h
    refine e_iconst (nI 0) dX10_drawn_54 (by decide) ?_
    exact e_ireturn .int dX10_drawn_55 rfl rfl (h _ fSm.rfl' Mr)
set_option maxRecDepth 20000 in
theorem l_X10_freezes {g : fGP} {d : Nat} {Q : fRes → fAH → Prop} {D : fSD} {fl c9 : Nat} {tr : Bool} (hD : fWD D) (hf : fl < 4096) (hc9 : c9 < 100) : ∀ (n i : Nat) (σ : fAH) (S : Nat → Nat) (T : Nat → Int32) (sd : Int32), i + n = dT D 1 → fMs g σ → fMr σ D S sd → fWS D S → fWC D S → S 155 < 30 → fWN S 0 i → fI σ 89 31 = nI (bn tr) → (∀ σ', fSm (fRA tr) σ σ' → fMr σ' D (mfrz ldr D fl c9 n i (S, T, sd)).1 (mfrz ldr D fl c9 n i (S, T, sd)).2.2 → (tr = true → fMt σ S T → fMt σ' (mfrz ldr D fl c9 n i (S, T, sd)).1 (mfrz ldr D fl c9 n i (S, T, sd)).2.1) → Q (.inl none) σ') → fEv g (d + 3) mX10_freezes 2 [some (.ref 89), some (.int (nI fl)), some (.int (nI c9)), some (.int (nI i))] [] σ Q := by
  intro n
  induction n with
  | zero =>
    intro i σ S T sd hin Ms Mr hW hC hn hN htr h
    obtain ⟨t0, t1, t2, t3, t4, t5, t6⟩ := id hD.1
    have sp := hW.1
    refine e_iload_n dX10_freezes_2 rfl rfl ?_
    refine e_aload_n dX10_freezes_3 rfl rfl ?_
    refine e_getR (q := 92) dX10_freezes_4 fl_RX10_20 (Ms.s 89 rfl) (Ms.n (by decide)) rfl (Ms.r 89 10 rfl) (by unfold fscr; omega) ?_
    refine e_iconst (nI 1) dX10_freezes_7 (by decide) ?_
    refine e_iaload 1 dX10_freezes_8 (Ms.s 92 rfl) (Ms.n (by decide)) rfl (by omega) (by decide) ?_
    refine e_int (nI (dT D 1)) (Mr.t 1 (by omega)) ?_
    refine e_icmp_ge 94 dX10_freezes_9 (by decide) (fun cz => ?_) (fun cz => absurd ((nI_le' (by omega) (by omega)).mpr (by omega)) cz)
    exact e_return dX10_freezes_94 rfl (h _ fSm.rfl' Mr (fun _ q => q))
  | succ n ih =>
    intro i σ S T sd hin Ms Mr hW hC hn hN htr h
    obtain ⟨t0, t1, t2, t3, t4, t5, t6⟩ := id hD.1
    have sp := hW.1
    have hi : i < dT D 1 := by omega
    have dv : fl / 2 ^ i < 4096 := Nat.lt_of_le_of_lt (Nat.div_le_self _ _) (by omega)
    have dl := d2 (b := fl) (i := i)
    have nd := mneed_le D S i
    have sb := hD.s2 hi
    refine e_iload_n dX10_freezes_2 rfl rfl ?_
    refine e_aload_n dX10_freezes_3 rfl rfl ?_
    refine e_getR (q := 92) dX10_freezes_4 fl_RX10_20 (Ms.s 89 rfl) (Ms.n (by decide)) rfl (Ms.r 89 10 rfl) (by unfold fscr; omega) ?_
    refine e_iconst (nI 1) dX10_freezes_7 (by decide) ?_
    refine e_iaload 1 dX10_freezes_8 (Ms.s 92 rfl) (Ms.n (by decide)) rfl (by omega) (by decide) ?_
    refine e_int (nI (dT D 1)) (Mr.t 1 (by omega)) ?_
    refine e_icmp_ge 94 dX10_freezes_9 (by decide) (fun cz => absurd ((nI_le' (by omega) (by omega)).mp cz) (by omega)) (fun cz => ?_)
    refine e_iload_n dX10_freezes_12 rfl rfl ?_
    refine e_iload_n dX10_freezes_13 rfl rfl ?_
    refine e_ishr dX10_freezes_14 ?_
    refine e_int (nI (fl / 2 ^ i)) (nI_shr (by omega) (by omega)) ?_
    refine e_iconst (nI 1) dX10_freezes_15 (by decide) ?_
    refine e_iand dX10_freezes_16 ?_
    refine e_int (nI (fl / 2 ^ i % 2)) (nI_and1 (by omega)) ?_
    refine e_if_eq 88 dX10_freezes_17 (by decide) (fun c17 => ?_) (fun c17 => ?_)
    · rw [nI_z (by omega)] at c17
      refine e_iinc (v := nI (i + 1)) (L1 := [some (.ref 89), some (.int (nI fl)), some (.int (nI c9)), some (.int (nI (i + 1)))]) dX10_freezes_88 rfl (show nI i + Int32.ofInt 1 = nI (i + 1) from nI_add i 1) (by decide) rfl ?_
      refine e_goto 2 dX10_freezes_91 (by decide) ?_
      have h := h
      rw [show mfrz ldr D fl c9 (n + 1) i (S, T, sd) = mfrz ldr D fl c9 n (i + 1) (mst ldr D fl c9 i (S, T, sd)) from rfl] at h
      have k8 := fWN_st (dr := ldr) (fill := fl) (cold := c9) (k := i) (x := (S, T, sd)) hD hW hC hi hN
      have k9 := fWS_st (dr := ldr) (fill := fl) (cold := c9) (k := i) (x := (S, T, sd)) hD hW hC hi hn
      have hm : mst ldr D fl c9 i (S, T, sd) = (S, T, sd) := by first | (rw [mst_u, if_neg (fun q => by omega)]) | (rw [mst_u, if_neg (fun q => by rw [c25] at q; exact absurd q.2 Bool.false_ne_true)]) | (rw [mst_u, if_pos ⟨by omega, c25⟩, if_neg (by omega), if_neg (by omega)])
      rw [hm] at h k8
      exact ih (i + 1) σ S T sd (by omega) Ms Mr hW hC hn k8 htr h
    · rw [nI_z (by omega)] at c17
      refine e_aload_n dX10_freezes_20 rfl rfl ?_
      refine e_iload_n dX10_freezes_21 rfl rfl ?_
      refine e_callV (k := 89) [.int (nI i)] dX10_freezes_22 cc_X10_isAlive lk_RX10_183 im_X10_isAlive se_X10_isAlive (by decide) (Ms.s 89 rfl) (Ms.n (by decide)) rfl (Nat.le_of_ble_eq_true rfl) (Nat.le_of_ble_eq_true rfl) ?_
      refine t_X10_isAlive Ms Mr hD hW (by omega) (fK_i ?_)
      show fEv g _ mX10_freezes 25 [some (.ref 89), some (.int (nI fl)), some (.int (nI c9)), some (.int (nI i))] [.int (nI (bn (mal D S i)))] σ Q
      refine e_if_ne 31 dX10_freezes_25 (by decide) (fun c25 => ?_) (fun c25 => ?_)
      · have c25 := bn1 c25
        obtain ⟨p, hpc, hp, hz, hi9⟩ := mal_pc c25
        refine e_iload_n dX10_freezes_31 rfl rfl ?_
        refine e_aload_n dX10_freezes_32 rfl rfl ?_
        refine e_iload_n dX10_freezes_33 rfl rfl ?_
        refine e_callV (k := 89) [.int (nI i)] dX10_freezes_34 cc_X10_needOf lk_RX10_180 im_X10_needOf se_X10_needOf (by decide) (Ms.s 89 rfl) (Ms.n (by decide)) rfl (Nat.le_of_ble_eq_true rfl) (Nat.le_of_ble_eq_true rfl) ?_
        refine t_X10_needOf Ms Mr hD hW (by omega) (fK_i ?_)
        show fEv g _ mX10_freezes 37 [some (.ref 89), some (.int (nI fl)), some (.int (nI c9)), some (.int (nI i))] [.int (nI (mneed D S i)), .int (nI c9)] σ Q
        refine e_icmp_lt 79 dX10_freezes_37 (by decide) (fun c37 => ?_) (fun c37 => ?_)
        · rw [nI_lt' (by omega) (by omega)] at c37
          refine e_iload_n dX10_freezes_79 rfl rfl ?_
          refine e_if_le 88 dX10_freezes_80 (by decide) (fun c80 => ?_) (fun c80 => ?_)
          · rw [nI_zle (by omega)] at c80
            refine e_iinc (v := nI (i + 1)) (L1 := [some (.ref 89), some (.int (nI fl)), some (.int (nI c9)), some (.int (nI (i + 1)))]) dX10_freezes_88 rfl (show nI i + Int32.ofInt 1 = nI (i + 1) from nI_add i 1) (by decide) rfl ?_
            refine e_goto 2 dX10_freezes_91 (by decide) ?_
            have h := h
            rw [show mfrz ldr D fl c9 (n + 1) i (S, T, sd) = mfrz ldr D fl c9 n (i + 1) (mst ldr D fl c9 i (S, T, sd)) from rfl] at h
            have k8 := fWN_st (dr := ldr) (fill := fl) (cold := c9) (k := i) (x := (S, T, sd)) hD hW hC hi hN
            have k9 := fWS_st (dr := ldr) (fill := fl) (cold := c9) (k := i) (x := (S, T, sd)) hD hW hC hi hn
            have hm : mst ldr D fl c9 i (S, T, sd) = (S, T, sd) := by first | (rw [mst_u, if_neg (fun q => by omega)]) | (rw [mst_u, if_neg (fun q => by rw [c25] at q; exact absurd q.2 Bool.false_ne_true)]) | (rw [mst_u, if_pos ⟨by omega, c25⟩, if_neg (by omega), if_neg (by omega)])
            rw [hm] at h k8
            exact ih (i + 1) σ S T sd (by omega) Ms Mr hW hC hn k8 htr h
          · rw [nI_zle (by omega)] at c80
            refine e_aload_n dX10_freezes_83 rfl rfl ?_
            refine e_iload_n dX10_freezes_84 rfl rfl ?_
            refine e_callV (k := 89) [.int (nI i)] dX10_freezes_85 cc_X10_bruises lk_RX10_208 im_X10_bruises se_X10_bruises (by decide) (Ms.s 89 rfl) (Ms.n (by decide)) rfl (Nat.le_of_ble_eq_true rfl) (Nat.le_of_ble_eq_true rfl) ?_
            refine t_X10_bruises Ms Mr hD hW hN (by omega) hi (fun σ1 Smx1 Mr1 => ?_)
            show fEv g _ mX10_freezes 88 [some (.ref 89), some (.int (nI fl)), some (.int (nI c9)), some (.int (nI i))] [] σ1 Q
            have Sm1 := (Smx1.to (B := fRA tr) (fun _ q => Or.inl q))
            have Ms1 := Ms.sm Sm1
            have htr1 := (Sm1.i (by unfold fRA; omega) 31).trans htr
            refine e_iinc (v := nI (i + 1)) (L1 := [some (.ref 89), some (.int (nI fl)), some (.int (nI c9)), some (.int (nI (i + 1)))]) dX10_freezes_88 rfl (show nI i + Int32.ofInt 1 = nI (i + 1) from nI_add i 1) (by decide) rfl ?_
            refine e_goto 2 dX10_freezes_91 (by decide) ?_
            have h := h
            rw [show mfrz ldr D fl c9 (n + 1) i (S, T, sd) = mfrz ldr D fl c9 n (i + 1) (mst ldr D fl c9 i (S, T, sd)) from rfl] at h
            have k8 := fWN_st (dr := ldr) (fill := fl) (cold := c9) (k := i) (x := (S, T, sd)) hD hW hC hi hN
            have k9 := fWS_st (dr := ldr) (fill := fl) (cold := c9) (k := i) (x := (S, T, sd)) hD hW hC hi hn
            have hm : mst ldr D fl c9 i (S, T, sd) = (mbru S i, T, sd) := by rw [mst_u, if_pos ⟨by omega, c25⟩, if_neg (by omega), if_pos (by omega)]
            rw [hm] at h k8 k9
            exact ih (i + 1) σ1 _ T sd (by omega) Ms1 Mr1 k9.1 k9.2.1 (Nat.lt_of_le_of_lt (Nat.le_of_eq k9.2.2) hn) k8 htr1 (fun σ' Sm' Mr' Mt' => h σ' (Sm1.tr Sm') Mr' (fun q1 q2 => Mt' q1 (by
              refine ⟨fun i9 h9 c hc => ?_, fun t ht => ?_⟩
              · rw [mbru_o (by omega) (by omega)] at h9
                rw [Smx1.i (by unfold fRA9; omega) c]; exact q2.1 i9 h9 c hc
              · rw [mbru_o (by omega) (by omega)] at ht
                rw [Smx1.i (by unfold fRA9; omega) t]; exact q2.2 t ht)))
        · rw [nI_lt' (by omega) (by omega)] at c37
          refine e_aload_n dX10_freezes_40 rfl rfl ?_
          refine e_iload_n dX10_freezes_41 rfl rfl ?_
          refine e_aload_n dX10_freezes_42 rfl rfl ?_
          refine e_iload_n dX10_freezes_43 rfl rfl ?_
          refine e_iload_n dX10_freezes_44 rfl rfl ?_
          refine e_callV (k := 89) [.int (nI i), .int (nI c9)] dX10_freezes_45 cc_X10_mayStray lk_RX10_197 im_X10_mayStray se_X10_mayStray (by decide) (Ms.s 89 rfl) (Ms.n (by decide)) rfl (Nat.le_of_ble_eq_true rfl) (Nat.le_of_ble_eq_true rfl) ?_
          refine t_X10_mayStray Ms Mr hD hW (by omega) (by omega) (fK_i ?_)
          show fEv g _ mX10_freezes 48 [some (.ref 89), some (.int (nI fl)), some (.int (nI c9)), some (.int (nI i))] [.int (nI (bn (mstr D S i c9))), .int (nI i), .ref 89] σ Q
          refine e_if_eq 64 dX10_freezes_48 (by decide) (fun c48 => ?_) (fun c48 => ?_)
          · have c48 := bn0 c48
            refine e_aload_n dX10_freezes_64 rfl rfl ?_
            refine e_getR (q := 120) dX10_freezes_65 fl_RX10_34 (Ms.s 89 rfl) (Ms.n (by decide)) rfl (Ms.r 89 14 rfl) (by unfold fscr; omega) ?_
            refine e_iload_n dX10_freezes_68 rfl rfl ?_
            refine e_aaload (q := 121 + i) i dX10_freezes_69 (Ms.s 120 rfl) (by decide) (Ms.n (by decide)) rfl (by omega) (by decide) (Ms.r 120 _ (frf_slot _ (by omega))) (by unfold fscr; omega) ?_
            refine e_iconst (nI 2) dX10_freezes_70 (by decide) ?_
            refine e_iaload 2 dX10_freezes_71 (Ms.s _ (fsh_slot _ (by omega))) (Ms.n (by omega)) rfl (by omega) (by decide) ?_
            refine e_int (nI (dS D i 2)) (Mr.slot i (by omega) 2 (by omega)) ?_
            refine e_iload_n dX10_freezes_72 rfl rfl ?_
            refine e_callV (k := 89) [.int (nI i), .int (nI (dS D i 2)), .int (nI c9)] dX10_freezes_73 cc_X10_splits lk_RX10_204 im_X10_splits se_X10_splits (by decide) (Ms.s 89 rfl) (Ms.n (by decide)) rfl (Nat.le_of_ble_eq_true rfl) (Nat.le_of_ble_eq_true rfl) ?_
            refine t_X10_splits (T := T) Ms Mr hD hW hC hN htr hi hz hpc (by omega) (fun σ2 Smx2 Mr2 Mtx2 => ?_)
            show fEv g _ mX10_freezes 76 [some (.ref 89), some (.int (nI fl)), some (.int (nI c9)), some (.int (nI i))] [] σ2 Q
            have Sm2 := Smx2
            have Ms2 := Ms.sm Sm2
            have htr2 := (Sm2.i (by unfold fRA; omega) 31).trans htr
            refine e_goto 88 dX10_freezes_76 (by decide) ?_
            refine e_iinc (v := nI (i + 1)) (L1 := [some (.ref 89), some (.int (nI fl)), some (.int (nI c9)), some (.int (nI (i + 1)))]) dX10_freezes_88 rfl (show nI i + Int32.ofInt 1 = nI (i + 1) from nI_add i 1) (by decide) rfl ?_
            refine e_goto 2 dX10_freezes_91 (by decide) ?_
            have h := h
            rw [show mfrz ldr D fl c9 (n + 1) i (S, T, sd) = mfrz ldr D fl c9 n (i + 1) (mst ldr D fl c9 i (S, T, sd)) from rfl] at h
            have k8 := fWN_st (dr := ldr) (fill := fl) (cold := c9) (k := i) (x := (S, T, sd)) hD hW hC hi hN
            have k9 := fWS_st (dr := ldr) (fill := fl) (cold := c9) (k := i) (x := (S, T, sd)) hD hW hC hi hn
            have hm : mst ldr D fl c9 i (S, T, sd) = (mspl D S i (dS D i 2), mnt D S T i (dS D i 2) c9, sd) := by rw [mst_u, if_pos ⟨by omega, c25⟩, if_pos (by omega)]; exact if_neg (by show ¬ mstr D S i c9 = true; rw [c48]; exact Bool.false_ne_true)
            rw [hm] at h k8 k9
            exact ih (i + 1) σ2 _ _ _ (by omega) Ms2 Mr2 k9.1 k9.2.1 (Nat.lt_of_le_of_lt (Nat.le_of_eq k9.2.2) hn) k8 htr2 (fun σ' Sm' Mr' Mt' => h σ' (Sm2.tr Sm') Mr' (fun q1 q2 => Mt' q1 (Mtx2 q1 q2)))
          · have c48 := bn1 c48
            refine e_aload_n dX10_freezes_51 rfl rfl ?_
            refine e_iload_n dX10_freezes_52 rfl rfl ?_
            refine e_aload_n dX10_freezes_53 rfl rfl ?_
            refine e_iconst (nI 2) dX10_freezes_54 (by decide) ?_
            refine e_callV (k := 89) [.int (nI 2)] dX10_freezes_55 cc_X10_draws lk_RX10_190 im_X10_draws se_X10_draws (by decide) (Ms.s 89 rfl) (Ms.n (by decide)) rfl (Nat.le_of_ble_eq_true rfl) (Nat.le_of_ble_eq_true rfl) ?_
            refine t_X10_draws4 Ms Mr hD (fun σ3 Smx3 Mr3 => ?_)
            show fEv g _ mX10_freezes 58 [some (.ref 89), some (.int (nI fl)), some (.int (nI c9)), some (.int (nI i))] [.int (nI (d4 sd)), .int (nI i), .ref 89, .int (nI i), .ref 89] σ3 Q
            have Sm3 := (Smx3.to (B := fRA tr) (fun _ q => Or.inl q))
            have Ms3 := Ms.sm Sm3
            have hW3 := hW
            have hC3 := hC
            have hN3 := hN
            have d43 := d4_lt sd
            have htr3 := (Sm3.i (by unfold fRA; omega) 31).trans htr
            refine e_callV (k := 89) [.int (nI i), .int (nI (d4 sd))] dX10_freezes_58 cc_X10_lineOf lk_RX10_201 im_X10_lineOf se_X10_lineOf (by decide) (Ms3.s 89 rfl) (Ms3.n (by decide)) rfl (Nat.le_of_ble_eq_true rfl) (Nat.le_of_ble_eq_true rfl) ?_
            refine t_X10_lineOf Ms3 Mr3 hD hW3 hi (by omega) hpc (fK_i ?_)
            show fEv g _ mX10_freezes 61 [some (.ref 89), some (.int (nI fl)), some (.int (nI c9)), some (.int (nI i))] [.int (nI (mln D S i (d4 sd))), .int (nI i), .ref 89] σ3 Q
            refine e_goto 72 dX10_freezes_61 (by decide) ?_
            refine e_iload_n dX10_freezes_72 rfl rfl ?_
            refine e_callV (k := 89) [.int (nI i), .int (nI (mln D S i (d4 sd))), .int (nI c9)] dX10_freezes_73 cc_X10_splits lk_RX10_204 im_X10_splits se_X10_splits (by decide) (Ms3.s 89 rfl) (Ms3.n (by decide)) rfl (Nat.le_of_ble_eq_true rfl) (Nat.le_of_ble_eq_true rfl) ?_
            refine t_X10_splits (T := T) Ms3 Mr3 hD hW3 hC3 hN3 htr3 hi hz hpc (mln_lt (by omega)) (fun σ4 Smx4 Mr4 Mtx4 => ?_)
            show fEv g _ mX10_freezes 76 [some (.ref 89), some (.int (nI fl)), some (.int (nI c9)), some (.int (nI i))] [] σ4 Q
            have Sm4 := Sm3.tr Smx4
            have Ms4 := Ms.sm Sm4
            have htr4 := (Sm4.i (by unfold fRA; omega) 31).trans htr
            refine e_goto 88 dX10_freezes_76 (by decide) ?_
            refine e_iinc (v := nI (i + 1)) (L1 := [some (.ref 89), some (.int (nI fl)), some (.int (nI c9)), some (.int (nI (i + 1)))]) dX10_freezes_88 rfl (show nI i + Int32.ofInt 1 = nI (i + 1) from nI_add i 1) (by decide) rfl ?_
            refine e_goto 2 dX10_freezes_91 (by decide) ?_
            have h := h
            rw [show mfrz ldr D fl c9 (n + 1) i (S, T, sd) = mfrz ldr D fl c9 n (i + 1) (mst ldr D fl c9 i (S, T, sd)) from rfl] at h
            have k8 := fWN_st (dr := ldr) (fill := fl) (cold := c9) (k := i) (x := (S, T, sd)) hD hW hC hi hN
            have k9 := fWS_st (dr := ldr) (fill := fl) (cold := c9) (k := i) (x := (S, T, sd)) hD hW hC hi hn
            have hm : mst ldr D fl c9 i (S, T, sd) = (mspl D S i (mln D S i (d4 sd)), mnt D S T i (mln D S i (d4 sd)) c9, sdn sd) := by rw [mst_u, if_pos ⟨by omega, c25⟩, if_pos (by omega)]; exact if_pos c48
            rw [hm] at h k8 k9
            exact ih (i + 1) σ4 _ _ _ (by omega) Ms4 Mr4 k9.1 k9.2.1 (Nat.lt_of_le_of_lt (Nat.le_of_eq k9.2.2) hn) k8 htr4 (fun σ' Sm' Mr' Mt' => h σ' (Sm4.tr Sm') Mr' (fun q1 q2 => Mt' q1 (Mtx4 q1 (⟨fun i9 h9 c hc => by rw [Smx3.i (by unfold fRA9; omega) c]; exact q2.1 i9 h9 c hc, fun t ht => by rw [Smx3.i (by unfold fRA9; omega) t]; exact q2.2 t ht⟩))))
      · have c25 := bn0 c25
        refine e_goto 88 dX10_freezes_28 (by decide) ?_
        refine e_iinc (v := nI (i + 1)) (L1 := [some (.ref 89), some (.int (nI fl)), some (.int (nI c9)), some (.int (nI (i + 1)))]) dX10_freezes_88 rfl (show nI i + Int32.ofInt 1 = nI (i + 1) from nI_add i 1) (by decide) rfl ?_
        refine e_goto 2 dX10_freezes_91 (by decide) ?_
        have h := h
        rw [show mfrz ldr D fl c9 (n + 1) i (S, T, sd) = mfrz ldr D fl c9 n (i + 1) (mst ldr D fl c9 i (S, T, sd)) from rfl] at h
        have k8 := fWN_st (dr := ldr) (fill := fl) (cold := c9) (k := i) (x := (S, T, sd)) hD hW hC hi hN
        have k9 := fWS_st (dr := ldr) (fill := fl) (cold := c9) (k := i) (x := (S, T, sd)) hD hW hC hi hn
        have hm : mst ldr D fl c9 i (S, T, sd) = (S, T, sd) := by first | (rw [mst_u, if_neg (fun q => by omega)]) | (rw [mst_u, if_neg (fun q => by rw [c25] at q; exact absurd q.2 Bool.false_ne_true)]) | (rw [mst_u, if_pos ⟨by omega, c25⟩, if_neg (by omega), if_neg (by omega)])
        rw [hm] at h k8
        exact ih (i + 1) σ S T sd (by omega) Ms Mr hW hC hn k8 htr h
set_option maxRecDepth 20000 in
theorem t_X10_freezes {g : fGP} {d : Nat} {σ : fAH} {Q : fRes → fAH → Prop} {D : fSD} {S : Nat → Nat} {T : Nat → Int32} {sd : Int32} {fl c9 : Nat} {tr : Bool} (Ms : fMs g σ) (Mr : fMr σ D S sd) (hD : fWD D) (hW : fWS D S) (hC : fWC D S) (hn : S 155 < 30) (hN : fWN S 0 0) (htr : fI σ 89 31 = nI (bn tr)) (hf : fl < 4096) (hc9 : c9 < 100) (h : ∀ σ', fSm (fRA tr) σ σ' → fMr σ' D (mfrz ldr D fl c9 (dT D 1) 0 (S, T, sd)).1 (mfrz ldr D fl c9 (dT D 1) 0 (S, T, sd)).2.2 → (tr = true → fMt σ S T → fMt σ' (mfrz ldr D fl c9 (dT D 1) 0 (S, T, sd)).1 (mfrz ldr D fl c9 (dT D 1) 0 (S, T, sd)).2.1) → Q (.inl none) σ') : fEv g (d + 3) mX10_freezes 0 (fent [.ref 89, .int (nI fl), .int (nI c9)] 4) [] σ Q := by
  show fEv g (d + 3) mX10_freezes 0 [some (.ref 89), some (.int (nI fl)), some (.int (nI c9)), none] [] σ Q
  refine e_iconst (nI 0) dX10_freezes_0 (by decide) ?_
  refine e_istore_n (L1 := [some (.ref 89), some (.int (nI fl)), some (.int (nI c9)), some (.int (nI 0))]) dX10_freezes_1 rfl (by decide) rfl ?_
  exact l_X10_freezes hD hf hc9 (dT D 1) 0 σ S T sd (by omega) Ms Mr hW hC hn hN htr h
