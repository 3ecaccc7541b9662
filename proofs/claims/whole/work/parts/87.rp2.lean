theorem mfa_bf {f : Nat → Bool} {most : Nat} : ∀ (n i c : Nat), c + n ≤ most → mfa f most n i c = mbf f n i
  | 0, _, _, _ => rfl
  | n + 1, i, c, h => by
    show (if c < most then (if f i then 2 ^ i + mfa f most n (i + 1) (c + 1) else mfa f most n (i + 1) c) else 0) = (if f i then 2 ^ i else 0) + mbf f n (i + 1)
    rw [if_pos (by omega), mfa_bf n (i + 1) (c + 1) (by omega), mfa_bf n (i + 1) c (by omega)]
    split
    · rfl
    · exact (Nat.zero_add _).symm
theorem mfa_12 {D : fSD} (S : Nat → Nat) (hD : fWD D) : mfa (mal D S) 12 (dT D 1) 0 0 = mbits D S := mfa_bf _ _ _ (by have := hD.1.2.1; omega)
def mG9 (D : fSD) (t k i : Nat) : Nat := if dZ D i 0 = t ∧ k ≤ dZ D i 1 then dZ D i 2 else 0
theorem msf_s {f : Nat → Nat} : ∀ n i, msf f (n + 1) i = msf f n i + f (i + n)
  | 0, i => by show f i + 0 = 0 + f (i + 0); rw [Nat.add_zero, Nat.zero_add, Nat.add_zero]
  | n + 1, i => by
    show f i + msf f (n + 1) (i + 1) = f i + msf f n (i + 1) + f (i + (n + 1))
    rw [msf_s n (i + 1), show i + 1 + n = i + (n + 1) by omega, Nat.add_assoc]
theorem msf_0 {f : Nat → Nat} : ∀ n, msf f n 0 = msum f n
  | 0 => rfl
  | n + 1 => by
    rw [msf_s, msf_0 n, Nat.zero_add]; rfl
theorem moc_sf {D : fSD} {t : Nat} : ∀ (n c a : Nat), moc D t n c a = a + msf (mpart D t) n c
  | 0, _, _ => rfl
  | n + 1, c, a => by
    show moc D t n (c + 1) (a + mpart D t c) = a + (mpart D t c + msf (mpart D t) n (c + 1))
    rw [moc_sf n, Nat.add_assoc]
theorem msf_ze {f : Nat → Nat} : ∀ n i, (∀ c, i ≤ c → f c = 0) → msf f n i = 0
  | 0, _, _ => rfl
  | n + 1, i, h => by
    show f i + msf f n (i + 1) = 0
    rw [h i (Nat.le_refl _), msf_ze n (i + 1) (fun c hc => h c (by omega))]
theorem msf_on {z x : Nat} : ∀ n i, i ≤ z → z < i + n → msf (fun c => if z = c then x else 0) n i = x
  | 0, i, h1, h2 => by omega
  | n + 1, i, h1, h2 => by
    show (if z = i then x else 0) + msf (fun c => if z = c then x else 0) n (i + 1) = x
    by_cases e : z = i
    · rw [if_pos e, msf_ze n (i + 1) (fun c hc => if_neg (by omega)), Nat.add_zero]
    · rw [if_neg e, msf_on n (i + 1) (by omega) (by omega), Nat.zero_add]
theorem mor_e {D : fSD} {t k n : Nat} (hk : k + n = 10) : ∀ N, (∀ i, i < N → dZ D i 1 ≤ 9) → msf (fun c => msum (fun i => if dZ D i 0 = t ∧ dZ D i 1 = c then dZ D i 2 else 0) N) n k = msum (mG9 D t k) N
  | 0, _ => msf_ze _ _ (fun _ _ => rfl)
  | N + 1, h => by
    show msf (fun c => msum (fun i => if dZ D i 0 = t ∧ dZ D i 1 = c then dZ D i 2 else 0) N + (if dZ D N 0 = t ∧ dZ D N 1 = c then dZ D N 2 else 0)) n k = msum (mG9 D t k) N + mG9 D t k N
    rw [msf_add, mor_e hk N (fun i hi => h i (by omega))]
    congr 1
    unfold mG9
    have h9 := h N (by omega)
    by_cases e : dZ D N 0 = t ∧ k ≤ dZ D N 1
    · rw [if_pos e, show (fun c => if dZ D N 0 = t ∧ dZ D N 1 = c then dZ D N 2 else 0) = fun c => if dZ D N 1 = c then dZ D N 2 else 0 from funext fun c => by simp only [e.1, true_and]]
      exact msf_on n k e.2 (by omega)
    · rw [if_neg e]
      exact msf_ze n k (fun c hc => if_neg (fun q => e ⟨q.1, by omega⟩))
theorem moc_r {D : fSD} {t k : Nat} (hD : fWD D) (hk : k ≤ 9) : msf (mG9 D t k) (dT D 6) 0 = moc D t (10 - k) k 0 := by
  rw [moc_sf, Nat.zero_add, msf_0]
  exact (mor_e (by omega) (dT D 6) (fun i hi => (hD.2.2.2.2.1 i hi).2.2.1)).symm
set_option maxRecDepth 20000 in
theorem lp_X10_undone {g : fGP} {d : Nat} {σ : fAH} {Q : fRes → fAH → Prop} {x : fXS}  (Ms : fMs g σ) (ok : fOK x) (Ir : fIr σ x) (hz : fI σ 89 0 = nI 0) (h : ∀ σ', fSm fRfA σ σ' → fIr σ' x → fI σ' 89 0 = nI 0 → Q (.inl (some (.int (nI (mfa (mal (xD x) (iS (xI x))) 12 (dT (xD x) 1) 0 0))))) σ') : fEv g (d + 4) mX10_undone 5 [some (.ref 89)] [] σ Q := by
  obtain ⟨D, ⟨S, T, sd, pn, P, rn, R⟩, B, tp, pl, im, Im⟩ := x
  have hD : fWD D := ok.1
  have hW : fWS D S := ok.2.1.1
  have hC : fWC D S := ok.2.1.2.1
  have hN : fWN S 0 0 := ok.2.1.2.2.1
  have Mr : fMr σ D S sd := Ir.1
  have Mt : fMt σ S T := Ir.2.1
  obtain ⟨t0, t1, t2, t3, t4, t5, t6⟩ := id hD.1
  have np := hW.n hD
  have n5 := hW.2.2.2.2
  have tp6 : tp ≤ 600 := ok.2.2.2.1
  have im3 : im ≤ 3 := ok.2.2.2.2.1
  have pn3 : pn ≤ 30 := ok.2.1.2.2.2.1
  have rn6 : rn ≤ 60 := ok.2.1.2.2.2.2.2.1
  have Rc : fRc σ (S, T, sd, pn, P, rn, R) := Ir.2.2.2.2.1
  have w52 := hW.1
  show fEv g (d + 4) mX10_undone 5 [some (.ref 89)] [] σ Q
  refine e_aload_n dX10_undone_5 rfl rfl ?_
  refine e_callV (k := 89) [] dX10_undone_6 cc_X10_alive lk_RX10_215 im_X10_alive se_X10_alive (by decide) (Ms.s 89 rfl) (Ms.n (by decide)) rfl (Nat.le_of_ble_eq_true rfl) (Nat.le_of_ble_eq_true rfl) ?_
  refine t_X10_alive Ms Mr hD hW (fK_i ?_)
  show fEv g _ mX10_undone 9 [some (.ref 89)] [.int (nI (mbits D S))] σ Q
  have h9 : Q (.inl (some (.int (nI (mfa (mal D S) 12 (dT D 1) 0 0))))) σ := h σ fSm.rfl' Ir hz
  rw [mfa_12 S hD] at h9
  exact e_ireturn .int dX10_undone_9 rfl rfl h9
set_option maxRecDepth 20000 in
theorem t_X10_undone {g : fGP} {d : Nat} {σ : fAH} {Q : fRes → fAH → Prop} {x : fXS}  (Ms : fMs g σ) (ok : fOK x) (Ir : fIr σ x) (h : ∀ σ', fSm fRfA σ σ' → fIr σ' x → fI σ' 89 0 = nI 0 → Q (.inl (some (.int (nI (mfa (mal (xD x) (iS (xI x))) 12 (dT (xD x) 1) 0 0))))) σ') : fEv g (d + 4) mX10_undone 0 (fent [.ref 89] 1) [] σ Q := by
  have S9 : fSm (fun a => a = 89) σ (fsI σ 89 0 (nI 0)) := fSm_I rfl
  show fEv g (d + 4) mX10_undone 0 [some (.ref 89)] [] σ Q
  refine e_aload_n dX10_undone_0 rfl rfl ?_
  refine e_iconst (nI 0) dX10_undone_1 (by decide) ?_
  refine e_putI dX10_undone_2 fl_RX10_76 (Ms.s 89 rfl) (Ms.n (by decide)) rfl rfl ?_
  exact lp_X10_undone (Ms.sm S9) ok (Ir.f0 ok S9 (fun a (q : a = 89) => Or.inl (by omega)) (fun j hj => by simp only [List.mem_cons, List.not_mem_nil, or_false] at hj; rw [fI_I, if_neg (by omega)])) (by rw [fI_I, if_pos ⟨rfl, rfl⟩])  (fun σ' Sm' => h σ' ((S9.to (fun a (q : a = 89) => by unfold fRfA; omega)).tr Sm'))
set_option maxRecDepth 20000 in
theorem l_X10_odds {g : fGP} {d : Nat} {σ : fAH} {Q : fRes → fAH → Prop} {D : fSD} {S : Nat → Nat} {sd : Int32} {t k : Nat} (Ms : fMs g σ) (Mr : fMr σ D S sd) (hD : fWD D) (hW : fWS D S) (ht : t < 30) (hk : k ≤ 9) : ∀ (n i : Nat) (a : Nat), i + n = dT D 6 → Q (.inl (some (.int (nI (a + msf (mG9 D t k) n i))))) σ → fEv g (d) mX10_odds 45 [some (.ref 89), some (.int (nI t)), some (.int (nI k)), some (.int (nI a)), some (.int (nI i))] [] σ Q := by
  obtain ⟨t0, t1, t2, t3, t4, t5, t6⟩ := id hD.1
  intro n
  induction n with
  | zero =>
    intro i a hin  h
    refine e_iload dX10_odds_45 rfl ?_
    refine e_aload_n dX10_odds_47 rfl rfl ?_
    refine e_getR (q := 92) dX10_odds_48 fl_RX10_20 (Ms.s 89 rfl) (Ms.n (by decide)) rfl (Ms.r 89 10 rfl) (by unfold fscr; omega) ?_
    refine e_bipush (nI 6) dX10_odds_51 (by decide) ?_
    refine e_iaload 6 dX10_odds_53 (Ms.s 92 rfl) (Ms.n (by decide)) rfl (by omega) (by decide) ?_
    refine e_int (nI (dT D 6)) (Mr.t 6 (by omega)) ?_
    refine e_icmp_ge 105 dX10_odds_54 (by decide) (fun cz => ?_) (fun cz => absurd ((nI_le' (by omega) (by omega)).mpr (by omega)) cz)
    refine e_iload_n dX10_odds_105 rfl rfl ?_
    exact e_ireturn .int dX10_odds_106 rfl rfl h
  | succ n ih =>
    intro i a hin  h
    have hi : i < dT D 6 := by omega
    obtain ⟨z0, z1, z2, z3, z4⟩ := hD.2.2.2.2.1 i hi
    refine e_iload dX10_odds_45 rfl ?_
    refine e_aload_n dX10_odds_47 rfl rfl ?_
    refine e_getR (q := 92) dX10_odds_48 fl_RX10_20 (Ms.s 89 rfl) (Ms.n (by decide)) rfl (Ms.r 89 10 rfl) (by unfold fscr; omega) ?_
    refine e_bipush (nI 6) dX10_odds_51 (by decide) ?_
    refine e_iaload 6 dX10_odds_53 (Ms.s 92 rfl) (Ms.n (by decide)) rfl (by omega) (by decide) ?_
    refine e_int (nI (dT D 6)) (Mr.t 6 (by omega)) ?_
    refine e_icmp_ge 105 dX10_odds_54 (by decide) (fun cz => absurd ((nI_le' (by omega) (by omega)).mp cz) (by omega)) (fun cz => ?_)
    refine e_iload_n dX10_odds_57 rfl rfl ?_
    refine e_aload_n dX10_odds_58 rfl rfl ?_
    refine e_getR (q := 172) dX10_odds_59 fl_RX10_46 (Ms.s 89 rfl) (Ms.n (by decide)) rfl (Ms.r 89 18 rfl) (by unfold fscr; omega) ?_
    refine e_iload dX10_odds_62 rfl ?_
    refine e_aaload (q := 173 + i) i dX10_odds_64 (Ms.s 172 rfl) (by decide) (Ms.n (by decide)) rfl (by omega) (by decide) (Ms.r 172 _ (frf_odds _ (by omega))) (by unfold fscr; omega) ?_
    refine e_iconst (nI 0) dX10_odds_65 (by decide) ?_
    refine e_iaload 0 dX10_odds_66 (Ms.s _ (fsh_odds _ (by omega))) (Ms.n (by omega)) rfl (by omega) (by decide) ?_
    refine e_int (nI (dZ D i 0)) (Mr.odds i (by omega) 0 (by omega)) ?_
    refine e_iload_n dX10_odds_67 rfl rfl ?_
    refine e_icmp_ne 96 dX10_odds_68 (by decide) (fun c68 => ?_) (fun c68 => ?_)
    · rw [nI_inj (by omega) (by omega)] at c68
      refine e_iconst (nI 0) dX10_odds_96 (by decide) ?_
      refine e_iadd dX10_odds_97 ?_
      refine e_int (nI a) (nI_add a 0) ?_
      refine e_istore_n (L1 := [some (.ref 89), some (.int (nI t)), some (.int (nI k)), some (.int (nI a)), some (.int (nI i))]) dX10_odds_98 rfl (by decide) rfl ?_
      refine e_iinc (v := nI (i + 1)) (L1 := [some (.ref 89), some (.int (nI t)), some (.int (nI k)), some (.int (nI a)), some (.int (nI (i + 1)))]) dX10_odds_99 rfl (show nI i + Int32.ofInt 1 = nI (i + 1) from nI_add i 1) (by decide) rfl ?_
      refine e_goto 45 dX10_odds_102 (by decide) ?_
      refine ih (i + 1) (a) (by omega) ?_
      have e9 : a + msf (mG9 D t k) (n + 1) i = a + msf (mG9 D t k) n (i + 1) := by
        rw [show msf (mG9 D t k) (n + 1) i = mG9 D t k i + msf (mG9 D t k) n (i + 1) from rfl, show mG9 D t k i = 0 from if_neg (by omega)]; omega
      rw [e9] at h
      exact h
    · rw [nI_inj (by omega) (by omega)] at c68
      refine e_aload_n dX10_odds_71 rfl rfl ?_
      refine e_getR (q := 172) dX10_odds_72 fl_RX10_46 (Ms.s 89 rfl) (Ms.n (by decide)) rfl (Ms.r 89 18 rfl) (by unfold fscr; omega) ?_
      refine e_iload dX10_odds_75 rfl ?_
      refine e_aaload (q := 173 + i) i dX10_odds_77 (Ms.s 172 rfl) (by decide) (Ms.n (by decide)) rfl (by omega) (by decide) (Ms.r 172 _ (frf_odds _ (by omega))) (by unfold fscr; omega) ?_
      refine e_iconst (nI 1) dX10_odds_78 (by decide) ?_
      refine e_iaload 1 dX10_odds_79 (Ms.s _ (fsh_odds _ (by omega))) (Ms.n (by omega)) rfl (by omega) (by decide) ?_
      refine e_int (nI (dZ D i 1)) (Mr.odds i (by omega) 1 (by omega)) ?_
      refine e_iload_n dX10_odds_80 rfl rfl ?_
      refine e_icmp_lt 96 dX10_odds_81 (by decide) (fun c81 => ?_) (fun c81 => ?_)
      · rw [nI_lt' (by omega) (by omega)] at c81
        refine e_iconst (nI 0) dX10_odds_96 (by decide) ?_
        refine e_iadd dX10_odds_97 ?_
        refine e_int (nI a) (nI_add a 0) ?_
        refine e_istore_n (L1 := [some (.ref 89), some (.int (nI t)), some (.int (nI k)), some (.int (nI a)), some (.int (nI i))]) dX10_odds_98 rfl (by decide) rfl ?_
        refine e_iinc (v := nI (i + 1)) (L1 := [some (.ref 89), some (.int (nI t)), some (.int (nI k)), some (.int (nI a)), some (.int (nI (i + 1)))]) dX10_odds_99 rfl (show nI i + Int32.ofInt 1 = nI (i + 1) from nI_add i 1) (by decide) rfl ?_
        refine e_goto 45 dX10_odds_102 (by decide) ?_
        refine ih (i + 1) (a) (by omega) ?_
        have e9 : a + msf (mG9 D t k) (n + 1) i = a + msf (mG9 D t k) n (i + 1) := by
          rw [show msf (mG9 D t k) (n + 1) i = mG9 D t k i + msf (mG9 D t k) n (i + 1) from rfl, show mG9 D t k i = 0 from if_neg (by omega)]; omega
        rw [e9] at h
        exact h
      · rw [nI_lt' (by omega) (by omega)] at c81
        refine e_aload_n dX10_odds_84 rfl rfl ?_
        refine e_getR (q := 172) dX10_odds_85 fl_RX10_46 (Ms.s 89 rfl) (Ms.n (by decide)) rfl (Ms.r 89 18 rfl) (by unfold fscr; omega) ?_
        refine e_iload dX10_odds_88 rfl ?_
        refine e_aaload (q := 173 + i) i dX10_odds_90 (Ms.s 172 rfl) (by decide) (Ms.n (by decide)) rfl (by omega) (by decide) (Ms.r 172 _ (frf_odds _ (by omega))) (by unfold fscr; omega) ?_
        refine e_iconst (nI 2) dX10_odds_91 (by decide) ?_
        refine e_iaload 2 dX10_odds_92 (Ms.s _ (fsh_odds _ (by omega))) (Ms.n (by omega)) rfl (by omega) (by decide) ?_
        refine e_int (nI (dZ D i 2)) (Mr.odds i (by omega) 2 (by omega)) ?_
        refine e_goto 97 dX10_odds_93 (by decide) ?_
        refine e_iadd dX10_odds_97 ?_
        refine e_int (nI (a + dZ D i 2)) (nI_add a (dZ D i 2)) ?_
        refine e_istore_n (L1 := [some (.ref 89), some (.int (nI t)), some (.int (nI k)), some (.int (nI (a + dZ D i 2))), some (.int (nI i))]) dX10_odds_98 rfl (by decide) rfl ?_
        refine e_iinc (v := nI (i + 1)) (L1 := [some (.ref 89), some (.int (nI t)), some (.int (nI k)), some (.int (nI (a + dZ D i 2))), some (.int (nI (i + 1)))]) dX10_odds_99 rfl (show nI i + Int32.ofInt 1 = nI (i + 1) from nI_add i 1) (by decide) rfl ?_
        refine e_goto 45 dX10_odds_102 (by decide) ?_
        refine ih (i + 1) (a + dZ D i 2) (by omega) ?_
        have e9 : a + msf (mG9 D t k) (n + 1) i = a + dZ D i 2 + msf (mG9 D t k) n (i + 1) := by
          rw [show msf (mG9 D t k) (n + 1) i = mG9 D t k i + msf (mG9 D t k) n (i + 1) from rfl, show mG9 D t k i = dZ D i 2 from if_pos (by omega)]; omega
        rw [e9] at h
        exact h
set_option maxRecDepth 20000 in
theorem lp_X10_odds {g : fGP} {d : Nat} {σ : fAH} {Q : fRes → fAH → Prop} {x : fXS} {t k : Nat}  (Ms : fMs g σ) (ok : fOK x) (Ir : fIr σ x) (hz : fI σ 89 0 = nI 0) (ht : t < 30) (hk : 1 ≤ k ∧ k ≤ 9) (h : ∀ σ', fSm fRfA σ σ' → fIr σ' x → fI σ' 89 0 = nI 0 → Q (.inl (some (.int (nI (moc (xD x) t (10 - k) k 0))))) σ') : fEv g (d + 1) mX10_odds 5 [some (.ref 89), some (.int (nI t)), some (.int (nI k)), none, none] [] σ Q := by
  obtain ⟨D, ⟨S, T, sd, pn, P, rn, R⟩, B, tp, pl, im, Im⟩ := x
  have hD : fWD D := ok.1
  have hW : fWS D S := ok.2.1.1
  have hC : fWC D S := ok.2.1.2.1
  have hN : fWN S 0 0 := ok.2.1.2.2.1
  have Mr : fMr σ D S sd := Ir.1
  have Mt : fMt σ S T := Ir.2.1
  obtain ⟨t0, t1, t2, t3, t4, t5, t6⟩ := id hD.1
  have np := hW.n hD
  have n5 := hW.2.2.2.2
  have tp6 : tp ≤ 600 := ok.2.2.2.1
  have im3 : im ≤ 3 := ok.2.2.2.2.1
  have pn3 : pn ≤ 30 := ok.2.1.2.2.2.1
  have rn6 : rn ≤ 60 := ok.2.1.2.2.2.2.2.1
  have Rc : fRc σ (S, T, sd, pn, P, rn, R) := Ir.2.2.2.2.1
  have w52 := hW.1
  show fEv g (d + 1) mX10_odds 5 [some (.ref 89), some (.int (nI t)), some (.int (nI k)), none, none] [] σ Q
  refine e_aload_n dX10_odds_5 rfl rfl ?_
  refine e_iload_n dX10_odds_6 rfl rfl ?_
  refine e_iconst (nI 0) dX10_odds_7 (by decide) ?_
  refine e_bipush (nI 29) dX10_odds_8 (by decide) ?_
  refine e_callS [.int (nI t), .int (nI 0), .int (nI 29)] dX10_odds_10 cc_X10_in lk_RX10_110 st_X10_in in_RX10 rfl (Nat.le_of_ble_eq_true rfl) (Nat.le_of_ble_eq_true rfl) ?_
  refine t_X10_inT ⟨(nI_le' (by omega) (by omega)).mpr (by omega), (nI_le' (by omega) (by omega)).mpr (by omega)⟩ (fK_i ?_)
  show fEv g _ mX10_odds 13 [some (.ref 89), some (.int (nI t)), some (.int (nI k)), none, none] [.int (nI 1), .ref 89] σ Q
  refine e_if_eq 26 dX10_odds_13 (by decide) (fun c => absurd c (by decide)) (fun _ => ?_)
  refine e_iload_n dX10_odds_16 rfl rfl ?_
  refine e_iconst (nI 1) dX10_odds_17 (by decide) ?_
  refine e_bipush (nI 9) dX10_odds_18 (by decide) ?_
  refine e_callS [.int (nI k), .int (nI 1), .int (nI 9)] dX10_odds_20 cc_X10_in lk_RX10_110 st_X10_in in_RX10 rfl (Nat.le_of_ble_eq_true rfl) (Nat.le_of_ble_eq_true rfl) ?_
  refine t_X10_inT ⟨(nI_le' (by omega) (by omega)).mpr (by omega), (nI_le' (by omega) (by omega)).mpr (by omega)⟩ (fK_i ?_)
  show fEv g _ mX10_odds 23 [some (.ref 89), some (.int (nI t)), some (.int (nI k)), none, none] [.int (nI 1), .ref 89] σ Q
  refine e_if_ne 30 dX10_odds_23 (by decide) (fun _ => ?_) (fun c => absurd c (by decide))
  refine e_iconst (nI 0) dX10_odds_30 (by decide) ?_
  refine e_iconst (nI 1) dX10_odds_31 (by decide) ?_
  refine e_callV (k := 89) [.int (nI 0), .int (nI 1)] dX10_odds_32 cc_X10_bad lk_RX10_148 im_X10_bad se_X10_bad (by decide) (Ms.s 89 rfl) (Ms.n (by decide)) rfl (Nat.le_of_ble_eq_true rfl) (Nat.le_of_ble_eq_true rfl) ?_
  refine t_X10_bad0 Ms hz (by decide) (fK_i ?_)
  show fEv g _ mX10_odds 35 [some (.ref 89), some (.int (nI t)), some (.int (nI k)), none, none] [.int (nI 0)] σ Q
  refine e_if_eq 40 dX10_odds_35 (by decide) (fun _ => ?_) (fun c => absurd c (by decide))
  refine e_iconst (nI 0) dX10_odds_40 (by decide) ?_
  refine e_istore_n (L1 := [some (.ref 89), some (.int (nI t)), some (.int (nI k)), some (.int (nI 0)), none]) dX10_odds_41 rfl (by decide) rfl ?_
  refine e_iconst (nI 0) dX10_odds_42 (by decide) ?_
  refine e_istore (L1 := [some (.ref 89), some (.int (nI t)), some (.int (nI k)), some (.int (nI 0)), some (.int (nI 0))]) dX10_odds_43 (by decide) rfl ?_
  have h9 : Q (.inl (some (.int (nI (moc D t (10 - k) k 0))))) σ := h σ fSm.rfl' Ir hz
  rw [← moc_r hD hk.2] at h9
  exact l_X10_odds Ms Mr hD hW ht hk.2 (dT D 6) 0 0 (by omega) (by rw [Nat.zero_add]; exact h9)
set_option maxRecDepth 20000 in
theorem t_X10_odds {g : fGP} {d : Nat} {σ : fAH} {Q : fRes → fAH → Prop} {x : fXS} {t k : Nat}  (Ms : fMs g σ) (ok : fOK x) (Ir : fIr σ x) (ht : t < 30) (hk : 1 ≤ k ∧ k ≤ 9) (h : ∀ σ', fSm fRfA σ σ' → fIr σ' x → fI σ' 89 0 = nI 0 → Q (.inl (some (.int (nI (moc (xD x) t (10 - k) k 0))))) σ') : fEv g (d + 1) mX10_odds 0 (fent [.ref 89, .int (nI t), .int (nI k)] 5) [] σ Q := by
  have S9 : fSm (fun a => a = 89) σ (fsI σ 89 0 (nI 0)) := fSm_I rfl
  show fEv g (d + 1) mX10_odds 0 [some (.ref 89), some (.int (nI t)), some (.int (nI k)), none, none] [] σ Q
  refine e_aload_n dX10_odds_0 rfl rfl ?_
  refine e_iconst (nI 0) dX10_odds_1 (by decide) ?_
  refine e_putI dX10_odds_2 fl_RX10_76 (Ms.s 89 rfl) (Ms.n (by decide)) rfl rfl ?_
  exact lp_X10_odds (Ms.sm S9) ok (Ir.f0 ok S9 (fun a (q : a = 89) => Or.inl (by omega)) (fun j hj => by simp only [List.mem_cons, List.not_mem_nil, or_false] at hj; rw [fI_I, if_neg (by omega)])) (by rw [fI_I, if_pos ⟨rfl, rfl⟩]) ht hk (fun σ' Sm' => h σ' ((S9.to (fun a (q : a = 89) => by unfold fRfA; omega)).tr Sm'))
set_option maxRecDepth 20000 in
theorem lp_X10_oddsE1 {g : fGP} {d : Nat} {σ : fAH} {Q : fRes → fAH → Prop} {x : fXS} {a b : Int32}  (Ms : fMs g σ) (ok : fOK x) (Ir : fIr σ x) (hz : fI σ 89 0 = nI 0) (hv : ¬ (nI 0 ≤ a ∧ a ≤ nI 29)) (h : ∀ σ', fSm fRfA σ σ' → fIr σ' x → fI σ' 89 0 = nI 1 → Q (.inl (some (.int (nI 0)))) σ') : fEv g (d + 1) mX10_odds 5 [some (.ref 89), some (.int a), some (.int b), none, none] [] σ Q := by
  obtain ⟨D, ⟨S, T, sd, pn, P, rn, R⟩, B, tp, pl, im, Im⟩ := x
  have hD : fWD D := ok.1
  have hW : fWS D S := ok.2.1.1
  have hC : fWC D S := ok.2.1.2.1
  have hN : fWN S 0 0 := ok.2.1.2.2.1
  have Mr : fMr σ D S sd := Ir.1
  have Mt : fMt σ S T := Ir.2.1
  obtain ⟨t0, t1, t2, t3, t4, t5, t6⟩ := id hD.1
  have np := hW.n hD
  have n5 := hW.2.2.2.2
  have tp6 : tp ≤ 600 := ok.2.2.2.1
  have im3 : im ≤ 3 := ok.2.2.2.2.1
  have pn3 : pn ≤ 30 := ok.2.1.2.2.2.1
  have rn6 : rn ≤ 60 := ok.2.1.2.2.2.2.2.1
  have Rc : fRc σ (S, T, sd, pn, P, rn, R) := Ir.2.2.2.2.1
  have w52 := hW.1
  show fEv g (d + 1) mX10_odds 5 [some (.ref 89), some (.int a), some (.int b), none, none] [] σ Q
  refine e_aload_n dX10_odds_5 rfl rfl ?_
  refine e_iload_n dX10_odds_6 rfl rfl ?_
  refine e_iconst (nI 0) dX10_odds_7 (by decide) ?_
  refine e_bipush (nI 29) dX10_odds_8 (by decide) ?_
  refine e_callS [.int a, .int (nI 0), .int (nI 29)] dX10_odds_10 cc_X10_in lk_RX10_110 st_X10_in in_RX10 rfl (Nat.le_of_ble_eq_true rfl) (Nat.le_of_ble_eq_true rfl) ?_
  refine t_X10_inF hv (fK_i ?_)
  show fEv g _ mX10_odds 13 [some (.ref 89), some (.int a), some (.int b), none, none] [.int (nI 0), .ref 89] σ Q
  refine e_if_eq 26 dX10_odds_13 (by decide) (fun _ => ?_) (fun c => absurd c (by decide))
  refine e_iconst (nI 1) dX10_odds_26 (by decide) ?_
  refine e_goto 31 dX10_odds_27 (by decide) ?_
  refine e_iconst (nI 1) dX10_odds_31 (by decide) ?_
  refine e_callV (k := 89) [.int (nI 1), .int (nI 1)] dX10_odds_32 cc_X10_bad lk_RX10_148 im_X10_bad se_X10_bad (by decide) (Ms.s 89 rfl) (Ms.n (by decide)) rfl (Nat.le_of_ble_eq_true rfl) (Nat.le_of_ble_eq_true rfl) ?_
  refine t_X10_bad1 Ms hz (by decide) (fK_i ?_)
  show fEv g _ mX10_odds 35 [some (.ref 89), some (.int a), some (.int b), none, none] [.int (nI 1)] (fsI σ 89 0 (nI 1)) Q
  refine e_if_eq 40 dX10_odds_35 (by decide) (fun c => absurd c (by decide)) (fun _ => ?_)
  refine e_iconst (nI 0) dX10_odds_38 (by decide) ?_
  exact e_ireturn .int dX10_odds_39 rfl rfl (h _ (fSm_I (by unfold fRfA; omega)) (Ir.f0 ok (A := fun a => a = 89) (fSm_I rfl) (fun a (q : a = 89) => Or.inl (by omega)) (fun j hj => by simp only [List.mem_cons, List.not_mem_nil, or_false] at hj; rw [fI_I, if_neg (by omega)])) (by rw [fI_I, if_pos ⟨rfl, rfl⟩]))
set_option maxRecDepth 20000 in
theorem t_X10_oddsE1 {g : fGP} {d : Nat} {σ : fAH} {Q : fRes → fAH → Prop} {x : fXS} {a b : Int32}  (Ms : fMs g σ) (ok : fOK x) (Ir : fIr σ x) (hv : ¬ (nI 0 ≤ a ∧ a ≤ nI 29)) (h : ∀ σ', fSm fRfA σ σ' → fIr σ' x → fI σ' 89 0 = nI 1 → Q (.inl (some (.int (nI 0)))) σ') : fEv g (d + 1) mX10_odds 0 (fent [.ref 89, .int a, .int b] 5) [] σ Q := by
  have S9 : fSm (fun a => a = 89) σ (fsI σ 89 0 (nI 0)) := fSm_I rfl
  show fEv g (d + 1) mX10_odds 0 [some (.ref 89), some (.int a), some (.int b), none, none] [] σ Q
  refine e_aload_n dX10_odds_0 rfl rfl ?_
  refine e_iconst (nI 0) dX10_odds_1 (by decide) ?_
  refine e_putI dX10_odds_2 fl_RX10_76 (Ms.s 89 rfl) (Ms.n (by decide)) rfl rfl ?_
  exact lp_X10_oddsE1 (Ms.sm S9) ok (Ir.f0 ok S9 (fun a (q : a = 89) => Or.inl (by omega)) (fun j hj => by simp only [List.mem_cons, List.not_mem_nil, or_false] at hj; rw [fI_I, if_neg (by omega)])) (by rw [fI_I, if_pos ⟨rfl, rfl⟩]) hv (fun σ' Sm' => h σ' ((S9.to (fun a (q : a = 89) => by unfold fRfA; omega)).tr Sm'))
set_option maxRecDepth 20000 in
theorem lp_X10_oddsE2 {g : fGP} {d : Nat} {σ : fAH} {Q : fRes → fAH → Prop} {x : fXS} {t : Nat} {b : Int32}  (Ms : fMs g σ) (ok : fOK x) (Ir : fIr σ x) (hz : fI σ 89 0 = nI 0) (ht : t < 30) (hv : ¬ (nI 1 ≤ b ∧ b ≤ nI 9)) (h : ∀ σ', fSm fRfA σ σ' → fIr σ' x → fI σ' 89 0 = nI 1 → Q (.inl (some (.int (nI 0)))) σ') : fEv g (d + 1) mX10_odds 5 [some (.ref 89), some (.int (nI t)), some (.int b), none, none] [] σ Q := by
  obtain ⟨D, ⟨S, T, sd, pn, P, rn, R⟩, B, tp, pl, im, Im⟩ := x
  have hD : fWD D := ok.1
  have hW : fWS D S := ok.2.1.1
  have hC : fWC D S := ok.2.1.2.1
  have hN : fWN S 0 0 := ok.2.1.2.2.1
  have Mr : fMr σ D S sd := Ir.1
  have Mt : fMt σ S T := Ir.2.1
  obtain ⟨t0, t1, t2, t3, t4, t5, t6⟩ := id hD.1
  have np := hW.n hD
  have n5 := hW.2.2.2.2
  have tp6 : tp ≤ 600 := ok.2.2.2.1
  have im3 : im ≤ 3 := ok.2.2.2.2.1
  have pn3 : pn ≤ 30 := ok.2.1.2.2.2.1
  have rn6 : rn ≤ 60 := ok.2.1.2.2.2.2.2.1
  have Rc : fRc σ (S, T, sd, pn, P, rn, R) := Ir.2.2.2.2.1
  have w52 := hW.1
  show fEv g (d + 1) mX10_odds 5 [some (.ref 89), some (.int (nI t)), some (.int b), none, none] [] σ Q
  refine e_aload_n dX10_odds_5 rfl rfl ?_
  refine e_iload_n dX10_odds_6 rfl rfl ?_
  refine e_iconst (nI 0) dX10_odds_7 (by decide) ?_
  refine e_bipush (nI 29) dX10_odds_8 (by decide) ?_
  refine e_callS [.int (nI t), .int (nI 0), .int (nI 29)] dX10_odds_10 cc_X10_in lk_RX10_110 st_X10_in in_RX10 rfl (Nat.le_of_ble_eq_true rfl) (Nat.le_of_ble_eq_true rfl) ?_
  refine t_X10_inT ⟨(nI_le' (by omega) (by omega)).mpr (by omega), (nI_le' (by omega) (by omega)).mpr (by omega)⟩ (fK_i ?_)
  show fEv g _ mX10_odds 13 [some (.ref 89), some (.int (nI t)), some (.int b), none, none] [.int (nI 1), .ref 89] σ Q
  refine e_if_eq 26 dX10_odds_13 (by decide) (fun c => absurd c (by decide)) (fun _ => ?_)
  refine e_iload_n dX10_odds_16 rfl rfl ?_
  refine e_iconst (nI 1) dX10_odds_17 (by decide) ?_
  refine e_bipush (nI 9) dX10_odds_18 (by decide) ?_
  refine e_callS [.int b, .int (nI 1), .int (nI 9)] dX10_odds_20 cc_X10_in lk_RX10_110 st_X10_in in_RX10 rfl (Nat.le_of_ble_eq_true rfl) (Nat.le_of_ble_eq_true rfl) ?_
  refine t_X10_inF hv (fK_i ?_)
  show fEv g _ mX10_odds 23 [some (.ref 89), some (.int (nI t)), some (.int b), none, none] [.int (nI 0), .ref 89] σ Q
  refine e_if_ne 30 dX10_odds_23 (by decide) (fun c => absurd c (by decide)) (fun _ => ?_)
  refine e_iconst (nI 1) dX10_odds_26 (by decide) ?_
  refine e_goto 31 dX10_odds_27 (by decide) ?_
  refine e_iconst (nI 1) dX10_odds_31 (by decide) ?_
  refine e_callV (k := 89) [.int (nI 1), .int (nI 1)] dX10_odds_32 cc_X10_bad lk_RX10_148 im_X10_bad se_X10_bad (by decide) (Ms.s 89 rfl) (Ms.n (by decide)) rfl (Nat.le_of_ble_eq_true rfl) (Nat.le_of_ble_eq_true rfl) ?_
  refine t_X10_bad1 Ms hz (by decide) (fK_i ?_)
  show fEv g _ mX10_odds 35 [some (.ref 89), some (.int (nI t)), some (.int b), none, none] [.int (nI 1)] (fsI σ 89 0 (nI 1)) Q
  refine e_if_eq 40 dX10_odds_35 (by decide) (fun c => absurd c (by decide)) (fun _ => ?_)
  refine e_iconst (nI 0) dX10_odds_38 (by decide) ?_
  exact e_ireturn .int dX10_odds_39 rfl rfl (h _ (fSm_I (by unfold fRfA; omega)) (Ir.f0 ok (A := fun a => a = 89) (fSm_I rfl) (fun a (q : a = 89) => Or.inl (by omega)) (fun j hj => by simp only [List.mem_cons, List.not_mem_nil, or_false] at hj; rw [fI_I, if_neg (by omega)])) (by rw [fI_I, if_pos ⟨rfl, rfl⟩]))
set_option maxRecDepth 20000 in
theorem t_X10_oddsE2 {g : fGP} {d : Nat} {σ : fAH} {Q : fRes → fAH → Prop} {x : fXS} {t : Nat} {b : Int32}  (Ms : fMs g σ) (ok : fOK x) (Ir : fIr σ x) (ht : t < 30) (hv : ¬ (nI 1 ≤ b ∧ b ≤ nI 9)) (h : ∀ σ', fSm fRfA σ σ' → fIr σ' x → fI σ' 89 0 = nI 1 → Q (.inl (some (.int (nI 0)))) σ') : fEv g (d + 1) mX10_odds 0 (fent [.ref 89, .int (nI t), .int b] 5) [] σ Q := by
  have S9 : fSm (fun a => a = 89) σ (fsI σ 89 0 (nI 0)) := fSm_I rfl
  show fEv g (d + 1) mX10_odds 0 [some (.ref 89), some (.int (nI t)), some (.int b), none, none] [] σ Q
  refine e_aload_n dX10_odds_0 rfl rfl ?_
  refine e_iconst (nI 0) dX10_odds_1 (by decide) ?_
  refine e_putI dX10_odds_2 fl_RX10_76 (Ms.s 89 rfl) (Ms.n (by decide)) rfl rfl ?_
  exact lp_X10_oddsE2 (Ms.sm S9) ok (Ir.f0 ok S9 (fun a (q : a = 89) => Or.inl (by omega)) (fun j hj => by simp only [List.mem_cons, List.not_mem_nil, or_false] at hj; rw [fI_I, if_neg (by omega)])) (by rw [fI_I, if_pos ⟨rfl, rfl⟩]) ht hv (fun σ' Sm' => h σ' ((S9.to (fun a (q : a = 89) => by unfold fRfA; omega)).tr Sm'))
set_option maxRecDepth 20000 in
theorem l_X10_sums {g : fGP} {d : Nat} {σ : fAH} {Q : fRes → fAH → Prop} {D : fSD} {S : Nat → Nat} {sd : Int32} {w : Nat} (Ms : fMs g σ) (Mr : fMr σ D S sd) (hD : fWD D) (hW : fWS D S) : ∀ (n p : Nat) (a : Nat) (b : Nat) (c : Nat), p + n = S 120 → fEv g (d + 3) mX10_sums 162 [some (.ref 89), some (.int (nI w)), some (.int (nI (a + msf (mstn S true) n p))), some (.int (nI (b + msf (mstn S false) n p))), some (.int (nI (c + mct (muw D S) n p))), some (.int (nI (S 120)))] [] σ Q → fEv g (d + 3) mX10_sums 40 [some (.ref 89), some (.int (nI w)), some (.int (nI a)), some (.int (nI b)), some (.int (nI c)), some (.int (nI p))] [] σ Q := by
  obtain ⟨t0, t1, t2, t3, t4, t5, t6⟩ := id hD.1
  have np := hW.n hD
  intro n
  induction n with
  | zero =>
    intro p a b c hin  h
    refine e_iload dX10_sums_40 rfl ?_
    refine e_aload_n dX10_sums_42 rfl rfl ?_
    refine e_getR (q := 197) dX10_sums_43 fl_RX10_49 (Ms.s 89 rfl) (Ms.n (by decide)) rfl (Ms.r 89 19 rfl) (by unfold fscr; omega) ?_
    refine e_bipush (nI 120) dX10_sums_46 (by decide) ?_
    refine e_iaload 120 dX10_sums_48 (Ms.s 197 rfl) (Ms.n (by decide)) rfl (by omega) (by decide) ?_
    refine e_int (nI (S 120)) (Mr.s 120 (by omega)) ?_
    refine e_icmp_ge 162 dX10_sums_49 (by decide) (fun cz => ?_) (fun cz => absurd ((nI_le' (by omega) (by omega)).mpr (by omega)) cz)
    rw [show p = S 120 by omega]
    rw [show p = S 120 by omega] at h
    exact h
  | succ n ih =>
    intro p a b c hin  h
    have hi : p < S 120 := by omega
    have hp : p < S 120 := hi
    obtain ⟨p0, p1, p2, p3, p4, p5⟩ := hW.2.1 p hp
    have x1 : mwd S p ≤ 12 ∧ mhg S p ≤ 12 := by unfold mwd mhg; omega
    refine e_iload dX10_sums_40 rfl ?_
    refine e_aload_n dX10_sums_42 rfl rfl ?_
    refine e_getR (q := 197) dX10_sums_43 fl_RX10_49 (Ms.s 89 rfl) (Ms.n (by decide)) rfl (Ms.r 89 19 rfl) (by unfold fscr; omega) ?_
    refine e_bipush (nI 120) dX10_sums_46 (by decide) ?_
    refine e_iaload 120 dX10_sums_48 (Ms.s 197 rfl) (Ms.n (by decide)) rfl (by omega) (by decide) ?_
    refine e_int (nI (S 120)) (Mr.s 120 (by omega)) ?_
    refine e_icmp_ge 162 dX10_sums_49 (by decide) (fun cz => absurd ((nI_le' (by omega) (by omega)).mp cz) (by omega)) (fun cz => ?_)
    refine e_aload_n dX10_sums_52 rfl rfl ?_
    refine e_getR (q := 197) dX10_sums_53 fl_RX10_49 (Ms.s 89 rfl) (Ms.n (by decide)) rfl (Ms.r 89 19 rfl) (by unfold fscr; omega) ?_
    refine e_bipush (nI 6) dX10_sums_56 (by decide) ?_
    refine e_iload dX10_sums_58 rfl ?_
    refine e_imul dX10_sums_60 ?_
    refine e_int (nI (p * 6)) ((pk_mul 6 p).trans (by rw [Nat.mul_comm])) ?_
    refine e_iconst (nI 5) dX10_sums_61 (by decide) ?_
    refine e_iadd dX10_sums_62 ?_
    refine e_int (nI (p * 6 + 5)) (nI_add (p * 6) 5) ?_
    refine e_iaload (p * 6 + 5) dX10_sums_63 (Ms.s 197 rfl) (Ms.n (by decide)) rfl (by omega) (by decide) ?_
    refine e_int (nI (S (p * 6 + 5))) (Mr.s (p * 6 + 5) (by omega)) ?_
    refine e_if_ne 79 dX10_sums_64 (by decide) (fun c64 => ?_) (fun c64 => ?_)
    · rw [nI_z (by omega)] at c64
      refine e_iload_n dX10_sums_79 rfl rfl ?_
      refine e_aload_n dX10_sums_80 rfl rfl ?_
      refine e_iload dX10_sums_81 rfl ?_
      refine e_callV (k := 89) [.int (nI p)] dX10_sums_83 cc_X10_area lk_RX10_237 im_X10_area se_X10_area (by decide) (Ms.s 89 rfl) (Ms.n (by decide)) rfl (Nat.le_of_ble_eq_true rfl) (Nat.le_of_ble_eq_true rfl) ?_
      refine t_X10_area Ms Mr hD hW (by omega) (fK_i ?_)
      show fEv g _ mX10_sums 86 [some (.ref 89), some (.int (nI w)), some (.int (nI a)), some (.int (nI b)), some (.int (nI c)), some (.int (nI p))] [.int (nI (mwd S p * mhg S p)), .int (nI a)] σ Q
      refine e_iadd dX10_sums_86 ?_
      refine e_int (nI (a + mwd S p * mhg S p)) (nI_add a (mwd S p * mhg S p)) ?_
      refine e_istore_n (L1 := [some (.ref 89), some (.int (nI w)), some (.int (nI (a + mwd S p * mhg S p))), some (.int (nI b)), some (.int (nI c)), some (.int (nI p))]) dX10_sums_87 rfl (by decide) rfl ?_
      refine e_iload dX10_sums_88 rfl ?_
      refine e_aload_n dX10_sums_90 rfl rfl ?_
      refine e_aload_n dX10_sums_91 rfl rfl ?_
      refine e_getR (q := 197) dX10_sums_92 fl_RX10_49 (Ms.s 89 rfl) (Ms.n (by decide)) rfl (Ms.r 89 19 rfl) (by unfold fscr; omega) ?_
      refine e_bipush (nI 6) dX10_sums_95 (by decide) ?_
      refine e_iload dX10_sums_97 rfl ?_
      refine e_imul dX10_sums_99 ?_
      refine e_int (nI (p * 6)) ((pk_mul 6 p).trans (by rw [Nat.mul_comm])) ?_
      refine e_iconst (nI 2) dX10_sums_100 (by decide) ?_
      refine e_iadd dX10_sums_101 ?_
      refine e_int (nI (p * 6 + 2)) (nI_add (p * 6) 2) ?_
      refine e_iaload (p * 6 + 2) dX10_sums_102 (Ms.s 197 rfl) (Ms.n (by decide)) rfl (by omega) (by decide) ?_
      refine e_int (nI (S (p * 6 + 2))) (Mr.s (p * 6 + 2) (by omega)) ?_
      refine e_aload_n dX10_sums_103 rfl rfl ?_
      refine e_getR (q := 197) dX10_sums_104 fl_RX10_49 (Ms.s 89 rfl) (Ms.n (by decide)) rfl (Ms.r 89 19 rfl) (by unfold fscr; omega) ?_
      refine e_bipush (nI 6) dX10_sums_107 (by decide) ?_
      refine e_iload dX10_sums_109 rfl ?_
      refine e_imul dX10_sums_111 ?_
      refine e_int (nI (p * 6)) ((pk_mul 6 p).trans (by rw [Nat.mul_comm])) ?_
      refine e_iconst (nI 1) dX10_sums_112 (by decide) ?_
      refine e_iadd dX10_sums_113 ?_
      refine e_int (nI (p * 6 + 1)) (nI_add (p * 6) 1) ?_
      refine e_iaload (p * 6 + 1) dX10_sums_114 (Ms.s 197 rfl) (Ms.n (by decide)) rfl (by omega) (by decide) ?_
      refine e_int (nI (S (p * 6 + 1))) (Mr.s (p * 6 + 1) (by omega)) ?_
      refine e_isub dX10_sums_115 ?_
      refine e_int (nI (mwd S p)) (pk_sub (by omega)) ?_
      refine e_aload_n dX10_sums_116 rfl rfl ?_
      refine e_getR (q := 197) dX10_sums_117 fl_RX10_49 (Ms.s 89 rfl) (Ms.n (by decide)) rfl (Ms.r 89 19 rfl) (by unfold fscr; omega) ?_
      refine e_bipush (nI 6) dX10_sums_120 (by decide) ?_
      refine e_iload dX10_sums_122 rfl ?_
      refine e_imul dX10_sums_124 ?_
      refine e_int (nI (p * 6)) ((pk_mul 6 p).trans (by rw [Nat.mul_comm])) ?_
      refine e_iconst (nI 4) dX10_sums_125 (by decide) ?_
      refine e_iadd dX10_sums_126 ?_
      refine e_int (nI (p * 6 + 4)) (nI_add (p * 6) 4) ?_
      refine e_iaload (p * 6 + 4) dX10_sums_127 (Ms.s 197 rfl) (Ms.n (by decide)) rfl (by omega) (by decide) ?_
      refine e_int (nI (S (p * 6 + 4))) (Mr.s (p * 6 + 4) (by omega)) ?_
      refine e_aload_n dX10_sums_128 rfl rfl ?_
      refine e_getR (q := 197) dX10_sums_129 fl_RX10_49 (Ms.s 89 rfl) (Ms.n (by decide)) rfl (Ms.r 89 19 rfl) (by unfold fscr; omega) ?_
      refine e_bipush (nI 6) dX10_sums_132 (by decide) ?_
      refine e_iload dX10_sums_134 rfl ?_
      refine e_imul dX10_sums_136 ?_
      refine e_int (nI (p * 6)) ((pk_mul 6 p).trans (by rw [Nat.mul_comm])) ?_
      refine e_iconst (nI 3) dX10_sums_137 (by decide) ?_
      refine e_iadd dX10_sums_138 ?_
      refine e_int (nI (p * 6 + 3)) (nI_add (p * 6) 3) ?_
      refine e_iaload (p * 6 + 3) dX10_sums_139 (Ms.s 197 rfl) (Ms.n (by decide)) rfl (by omega) (by decide) ?_
      refine e_int (nI (S (p * 6 + 3))) (Mr.s (p * 6 + 3) (by omega)) ?_
      refine e_isub dX10_sums_140 ?_
      refine e_int (nI (mhg S p)) (pk_sub (by omega)) ?_
      refine e_callV (k := 89) [.int (nI (mwd S p)), .int (nI (mhg S p))] dX10_sums_141 cc_X10_orderOf lk_RX10_240 im_X10_orderOf se_X10_orderOf (by decide) (Ms.s 89 rfl) (Ms.n (by decide)) rfl (Nat.le_of_ble_eq_true rfl) (Nat.le_of_ble_eq_true rfl) ?_
      refine t_X10_orderOf Ms Mr hD hW (by omega) (by omega) (fK_i ?_)
      show fEv g _ mX10_sums 144 [some (.ref 89), some (.int (nI w)), some (.int (nI (a + mwd S p * mhg S p))), some (.int (nI b)), some (.int (nI c)), some (.int (nI p))] [.int (mo (mof D (mwd S p) (mhg S p))), .int (nI c)] σ Q
      refine e_iconst (-1) dX10_sums_144 (by decide) ?_
      refine e_icmp_ne 152 dX10_sums_145 (by decide) (fun c145 => ?_) (fun c145 => ?_)
      · refine e_iconst (nI 0) dX10_sums_152 (by decide) ?_
        refine e_iadd dX10_sums_153 ?_
        refine e_int (nI c) (nI_add c 0) ?_
        refine e_istore (L1 := [some (.ref 89), some (.int (nI w)), some (.int (nI (a + mwd S p * mhg S p))), some (.int (nI b)), some (.int (nI c)), some (.int (nI p))]) dX10_sums_154 (by decide) rfl ?_
        refine e_iinc (v := nI (p + 1)) (L1 := [some (.ref 89), some (.int (nI w)), some (.int (nI (a + mwd S p * mhg S p))), some (.int (nI b)), some (.int (nI c)), some (.int (nI (p + 1)))]) dX10_sums_156 rfl (show nI p + Int32.ofInt 1 = nI (p + 1) from nI_add p 1) (by decide) rfl ?_
        refine e_goto 40 dX10_sums_159 (by decide) ?_
        refine ih (p + 1) (a + mwd S p * mhg S p) (b) (c) (by omega) ?_
        have e1 : mstn S true p = mwd S p * mhg S p := if_pos (decide_eq_true (by omega))
        have e2 : mstn S false p = 0 := if_neg (fun q => by have := of_decide_eq_false q; omega)
        have e3 : muw D S p = false := by unfold muw; rw [decide_eq_true (by omega)]; cases q9 : mof D (mwd S p) (mhg S p) with
          | none => rw [q9] at c145; exact absurd rfl c145
          | some o => rfl
        rw [show msf (mstn S true) (n + 1) p = mstn S true p + msf (mstn S true) n (p + 1) from rfl, show msf (mstn S false) (n + 1) p = mstn S false p + msf (mstn S false) n (p + 1) from rfl, show mct (muw D S) (n + 1) p = bn (muw D S p) + mct (muw D S) n (p + 1) from rfl, e1, e2, e3, ← Nat.add_assoc, ← Nat.add_assoc, ← Nat.add_assoc] at h
        exact h
      · refine e_iconst (nI 1) dX10_sums_148 (by decide) ?_
        refine e_goto 153 dX10_sums_149 (by decide) ?_
        refine e_iadd dX10_sums_153 ?_
        refine e_int (nI (c + 1)) (nI_add c 1) ?_
        refine e_istore (L1 := [some (.ref 89), some (.int (nI w)), some (.int (nI (a + mwd S p * mhg S p))), some (.int (nI b)), some (.int (nI (c + 1))), some (.int (nI p))]) dX10_sums_154 (by decide) rfl ?_
        refine e_iinc (v := nI (p + 1)) (L1 := [some (.ref 89), some (.int (nI w)), some (.int (nI (a + mwd S p * mhg S p))), some (.int (nI b)), some (.int (nI (c + 1))), some (.int (nI (p + 1)))]) dX10_sums_156 rfl (show nI p + Int32.ofInt 1 = nI (p + 1) from nI_add p 1) (by decide) rfl ?_
        refine e_goto 40 dX10_sums_159 (by decide) ?_
        refine ih (p + 1) (a + mwd S p * mhg S p) (b) (c + 1) (by omega) ?_
        have e1 : mstn S true p = mwd S p * mhg S p := if_pos (decide_eq_true (by omega))
        have e2 : mstn S false p = 0 := if_neg (fun q => by have := of_decide_eq_false q; omega)
        have e3 : muw D S p = true := by unfold muw; rw [decide_eq_true (by omega)]; cases q9 : mof D (mwd S p) (mhg S p) with
          | none => rfl
          | some o => rw [q9] at c145; exact absurd c145 (nI_m1 (by have := (mfd_lt q9).2.1; omega))
        rw [show msf (mstn S true) (n + 1) p = mstn S true p + msf (mstn S true) n (p + 1) from rfl, show msf (mstn S false) (n + 1) p = mstn S false p + msf (mstn S false) n (p + 1) from rfl, show mct (muw D S) (n + 1) p = bn (muw D S p) + mct (muw D S) n (p + 1) from rfl, e1, e2, e3, ← Nat.add_assoc, ← Nat.add_assoc, ← Nat.add_assoc] at h
        exact h
    · rw [nI_z (by omega)] at c64
      refine e_iload_n dX10_sums_67 rfl rfl ?_
      refine e_aload_n dX10_sums_68 rfl rfl ?_
      refine e_iload dX10_sums_69 rfl ?_
      refine e_callV (k := 89) [.int (nI p)] dX10_sums_71 cc_X10_area lk_RX10_237 im_X10_area se_X10_area (by decide) (Ms.s 89 rfl) (Ms.n (by decide)) rfl (Nat.le_of_ble_eq_true rfl) (Nat.le_of_ble_eq_true rfl) ?_
      refine t_X10_area Ms Mr hD hW (by omega) (fK_i ?_)
      show fEv g _ mX10_sums 74 [some (.ref 89), some (.int (nI w)), some (.int (nI a)), some (.int (nI b)), some (.int (nI c)), some (.int (nI p))] [.int (nI (mwd S p * mhg S p)), .int (nI b)] σ Q
      refine e_iadd dX10_sums_74 ?_
      refine e_int (nI (b + mwd S p * mhg S p)) (nI_add b (mwd S p * mhg S p)) ?_
      refine e_istore_n (L1 := [some (.ref 89), some (.int (nI w)), some (.int (nI a)), some (.int (nI (b + mwd S p * mhg S p))), some (.int (nI c)), some (.int (nI p))]) dX10_sums_75 rfl (by decide) rfl ?_
      refine e_goto 156 dX10_sums_76 (by decide) ?_
      refine e_iinc (v := nI (p + 1)) (L1 := [some (.ref 89), some (.int (nI w)), some (.int (nI a)), some (.int (nI (b + mwd S p * mhg S p))), some (.int (nI c)), some (.int (nI (p + 1)))]) dX10_sums_156 rfl (show nI p + Int32.ofInt 1 = nI (p + 1) from nI_add p 1) (by decide) rfl ?_
      refine e_goto 40 dX10_sums_159 (by decide) ?_
      refine ih (p + 1) (a) (b + mwd S p * mhg S p) (c) (by omega) ?_
      have e1 : mstn S true p = 0 := if_neg (fun q => by have := of_decide_eq_true q; omega)
      have e2 : mstn S false p = mwd S p * mhg S p := if_pos (decide_eq_false (by omega))
      have e3 : muw D S p = false := by unfold muw; rw [decide_eq_false (by omega)]; rfl
      rw [show msf (mstn S true) (n + 1) p = mstn S true p + msf (mstn S true) n (p + 1) from rfl, show msf (mstn S false) (n + 1) p = mstn S false p + msf (mstn S false) n (p + 1) from rfl, show mct (muw D S) (n + 1) p = bn (muw D S p) + mct (muw D S) n (p + 1) from rfl, e1, e2, e3, ← Nat.add_assoc, ← Nat.add_assoc, ← Nat.add_assoc] at h
      exact h
set_option maxRecDepth 20000 in
theorem lp_X10_sums {g : fGP} {d : Nat} {σ : fAH} {Q : fRes → fAH → Prop} {x : fXS} {w : Nat}  (Ms : fMs g σ) (ok : fOK x) (Ir : fIr σ x) (hz : fI σ 89 0 = nI 0) (hw : w < 8) (h : ∀ σ', fSm fRfA σ σ' → fIr σ' x → fI σ' 89 0 = nI 0 → Q (.inl (some (.int (vSum (xD x) (iS (xI x)) w)))) σ') : fEv g (d + 3) mX10_sums 5 [some (.ref 89), some (.int (nI w)), none, none, none, none] [] σ Q := by
  obtain ⟨D, ⟨S, T, sd, pn, P, rn, R⟩, B, tp, pl, im, Im⟩ := x
  have hD : fWD D := ok.1
  have hW : fWS D S := ok.2.1.1
  have hC : fWC D S := ok.2.1.2.1
  have hN : fWN S 0 0 := ok.2.1.2.2.1
  have Mr : fMr σ D S sd := Ir.1
  have Mt : fMt σ S T := Ir.2.1
  obtain ⟨t0, t1, t2, t3, t4, t5, t6⟩ := id hD.1
  have np := hW.n hD
  have n5 := hW.2.2.2.2
  have tp6 : tp ≤ 600 := ok.2.2.2.1
  have im3 : im ≤ 3 := ok.2.2.2.2.1
  have pn3 : pn ≤ 30 := ok.2.1.2.2.2.1
  have rn6 : rn ≤ 60 := ok.2.1.2.2.2.2.2.1
  have Rc : fRc σ (S, T, sd, pn, P, rn, R) := Ir.2.2.2.2.1
  have w52 := hW.1
  rcases (show w = 0 ∨ w = 1 ∨ w = 2 ∨ w = 3 ∨ w = 4 ∨ w = 5 ∨ w = 6 ∨ w = 7 by omega) with rfl | rfl | rfl | rfl | rfl | rfl | rfl | rfl
  · show fEv g (d + 3) mX10_sums 5 [some (.ref 89), some (.int (nI 0)), none, none, none, none] [] σ Q
    refine e_aload_n dX10_sums_5 rfl rfl ?_
    refine e_iload_n dX10_sums_6 rfl rfl ?_
    refine e_iconst (nI 0) dX10_sums_7 (by decide) ?_
    refine e_bipush (nI 7) dX10_sums_8 (by decide) ?_
    refine e_callS [.int (nI 0), .int (nI 0), .int (nI 7)] dX10_sums_10 cc_X10_in lk_RX10_110 st_X10_in in_RX10 rfl (Nat.le_of_ble_eq_true rfl) (Nat.le_of_ble_eq_true rfl) ?_
    refine t_X10_inT ⟨(nI_le' (by omega) (by omega)).mpr (by omega), (nI_le' (by omega) (by omega)).mpr (by omega)⟩ (fK_i ?_)
    show fEv g _ mX10_sums 13 [some (.ref 89), some (.int (nI 0)), none, none, none, none] [.int (nI 1), .ref 89] σ Q
    refine e_if_ne 20 dX10_sums_13 (by decide) (fun _ => ?_) (fun c => absurd c (by decide))
    refine e_iconst (nI 0) dX10_sums_20 (by decide) ?_
    refine e_iconst (nI 1) dX10_sums_21 (by decide) ?_
    refine e_callV (k := 89) [.int (nI 0), .int (nI 1)] dX10_sums_22 cc_X10_bad lk_RX10_148 im_X10_bad se_X10_bad (by decide) (Ms.s 89 rfl) (Ms.n (by decide)) rfl (Nat.le_of_ble_eq_true rfl) (Nat.le_of_ble_eq_true rfl) ?_
    refine t_X10_bad0 Ms hz (by decide) (fK_i ?_)
    show fEv g _ mX10_sums 25 [some (.ref 89), some (.int (nI 0)), none, none, none, none] [.int (nI 0)] σ Q
    refine e_if_eq 30 dX10_sums_25 (by decide) (fun _ => ?_) (fun c => absurd c (by decide))
    refine e_iconst (nI 0) dX10_sums_30 (by decide) ?_
    refine e_istore_n (L1 := [some (.ref 89), some (.int (nI 0)), some (.int (nI 0)), none, none, none]) dX10_sums_31 rfl (by decide) rfl ?_
    refine e_iconst (nI 0) dX10_sums_32 (by decide) ?_
    refine e_istore_n (L1 := [some (.ref 89), some (.int (nI 0)), some (.int (nI 0)), some (.int (nI 0)), none, none]) dX10_sums_33 rfl (by decide) rfl ?_
    refine e_iconst (nI 0) dX10_sums_34 (by decide) ?_
    refine e_istore (L1 := [some (.ref 89), some (.int (nI 0)), some (.int (nI 0)), some (.int (nI 0)), some (.int (nI 0)), none]) dX10_sums_35 (by decide) rfl ?_
    refine e_iconst (nI 0) dX10_sums_37 (by decide) ?_
    refine e_istore (L1 := [some (.ref 89), some (.int (nI 0)), some (.int (nI 0)), some (.int (nI 0)), some (.int (nI 0)), some (.int (nI 0))]) dX10_sums_38 (by decide) rfl ?_
    refine l_X10_sums Ms Mr hD hW (S 120) 0 0 0 0 (by omega) ?_
    rw [Nat.zero_add, Nat.zero_add, Nat.zero_add]
    refine e_iload_n dX10_sums_162 rfl rfl ?_
    refine e_iconst (nI 3) dX10_sums_163 (by decide) ?_
    refine e_icmp_ge 188 dX10_sums_164 (by decide) (fun c => absurd c (by decide)) (fun _ => ?_)
    refine e_iload_n dX10_sums_167 rfl rfl ?_
    refine e_if_ne 177 dX10_sums_168 (by decide) (fun c => absurd c (by decide)) (fun _ => ?_)
    refine e_iload_n dX10_sums_171 rfl rfl ?_
    refine e_iload_n dX10_sums_172 rfl rfl ?_
    refine e_iadd dX10_sums_173 ?_
    refine e_int (nI (msf (mstn S true) (S 120) 0 + msf (mstn S false) (S 120) 0)) (nI_add (msf (mstn S true) (S 120) 0) (msf (mstn S false) (S 120) 0)) ?_
    refine e_goto 187 dX10_sums_174 (by decide) ?_
    exact e_ireturn .int dX10_sums_187 rfl rfl (h σ fSm.rfl' Ir hz)
  · show fEv g (d + 3) mX10_sums 5 [some (.ref 89), some (.int (nI 1)), none, none, none, none] [] σ Q
    refine e_aload_n dX10_sums_5 rfl rfl ?_
    refine e_iload_n dX10_sums_6 rfl rfl ?_
    refine e_iconst (nI 0) dX10_sums_7 (by decide) ?_
    refine e_bipush (nI 7) dX10_sums_8 (by decide) ?_
    refine e_callS [.int (nI 1), .int (nI 0), .int (nI 7)] dX10_sums_10 cc_X10_in lk_RX10_110 st_X10_in in_RX10 rfl (Nat.le_of_ble_eq_true rfl) (Nat.le_of_ble_eq_true rfl) ?_
    refine t_X10_inT ⟨(nI_le' (by omega) (by omega)).mpr (by omega), (nI_le' (by omega) (by omega)).mpr (by omega)⟩ (fK_i ?_)
    show fEv g _ mX10_sums 13 [some (.ref 89), some (.int (nI 1)), none, none, none, none] [.int (nI 1), .ref 89] σ Q
    refine e_if_ne 20 dX10_sums_13 (by decide) (fun _ => ?_) (fun c => absurd c (by decide))
    refine e_iconst (nI 0) dX10_sums_20 (by decide) ?_
    refine e_iconst (nI 1) dX10_sums_21 (by decide) ?_
    refine e_callV (k := 89) [.int (nI 0), .int (nI 1)] dX10_sums_22 cc_X10_bad lk_RX10_148 im_X10_bad se_X10_bad (by decide) (Ms.s 89 rfl) (Ms.n (by decide)) rfl (Nat.le_of_ble_eq_true rfl) (Nat.le_of_ble_eq_true rfl) ?_
    refine t_X10_bad0 Ms hz (by decide) (fK_i ?_)
    show fEv g _ mX10_sums 25 [some (.ref 89), some (.int (nI 1)), none, none, none, none] [.int (nI 0)] σ Q
    refine e_if_eq 30 dX10_sums_25 (by decide) (fun _ => ?_) (fun c => absurd c (by decide))
    refine e_iconst (nI 0) dX10_sums_30 (by decide) ?_
    refine e_istore_n (L1 := [some (.ref 89), some (.int (nI 1)), some (.int (nI 0)), none, none, none]) dX10_sums_31 rfl (by decide) rfl ?_
    refine e_iconst (nI 0) dX10_sums_32 (by decide) ?_
    refine e_istore_n (L1 := [some (.ref 89), some (.int (nI 1)), some (.int (nI 0)), some (.int (nI 0)), none, none]) dX10_sums_33 rfl (by decide) rfl ?_
    refine e_iconst (nI 0) dX10_sums_34 (by decide) ?_
    refine e_istore (L1 := [some (.ref 89), some (.int (nI 1)), some (.int (nI 0)), some (.int (nI 0)), some (.int (nI 0)), none]) dX10_sums_35 (by decide) rfl ?_
    refine e_iconst (nI 0) dX10_sums_37 (by decide) ?_
    refine e_istore (L1 := [some (.ref 89), some (.int (nI 1)), some (.int (nI 0)), some (.int (nI 0)), some (.int (nI 0)), some (.int (nI 0))]) dX10_sums_38 (by decide) rfl ?_
    refine l_X10_sums Ms Mr hD hW (S 120) 0 0 0 0 (by omega) ?_
    rw [Nat.zero_add, Nat.zero_add, Nat.zero_add]
    refine e_iload_n dX10_sums_162 rfl rfl ?_
    refine e_iconst (nI 3) dX10_sums_163 (by decide) ?_
    refine e_icmp_ge 188 dX10_sums_164 (by decide) (fun c => absurd c (by decide)) (fun _ => ?_)
    refine e_iload_n dX10_sums_167 rfl rfl ?_
    refine e_if_ne 177 dX10_sums_168 (by decide) (fun _ => ?_) (fun c => absurd c (by decide))
    refine e_iload_n dX10_sums_177 rfl rfl ?_
    refine e_iconst (nI 1) dX10_sums_178 (by decide) ?_
    refine e_icmp_ne 186 dX10_sums_179 (by decide) (fun c => absurd c (by decide)) (fun _ => ?_)
    refine e_iload_n dX10_sums_182 rfl rfl ?_
    refine e_goto 187 dX10_sums_183 (by decide) ?_
    exact e_ireturn .int dX10_sums_187 rfl rfl (h σ fSm.rfl' Ir hz)
  · show fEv g (d + 3) mX10_sums 5 [some (.ref 89), some (.int (nI 2)), none, none, none, none] [] σ Q
    refine e_aload_n dX10_sums_5 rfl rfl ?_
    refine e_iload_n dX10_sums_6 rfl rfl ?_
    refine e_iconst (nI 0) dX10_sums_7 (by decide) ?_
    refine e_bipush (nI 7) dX10_sums_8 (by decide) ?_
    refine e_callS [.int (nI 2), .int (nI 0), .int (nI 7)] dX10_sums_10 cc_X10_in lk_RX10_110 st_X10_in in_RX10 rfl (Nat.le_of_ble_eq_true rfl) (Nat.le_of_ble_eq_true rfl) ?_
    refine t_X10_inT ⟨(nI_le' (by omega) (by omega)).mpr (by omega), (nI_le' (by omega) (by omega)).mpr (by omega)⟩ (fK_i ?_)
    show fEv g _ mX10_sums 13 [some (.ref 89), some (.int (nI 2)), none, none, none, none] [.int (nI 1), .ref 89] σ Q
    refine e_if_ne 20 dX10_sums_13 (by decide) (fun _ => ?_) (fun c => absurd c (by decide))
    refine e_iconst (nI 0) dX10_sums_20 (by decide) ?_
    refine e_iconst (nI 1) dX10_sums_21 (by decide) ?_
    refine e_callV (k := 89) [.int (nI 0), .int (nI 1)] dX10_sums_22 cc_X10_bad lk_RX10_148 im_X10_bad se_X10_bad (by decide) (Ms.s 89 rfl) (Ms.n (by decide)) rfl (Nat.le_of_ble_eq_true rfl) (Nat.le_of_ble_eq_true rfl) ?_
    refine t_X10_bad0 Ms hz (by decide) (fK_i ?_)
    show fEv g _ mX10_sums 25 [some (.ref 89), some (.int (nI 2)), none, none, none, none] [.int (nI 0)] σ Q
    refine e_if_eq 30 dX10_sums_25 (by decide) (fun _ => ?_) (fun c => absurd c (by decide))
    refine e_iconst (nI 0) dX10_sums_30 (by decide) ?_
    refine e_istore_n (L1 := [some (.ref 89), some (.int (nI 2)), some (.int (nI 0)), none, none, none]) dX10_sums_31 rfl (by decide) rfl ?_
    refine e_iconst (nI 0) dX10_sums_32 (by decide) ?_
    refine e_istore_n (L1 := [some (.ref 89), some (.int (nI 2)), some (.int (nI 0)), some (.int (nI 0)), none, none]) dX10_sums_33 rfl (by decide) rfl ?_
    refine e_iconst (nI 0) dX10_sums_34 (by decide) ?_
    refine e_istore (L1 := [some (.ref 89), some (.int (nI 2)), some (.int (nI 0)), some (.int (nI 0)), some (.int (nI 0)), none]) dX10_sums_35 (by decide) rfl ?_
    refine e_iconst (nI 0) dX10_sums_37 (by decide) ?_
    refine e_istore (L1 := [some (.ref 89), some (.int (nI 2)), some (.int (nI 0)), some (.int (nI 0)), some (.int (nI 0)), some (.int (nI 0))]) dX10_sums_38 (by decide) rfl ?_
    refine l_X10_sums Ms Mr hD hW (S 120) 0 0 0 0 (by omega) ?_
    rw [Nat.zero_add, Nat.zero_add, Nat.zero_add]
    refine e_iload_n dX10_sums_162 rfl rfl ?_
    refine e_iconst (nI 3) dX10_sums_163 (by decide) ?_
    refine e_icmp_ge 188 dX10_sums_164 (by decide) (fun c => absurd c (by decide)) (fun _ => ?_)
    refine e_iload_n dX10_sums_167 rfl rfl ?_
    refine e_if_ne 177 dX10_sums_168 (by decide) (fun _ => ?_) (fun c => absurd c (by decide))
    refine e_iload_n dX10_sums_177 rfl rfl ?_
    refine e_iconst (nI 1) dX10_sums_178 (by decide) ?_
    refine e_icmp_ne 186 dX10_sums_179 (by decide) (fun _ => ?_) (fun c => absurd c (by decide))
    refine e_iload_n dX10_sums_186 rfl rfl ?_
    exact e_ireturn .int dX10_sums_187 rfl rfl (h σ fSm.rfl' Ir hz)
  · show fEv g (d + 3) mX10_sums 5 [some (.ref 89), some (.int (nI 3)), none, none, none, none] [] σ Q
    refine e_aload_n dX10_sums_5 rfl rfl ?_
    refine e_iload_n dX10_sums_6 rfl rfl ?_
    refine e_iconst (nI 0) dX10_sums_7 (by decide) ?_
    refine e_bipush (nI 7) dX10_sums_8 (by decide) ?_
    refine e_callS [.int (nI 3), .int (nI 0), .int (nI 7)] dX10_sums_10 cc_X10_in lk_RX10_110 st_X10_in in_RX10 rfl (Nat.le_of_ble_eq_true rfl) (Nat.le_of_ble_eq_true rfl) ?_
    refine t_X10_inT ⟨(nI_le' (by omega) (by omega)).mpr (by omega), (nI_le' (by omega) (by omega)).mpr (by omega)⟩ (fK_i ?_)
    show fEv g _ mX10_sums 13 [some (.ref 89), some (.int (nI 3)), none, none, none, none] [.int (nI 1), .ref 89] σ Q
    refine e_if_ne 20 dX10_sums_13 (by decide) (fun _ => ?_) (fun c => absurd c (by decide))
    refine e_iconst (nI 0) dX10_sums_20 (by decide) ?_
    refine e_iconst (nI 1) dX10_sums_21 (by decide) ?_
    refine e_callV (k := 89) [.int (nI 0), .int (nI 1)] dX10_sums_22 cc_X10_bad lk_RX10_148 im_X10_bad se_X10_bad (by decide) (Ms.s 89 rfl) (Ms.n (by decide)) rfl (Nat.le_of_ble_eq_true rfl) (Nat.le_of_ble_eq_true rfl) ?_
    refine t_X10_bad0 Ms hz (by decide) (fK_i ?_)
    show fEv g _ mX10_sums 25 [some (.ref 89), some (.int (nI 3)), none, none, none, none] [.int (nI 0)] σ Q
    refine e_if_eq 30 dX10_sums_25 (by decide) (fun _ => ?_) (fun c => absurd c (by decide))
    refine e_iconst (nI 0) dX10_sums_30 (by decide) ?_
    refine e_istore_n (L1 := [some (.ref 89), some (.int (nI 3)), some (.int (nI 0)), none, none, none]) dX10_sums_31 rfl (by decide) rfl ?_
    refine e_iconst (nI 0) dX10_sums_32 (by decide) ?_
    refine e_istore_n (L1 := [some (.ref 89), some (.int (nI 3)), some (.int (nI 0)), some (.int (nI 0)), none, none]) dX10_sums_33 rfl (by decide) rfl ?_
    refine e_iconst (nI 0) dX10_sums_34 (by decide) ?_
    refine e_istore (L1 := [some (.ref 89), some (.int (nI 3)), some (.int (nI 0)), some (.int (nI 0)), some (.int (nI 0)), none]) dX10_sums_35 (by decide) rfl ?_
    refine e_iconst (nI 0) dX10_sums_37 (by decide) ?_
    refine e_istore (L1 := [some (.ref 89), some (.int (nI 3)), some (.int (nI 0)), some (.int (nI 0)), some (.int (nI 0)), some (.int (nI 0))]) dX10_sums_38 (by decide) rfl ?_
    refine l_X10_sums Ms Mr hD hW (S 120) 0 0 0 0 (by omega) ?_
    rw [Nat.zero_add, Nat.zero_add, Nat.zero_add]
    refine e_iload_n dX10_sums_162 rfl rfl ?_
    refine e_iconst (nI 3) dX10_sums_163 (by decide) ?_
    refine e_icmp_ge 188 dX10_sums_164 (by decide) (fun _ => ?_) (fun c => absurd c (by decide))
    refine e_iload_n dX10_sums_188 rfl rfl ?_
    refine e_bipush (nI 7) dX10_sums_189 (by decide) ?_
    refine e_icmp_ge 209 dX10_sums_191 (by decide) (fun c => absurd c (by decide)) (fun _ => ?_)
    refine e_aload_n dX10_sums_194 rfl rfl ?_
    refine e_getR (q := 197) dX10_sums_195 fl_RX10_49 (Ms.s 89 rfl) (Ms.n (by decide)) rfl (Ms.r 89 19 rfl) (by unfold fscr; omega) ?_
    refine e_sipush (nI 151) dX10_sums_198 (by decide) ?_
    refine e_iload_n dX10_sums_201 rfl rfl ?_
    refine e_iadd dX10_sums_202 ?_
    refine e_int (nI 154) (nI_add 151 3) ?_
    refine e_iconst (nI 3) dX10_sums_203 (by decide) ?_
    refine e_isub dX10_sums_204 ?_
    refine e_int (nI 151) (by decide) ?_
    refine e_iaload 151 dX10_sums_205 (Ms.s 197 rfl) (Ms.n (by decide)) rfl (by omega) (by decide) ?_
    refine e_int (nI (S 151)) (Mr.s 151 (by omega)) ?_
    refine e_goto 211 dX10_sums_206 (by decide) ?_
    exact e_ireturn .int dX10_sums_211 rfl rfl (h σ fSm.rfl' Ir hz)
  · show fEv g (d + 3) mX10_sums 5 [some (.ref 89), some (.int (nI 4)), none, none, none, none] [] σ Q
    refine e_aload_n dX10_sums_5 rfl rfl ?_
    refine e_iload_n dX10_sums_6 rfl rfl ?_
    refine e_iconst (nI 0) dX10_sums_7 (by decide) ?_
    refine e_bipush (nI 7) dX10_sums_8 (by decide) ?_
    refine e_callS [.int (nI 4), .int (nI 0), .int (nI 7)] dX10_sums_10 cc_X10_in lk_RX10_110 st_X10_in in_RX10 rfl (Nat.le_of_ble_eq_true rfl) (Nat.le_of_ble_eq_true rfl) ?_
    refine t_X10_inT ⟨(nI_le' (by omega) (by omega)).mpr (by omega), (nI_le' (by omega) (by omega)).mpr (by omega)⟩ (fK_i ?_)
    show fEv g _ mX10_sums 13 [some (.ref 89), some (.int (nI 4)), none, none, none, none] [.int (nI 1), .ref 89] σ Q
    refine e_if_ne 20 dX10_sums_13 (by decide) (fun _ => ?_) (fun c => absurd c (by decide))
    refine e_iconst (nI 0) dX10_sums_20 (by decide) ?_
    refine e_iconst (nI 1) dX10_sums_21 (by decide) ?_
    refine e_callV (k := 89) [.int (nI 0), .int (nI 1)] dX10_sums_22 cc_X10_bad lk_RX10_148 im_X10_bad se_X10_bad (by decide) (Ms.s 89 rfl) (Ms.n (by decide)) rfl (Nat.le_of_ble_eq_true rfl) (Nat.le_of_ble_eq_true rfl) ?_
    refine t_X10_bad0 Ms hz (by decide) (fK_i ?_)
    show fEv g _ mX10_sums 25 [some (.ref 89), some (.int (nI 4)), none, none, none, none] [.int (nI 0)] σ Q
    refine e_if_eq 30 dX10_sums_25 (by decide) (fun _ => ?_) (fun c => absurd c (by decide))
    refine e_iconst (nI 0) dX10_sums_30 (by decide) ?_
    refine e_istore_n (L1 := [some (.ref 89), some (.int (nI 4)), some (.int (nI 0)), none, none, none]) dX10_sums_31 rfl (by decide) rfl ?_
    refine e_iconst (nI 0) dX10_sums_32 (by decide) ?_
    refine e_istore_n (L1 := [some (.ref 89), some (.int (nI 4)), some (.int (nI 0)), some (.int (nI 0)), none, none]) dX10_sums_33 rfl (by decide) rfl ?_
    refine e_iconst (nI 0) dX10_sums_34 (by decide) ?_
    refine e_istore (L1 := [some (.ref 89), some (.int (nI 4)), some (.int (nI 0)), some (.int (nI 0)), some (.int (nI 0)), none]) dX10_sums_35 (by decide) rfl ?_
    refine e_iconst (nI 0) dX10_sums_37 (by decide) ?_
    refine e_istore (L1 := [some (.ref 89), some (.int (nI 4)), some (.int (nI 0)), some (.int (nI 0)), some (.int (nI 0)), some (.int (nI 0))]) dX10_sums_38 (by decide) rfl ?_
    refine l_X10_sums Ms Mr hD hW (S 120) 0 0 0 0 (by omega) ?_
    rw [Nat.zero_add, Nat.zero_add, Nat.zero_add]
    refine e_iload_n dX10_sums_162 rfl rfl ?_
    refine e_iconst (nI 3) dX10_sums_163 (by decide) ?_
    refine e_icmp_ge 188 dX10_sums_164 (by decide) (fun _ => ?_) (fun c => absurd c (by decide))
    refine e_iload_n dX10_sums_188 rfl rfl ?_
    refine e_bipush (nI 7) dX10_sums_189 (by decide) ?_
    refine e_icmp_ge 209 dX10_sums_191 (by decide) (fun c => absurd c (by decide)) (fun _ => ?_)
    refine e_aload_n dX10_sums_194 rfl rfl ?_
    refine e_getR (q := 197) dX10_sums_195 fl_RX10_49 (Ms.s 89 rfl) (Ms.n (by decide)) rfl (Ms.r 89 19 rfl) (by unfold fscr; omega) ?_
    refine e_sipush (nI 151) dX10_sums_198 (by decide) ?_
    refine e_iload_n dX10_sums_201 rfl rfl ?_
    refine e_iadd dX10_sums_202 ?_
    refine e_int (nI 155) (nI_add 151 4) ?_
    refine e_iconst (nI 3) dX10_sums_203 (by decide) ?_
    refine e_isub dX10_sums_204 ?_
    refine e_int (nI 152) (by decide) ?_
    refine e_iaload 152 dX10_sums_205 (Ms.s 197 rfl) (Ms.n (by decide)) rfl (by omega) (by decide) ?_
    refine e_int (nI (S 152)) (Mr.s 152 (by omega)) ?_
    refine e_goto 211 dX10_sums_206 (by decide) ?_
    exact e_ireturn .int dX10_sums_211 rfl rfl (h σ fSm.rfl' Ir hz)
  · show fEv g (d + 3) mX10_sums 5 [some (.ref 89), some (.int (nI 5)), none, none, none, none] [] σ Q
    refine e_aload_n dX10_sums_5 rfl rfl ?_
    refine e_iload_n dX10_sums_6 rfl rfl ?_
    refine e_iconst (nI 0) dX10_sums_7 (by decide) ?_
    refine e_bipush (nI 7) dX10_sums_8 (by decide) ?_
    refine e_callS [.int (nI 5), .int (nI 0), .int (nI 7)] dX10_sums_10 cc_X10_in lk_RX10_110 st_X10_in in_RX10 rfl (Nat.le_of_ble_eq_true rfl) (Nat.le_of_ble_eq_true rfl) ?_
    refine t_X10_inT ⟨(nI_le' (by omega) (by omega)).mpr (by omega), (nI_le' (by omega) (by omega)).mpr (by omega)⟩ (fK_i ?_)
    show fEv g _ mX10_sums 13 [some (.ref 89), some (.int (nI 5)), none, none, none, none] [.int (nI 1), .ref 89] σ Q
    refine e_if_ne 20 dX10_sums_13 (by decide) (fun _ => ?_) (fun c => absurd c (by decide))
    refine e_iconst (nI 0) dX10_sums_20 (by decide) ?_
    refine e_iconst (nI 1) dX10_sums_21 (by decide) ?_
    refine e_callV (k := 89) [.int (nI 0), .int (nI 1)] dX10_sums_22 cc_X10_bad lk_RX10_148 im_X10_bad se_X10_bad (by decide) (Ms.s 89 rfl) (Ms.n (by decide)) rfl (Nat.le_of_ble_eq_true rfl) (Nat.le_of_ble_eq_true rfl) ?_
    refine t_X10_bad0 Ms hz (by decide) (fK_i ?_)
    show fEv g _ mX10_sums 25 [some (.ref 89), some (.int (nI 5)), none, none, none, none] [.int (nI 0)] σ Q
    refine e_if_eq 30 dX10_sums_25 (by decide) (fun _ => ?_) (fun c => absurd c (by decide))
    refine e_iconst (nI 0) dX10_sums_30 (by decide) ?_
    refine e_istore_n (L1 := [some (.ref 89), some (.int (nI 5)), some (.int (nI 0)), none, none, none]) dX10_sums_31 rfl (by decide) rfl ?_
    refine e_iconst (nI 0) dX10_sums_32 (by decide) ?_
    refine e_istore_n (L1 := [some (.ref 89), some (.int (nI 5)), some (.int (nI 0)), some (.int (nI 0)), none, none]) dX10_sums_33 rfl (by decide) rfl ?_
    refine e_iconst (nI 0) dX10_sums_34 (by decide) ?_
    refine e_istore (L1 := [some (.ref 89), some (.int (nI 5)), some (.int (nI 0)), some (.int (nI 0)), some (.int (nI 0)), none]) dX10_sums_35 (by decide) rfl ?_
    refine e_iconst (nI 0) dX10_sums_37 (by decide) ?_
    refine e_istore (L1 := [some (.ref 89), some (.int (nI 5)), some (.int (nI 0)), some (.int (nI 0)), some (.int (nI 0)), some (.int (nI 0))]) dX10_sums_38 (by decide) rfl ?_
    refine l_X10_sums Ms Mr hD hW (S 120) 0 0 0 0 (by omega) ?_
    rw [Nat.zero_add, Nat.zero_add, Nat.zero_add]
    refine e_iload_n dX10_sums_162 rfl rfl ?_
    refine e_iconst (nI 3) dX10_sums_163 (by decide) ?_
    refine e_icmp_ge 188 dX10_sums_164 (by decide) (fun _ => ?_) (fun c => absurd c (by decide))
    refine e_iload_n dX10_sums_188 rfl rfl ?_
    refine e_bipush (nI 7) dX10_sums_189 (by decide) ?_
    refine e_icmp_ge 209 dX10_sums_191 (by decide) (fun c => absurd c (by decide)) (fun _ => ?_)
    refine e_aload_n dX10_sums_194 rfl rfl ?_
    refine e_getR (q := 197) dX10_sums_195 fl_RX10_49 (Ms.s 89 rfl) (Ms.n (by decide)) rfl (Ms.r 89 19 rfl) (by unfold fscr; omega) ?_
    refine e_sipush (nI 151) dX10_sums_198 (by decide) ?_
    refine e_iload_n dX10_sums_201 rfl rfl ?_
    refine e_iadd dX10_sums_202 ?_
    refine e_int (nI 156) (nI_add 151 5) ?_
    refine e_iconst (nI 3) dX10_sums_203 (by decide) ?_
    refine e_isub dX10_sums_204 ?_
    refine e_int (nI 153) (by decide) ?_
    refine e_iaload 153 dX10_sums_205 (Ms.s 197 rfl) (Ms.n (by decide)) rfl (by omega) (by decide) ?_
    refine e_int (nI (S 153)) (Mr.s 153 (by omega)) ?_
    refine e_goto 211 dX10_sums_206 (by decide) ?_
    exact e_ireturn .int dX10_sums_211 rfl rfl (h σ fSm.rfl' Ir hz)
  · show fEv g (d + 3) mX10_sums 5 [some (.ref 89), some (.int (nI 6)), none, none, none, none] [] σ Q
    refine e_aload_n dX10_sums_5 rfl rfl ?_
    refine e_iload_n dX10_sums_6 rfl rfl ?_
    refine e_iconst (nI 0) dX10_sums_7 (by decide) ?_
    refine e_bipush (nI 7) dX10_sums_8 (by decide) ?_
    refine e_callS [.int (nI 6), .int (nI 0), .int (nI 7)] dX10_sums_10 cc_X10_in lk_RX10_110 st_X10_in in_RX10 rfl (Nat.le_of_ble_eq_true rfl) (Nat.le_of_ble_eq_true rfl) ?_
    refine t_X10_inT ⟨(nI_le' (by omega) (by omega)).mpr (by omega), (nI_le' (by omega) (by omega)).mpr (by omega)⟩ (fK_i ?_)
    show fEv g _ mX10_sums 13 [some (.ref 89), some (.int (nI 6)), none, none, none, none] [.int (nI 1), .ref 89] σ Q
    refine e_if_ne 20 dX10_sums_13 (by decide) (fun _ => ?_) (fun c => absurd c (by decide))
    refine e_iconst (nI 0) dX10_sums_20 (by decide) ?_
    refine e_iconst (nI 1) dX10_sums_21 (by decide) ?_
    refine e_callV (k := 89) [.int (nI 0), .int (nI 1)] dX10_sums_22 cc_X10_bad lk_RX10_148 im_X10_bad se_X10_bad (by decide) (Ms.s 89 rfl) (Ms.n (by decide)) rfl (Nat.le_of_ble_eq_true rfl) (Nat.le_of_ble_eq_true rfl) ?_
    refine t_X10_bad0 Ms hz (by decide) (fK_i ?_)
    show fEv g _ mX10_sums 25 [some (.ref 89), some (.int (nI 6)), none, none, none, none] [.int (nI 0)] σ Q
    refine e_if_eq 30 dX10_sums_25 (by decide) (fun _ => ?_) (fun c => absurd c (by decide))
    refine e_iconst (nI 0) dX10_sums_30 (by decide) ?_
    refine e_istore_n (L1 := [some (.ref 89), some (.int (nI 6)), some (.int (nI 0)), none, none, none]) dX10_sums_31 rfl (by decide) rfl ?_
    refine e_iconst (nI 0) dX10_sums_32 (by decide) ?_
    refine e_istore_n (L1 := [some (.ref 89), some (.int (nI 6)), some (.int (nI 0)), some (.int (nI 0)), none, none]) dX10_sums_33 rfl (by decide) rfl ?_
    refine e_iconst (nI 0) dX10_sums_34 (by decide) ?_
    refine e_istore (L1 := [some (.ref 89), some (.int (nI 6)), some (.int (nI 0)), some (.int (nI 0)), some (.int (nI 0)), none]) dX10_sums_35 (by decide) rfl ?_
    refine e_iconst (nI 0) dX10_sums_37 (by decide) ?_
    refine e_istore (L1 := [some (.ref 89), some (.int (nI 6)), some (.int (nI 0)), some (.int (nI 0)), some (.int (nI 0)), some (.int (nI 0))]) dX10_sums_38 (by decide) rfl ?_
    refine l_X10_sums Ms Mr hD hW (S 120) 0 0 0 0 (by omega) ?_
    rw [Nat.zero_add, Nat.zero_add, Nat.zero_add]
    refine e_iload_n dX10_sums_162 rfl rfl ?_
    refine e_iconst (nI 3) dX10_sums_163 (by decide) ?_
    refine e_icmp_ge 188 dX10_sums_164 (by decide) (fun _ => ?_) (fun c => absurd c (by decide))
    refine e_iload_n dX10_sums_188 rfl rfl ?_
    refine e_bipush (nI 7) dX10_sums_189 (by decide) ?_
    refine e_icmp_ge 209 dX10_sums_191 (by decide) (fun c => absurd c (by decide)) (fun _ => ?_)
    refine e_aload_n dX10_sums_194 rfl rfl ?_
    refine e_getR (q := 197) dX10_sums_195 fl_RX10_49 (Ms.s 89 rfl) (Ms.n (by decide)) rfl (Ms.r 89 19 rfl) (by unfold fscr; omega) ?_
    refine e_sipush (nI 151) dX10_sums_198 (by decide) ?_
    refine e_iload_n dX10_sums_201 rfl rfl ?_
    refine e_iadd dX10_sums_202 ?_
    refine e_int (nI 157) (nI_add 151 6) ?_
    refine e_iconst (nI 3) dX10_sums_203 (by decide) ?_
    refine e_isub dX10_sums_204 ?_
    refine e_int (nI 154) (by decide) ?_
    refine e_iaload 154 dX10_sums_205 (Ms.s 197 rfl) (Ms.n (by decide)) rfl (by omega) (by decide) ?_
    refine e_int (nI (S 154)) (Mr.s 154 (by omega)) ?_
    refine e_goto 211 dX10_sums_206 (by decide) ?_
    exact e_ireturn .int dX10_sums_211 rfl rfl (h σ fSm.rfl' Ir hz)
  · show fEv g (d + 3) mX10_sums 5 [some (.ref 89), some (.int (nI 7)), none, none, none, none] [] σ Q
    refine e_aload_n dX10_sums_5 rfl rfl ?_
    refine e_iload_n dX10_sums_6 rfl rfl ?_
    refine e_iconst (nI 0) dX10_sums_7 (by decide) ?_
    refine e_bipush (nI 7) dX10_sums_8 (by decide) ?_
    refine e_callS [.int (nI 7), .int (nI 0), .int (nI 7)] dX10_sums_10 cc_X10_in lk_RX10_110 st_X10_in in_RX10 rfl (Nat.le_of_ble_eq_true rfl) (Nat.le_of_ble_eq_true rfl) ?_
    refine t_X10_inT ⟨(nI_le' (by omega) (by omega)).mpr (by omega), (nI_le' (by omega) (by omega)).mpr (by omega)⟩ (fK_i ?_)
    show fEv g _ mX10_sums 13 [some (.ref 89), some (.int (nI 7)), none, none, none, none] [.int (nI 1), .ref 89] σ Q
    refine e_if_ne 20 dX10_sums_13 (by decide) (fun _ => ?_) (fun c => absurd c (by decide))
    refine e_iconst (nI 0) dX10_sums_20 (by decide) ?_
    refine e_iconst (nI 1) dX10_sums_21 (by decide) ?_
    refine e_callV (k := 89) [.int (nI 0), .int (nI 1)] dX10_sums_22 cc_X10_bad lk_RX10_148 im_X10_bad se_X10_bad (by decide) (Ms.s 89 rfl) (Ms.n (by decide)) rfl (Nat.le_of_ble_eq_true rfl) (Nat.le_of_ble_eq_true rfl) ?_
    refine t_X10_bad0 Ms hz (by decide) (fK_i ?_)
    show fEv g _ mX10_sums 25 [some (.ref 89), some (.int (nI 7)), none, none, none, none] [.int (nI 0)] σ Q
    refine e_if_eq 30 dX10_sums_25 (by decide) (fun _ => ?_) (fun c => absurd c (by decide))
    refine e_iconst (nI 0) dX10_sums_30 (by decide) ?_
    refine e_istore_n (L1 := [some (.ref 89), some (.int (nI 7)), some (.int (nI 0)), none, none, none]) dX10_sums_31 rfl (by decide) rfl ?_
    refine e_iconst (nI 0) dX10_sums_32 (by decide) ?_
    refine e_istore_n (L1 := [some (.ref 89), some (.int (nI 7)), some (.int (nI 0)), some (.int (nI 0)), none, none]) dX10_sums_33 rfl (by decide) rfl ?_
    refine e_iconst (nI 0) dX10_sums_34 (by decide) ?_
    refine e_istore (L1 := [some (.ref 89), some (.int (nI 7)), some (.int (nI 0)), some (.int (nI 0)), some (.int (nI 0)), none]) dX10_sums_35 (by decide) rfl ?_
    refine e_iconst (nI 0) dX10_sums_37 (by decide) ?_
    refine e_istore (L1 := [some (.ref 89), some (.int (nI 7)), some (.int (nI 0)), some (.int (nI 0)), some (.int (nI 0)), some (.int (nI 0))]) dX10_sums_38 (by decide) rfl ?_
    refine l_X10_sums Ms Mr hD hW (S 120) 0 0 0 0 (by omega) ?_
    rw [Nat.zero_add, Nat.zero_add, Nat.zero_add]
    refine e_iload_n dX10_sums_162 rfl rfl ?_
    refine e_iconst (nI 3) dX10_sums_163 (by decide) ?_
    refine e_icmp_ge 188 dX10_sums_164 (by decide) (fun _ => ?_) (fun c => absurd c (by decide))
    refine e_iload_n dX10_sums_188 rfl rfl ?_
    refine e_bipush (nI 7) dX10_sums_189 (by decide) ?_
    refine e_icmp_ge 209 dX10_sums_191 (by decide) (fun _ => ?_) (fun c => absurd c (by decide))
    refine e_iload dX10_sums_209 rfl ?_
    exact e_ireturn .int dX10_sums_211 rfl rfl (h σ fSm.rfl' Ir hz)
set_option maxRecDepth 20000 in
theorem t_X10_sums {g : fGP} {d : Nat} {σ : fAH} {Q : fRes → fAH → Prop} {x : fXS} {w : Nat}  (Ms : fMs g σ) (ok : fOK x) (Ir : fIr σ x) (hw : w < 8) (h : ∀ σ', fSm fRfA σ σ' → fIr σ' x → fI σ' 89 0 = nI 0 → Q (.inl (some (.int (vSum (xD x) (iS (xI x)) w)))) σ') : fEv g (d + 3) mX10_sums 0 (fent [.ref 89, .int (nI w)] 6) [] σ Q := by
  have S9 : fSm (fun a => a = 89) σ (fsI σ 89 0 (nI 0)) := fSm_I rfl
  show fEv g (d + 3) mX10_sums 0 [some (.ref 89), some (.int (nI w)), none, none, none, none] [] σ Q
  refine e_aload_n dX10_sums_0 rfl rfl ?_
  refine e_iconst (nI 0) dX10_sums_1 (by decide) ?_
  refine e_putI dX10_sums_2 fl_RX10_76 (Ms.s 89 rfl) (Ms.n (by decide)) rfl rfl ?_
  exact lp_X10_sums (Ms.sm S9) ok (Ir.f0 ok S9 (fun a (q : a = 89) => Or.inl (by omega)) (fun j hj => by simp only [List.mem_cons, List.not_mem_nil, or_false] at hj; rw [fI_I, if_neg (by omega)])) (by rw [fI_I, if_pos ⟨rfl, rfl⟩]) hw (fun σ' Sm' => h σ' ((S9.to (fun a (q : a = 89) => by unfold fRfA; omega)).tr Sm'))
set_option maxRecDepth 20000 in
theorem lp_X10_sumsE {g : fGP} {d : Nat} {σ : fAH} {Q : fRes → fAH → Prop} {x : fXS} {a : Int32}  (Ms : fMs g σ) (ok : fOK x) (Ir : fIr σ x) (hz : fI σ 89 0 = nI 0) (hv : ¬ (nI 0 ≤ a ∧ a ≤ nI 7)) (h : ∀ σ', fSm fRfA σ σ' → fIr σ' x → fI σ' 89 0 = nI 1 → Q (.inl (some (.int (nI 0)))) σ') : fEv g (d + 1) mX10_sums 5 [some (.ref 89), some (.int a), none, none, none, none] [] σ Q := by
  obtain ⟨D, ⟨S, T, sd, pn, P, rn, R⟩, B, tp, pl, im, Im⟩ := x
  have hD : fWD D := ok.1
  have hW : fWS D S := ok.2.1.1
  have hC : fWC D S := ok.2.1.2.1
  have hN : fWN S 0 0 := ok.2.1.2.2.1
  have Mr : fMr σ D S sd := Ir.1
  have Mt : fMt σ S T := Ir.2.1
  obtain ⟨t0, t1, t2, t3, t4, t5, t6⟩ := id hD.1
  have np := hW.n hD
  have n5 := hW.2.2.2.2
  have tp6 : tp ≤ 600 := ok.2.2.2.1
  have im3 : im ≤ 3 := ok.2.2.2.2.1
  have pn3 : pn ≤ 30 := ok.2.1.2.2.2.1
  have rn6 : rn ≤ 60 := ok.2.1.2.2.2.2.2.1
  have Rc : fRc σ (S, T, sd, pn, P, rn, R) := Ir.2.2.2.2.1
  have w52 := hW.1
  show fEv g (d + 1) mX10_sums 5 [some (.ref 89), some (.int a), none, none, none, none] [] σ Q
  refine e_aload_n dX10_sums_5 rfl rfl ?_
  refine e_iload_n dX10_sums_6 rfl rfl ?_
  refine e_iconst (nI 0) dX10_sums_7 (by decide) ?_
  refine e_bipush (nI 7) dX10_sums_8 (by decide) ?_
  refine e_callS [.int a, .int (nI 0), .int (nI 7)] dX10_sums_10 cc_X10_in lk_RX10_110 st_X10_in in_RX10 rfl (Nat.le_of_ble_eq_true rfl) (Nat.le_of_ble_eq_true rfl) ?_
  refine t_X10_inF hv (fK_i ?_)
  show fEv g _ mX10_sums 13 [some (.ref 89), some (.int a), none, none, none, none] [.int (nI 0), .ref 89] σ Q
  refine e_if_ne 20 dX10_sums_13 (by decide) (fun c => absurd c (by decide)) (fun _ => ?_)
  refine e_iconst (nI 1) dX10_sums_16 (by decide) ?_
  refine e_goto 21 dX10_sums_17 (by decide) ?_
  refine e_iconst (nI 1) dX10_sums_21 (by decide) ?_
  refine e_callV (k := 89) [.int (nI 1), .int (nI 1)] dX10_sums_22 cc_X10_bad lk_RX10_148 im_X10_bad se_X10_bad (by decide) (Ms.s 89 rfl) (Ms.n (by decide)) rfl (Nat.le_of_ble_eq_true rfl) (Nat.le_of_ble_eq_true rfl) ?_
  refine t_X10_bad1 Ms hz (by decide) (fK_i ?_)
  show fEv g _ mX10_sums 25 [some (.ref 89), some (.int a), none, none, none, none] [.int (nI 1)] (fsI σ 89 0 (nI 1)) Q
  refine e_if_eq 30 dX10_sums_25 (by decide) (fun c => absurd c (by decide)) (fun _ => ?_)
  refine e_iconst (nI 0) dX10_sums_28 (by decide) ?_
  exact e_ireturn .int dX10_sums_29 rfl rfl (h _ (fSm_I (by unfold fRfA; omega)) (Ir.f0 ok (A := fun a => a = 89) (fSm_I rfl) (fun a (q : a = 89) => Or.inl (by omega)) (fun j hj => by simp only [List.mem_cons, List.not_mem_nil, or_false] at hj; rw [fI_I, if_neg (by omega)])) (by rw [fI_I, if_pos ⟨rfl, rfl⟩]))
set_option maxRecDepth 20000 in
theorem t_X10_sumsE {g : fGP} {d : Nat} {σ : fAH} {Q : fRes → fAH → Prop} {x : fXS} {a : Int32}  (Ms : fMs g σ) (ok : fOK x) (Ir : fIr σ x) (hv : ¬ (nI 0 ≤ a ∧ a ≤ nI 7)) (h : ∀ σ', fSm fRfA σ σ' → fIr σ' x → fI σ' 89 0 = nI 1 → Q (.inl (some (.int (nI 0)))) σ') : fEv g (d + 1) mX10_sums 0 (fent [.ref 89, .int a] 6) [] σ Q := by
  have S9 : fSm (fun a => a = 89) σ (fsI σ 89 0 (nI 0)) := fSm_I rfl
  show fEv g (d + 1) mX10_sums 0 [some (.ref 89), some (.int a), none, none, none, none] [] σ Q
  refine e_aload_n dX10_sums_0 rfl rfl ?_
  refine e_iconst (nI 0) dX10_sums_1 (by decide) ?_
  refine e_putI dX10_sums_2 fl_RX10_76 (Ms.s 89 rfl) (Ms.n (by decide)) rfl rfl ?_
  exact lp_X10_sumsE (Ms.sm S9) ok (Ir.f0 ok S9 (fun a (q : a = 89) => Or.inl (by omega)) (fun j hj => by simp only [List.mem_cons, List.not_mem_nil, or_false] at hj; rw [fI_I, if_neg (by omega)])) (by rw [fI_I, if_pos ⟨rfl, rfl⟩]) hv (fun σ' Sm' => h σ' ((S9.to (fun a (q : a = 89) => by unfold fRfA; omega)).tr Sm'))
set_option maxRecDepth 20000 in
theorem lp_X10_seed {g : fGP} {d : Nat} {σ : fAH} {Q : fRes → fAH → Prop} {x : fXS} {a : Int32}  (Ms : fMs g σ) (ok : fOK x) (Ir : fIr σ x) (hz : fI σ 89 0 = nI 0) (h : ∀ σ', fSm fRfA σ σ' → fIr σ' (xD x, (iS (xI x), iT (xI x), a, ipn (xI x), iP (xI x), irn (xI x), iR (xI x)), xB x, xt x, xp x, xm x, xM x) → fI σ' 89 0 = nI 0 → Q (.inl (some (.int (iq (xI x))))) σ') : fEv g (d) mX10_seed 5 [some (.ref 89), some (.int a), none] [] σ Q := by
  obtain ⟨D, ⟨S, T, sd, pn, P, rn, R⟩, B, tp, pl, im, Im⟩ := x
  have hD : fWD D := ok.1
  have hW : fWS D S := ok.2.1.1
  have hC : fWC D S := ok.2.1.2.1
  have hN : fWN S 0 0 := ok.2.1.2.2.1
  have Mr : fMr σ D S sd := Ir.1
  have Mt : fMt σ S T := Ir.2.1
  obtain ⟨t0, t1, t2, t3, t4, t5, t6⟩ := id hD.1
  have np := hW.n hD
  have n5 := hW.2.2.2.2
  have tp6 : tp ≤ 600 := ok.2.2.2.1
  have im3 : im ≤ 3 := ok.2.2.2.2.1
  have pn3 : pn ≤ 30 := ok.2.1.2.2.2.1
  have rn6 : rn ≤ 60 := ok.2.1.2.2.2.2.2.1
  have Rc : fRc σ (S, T, sd, pn, P, rn, R) := Ir.2.2.2.2.1
  have w52 := hW.1
  show fEv g (d) mX10_seed 5 [some (.ref 89), some (.int a), none] [] σ Q
  refine e_aload_n dX10_seed_5 rfl rfl ?_
  refine e_getR (q := 197) dX10_seed_6 fl_RX10_49 (Ms.s 89 rfl) (Ms.n (by decide)) rfl (Ms.r 89 19 rfl) (by unfold fscr; omega) ?_
  refine e_sipush (nI 156) dX10_seed_9 (by decide) ?_
  refine e_iaload 156 dX10_seed_12 (Ms.s 197 rfl) (Ms.n (by decide)) rfl (by omega) (by decide) ?_
  refine e_int (sd) Mr.seed ?_
  refine e_istore_n (L1 := [some (.ref 89), some (.int a), some (.int sd)]) dX10_seed_13 rfl (by decide) rfl ?_
  refine e_aload_n dX10_seed_14 rfl rfl ?_
  refine e_getR (q := 197) dX10_seed_15 fl_RX10_49 (Ms.s 89 rfl) (Ms.n (by decide)) rfl (Ms.r 89 19 rfl) (by unfold fscr; omega) ?_
  refine e_sipush (nI 156) dX10_seed_18 (by decide) ?_
  refine e_iload_n dX10_seed_21 rfl rfl ?_
  refine e_iastore 156 dX10_seed_22 (Ms.s 197 rfl) (Ms.n (by decide)) rfl (by omega) (by decide) ?_
  refine e_iload_n dX10_seed_23 rfl rfl ?_
  refine e_ireturn .int dX10_seed_24 rfl rfl (h (fsI σ 197 156 a) (fSm_I (by unfold fRfA; omega)) ⟨Mr.setd hD a, ?_, ?_, ?_, ?_, ?_⟩ ?_)
  · exact Mt.cg hD hW (fun j => by rw [fI_I, if_neg (by omega)]) (fun r hr j => by rw [fI_I, if_neg (by omega)])
  · simp only [fI_I, if_neg (show ¬ (89 = 197 ∧ _ = 156) by omega)]; exact Ir.2.2.1
  · intro i hi; rw [fI_I, if_neg (by omega)]; exact Ir.2.2.2.1 i hi
  · exact Rc.cg rn6 (by rw [fI_I, if_neg (by omega)]) (by rw [fI_I, if_neg (by omega)]) (fun j => by rw [fI_I, if_neg (by omega)]) (fun r hr j => by rw [fI_I, if_neg (by omega)])
  · intro j hj; have hj : j < im := hj; exact (Ir.2.2.2.2.2 j hj).cg (fun q => by rw [fI_I, if_neg (by omega)])
  · rw [fI_I, if_neg (by omega)]; exact hz
set_option maxRecDepth 20000 in
theorem t_X10_seed {g : fGP} {d : Nat} {σ : fAH} {Q : fRes → fAH → Prop} {x : fXS} {a : Int32}  (Ms : fMs g σ) (ok : fOK x) (Ir : fIr σ x) (h : ∀ σ', fSm fRfA σ σ' → fIr σ' (xD x, (iS (xI x), iT (xI x), a, ipn (xI x), iP (xI x), irn (xI x), iR (xI x)), xB x, xt x, xp x, xm x, xM x) → fI σ' 89 0 = nI 0 → Q (.inl (some (.int (iq (xI x))))) σ') : fEv g (d) mX10_seed 0 (fent [.ref 89, .int a] 3) [] σ Q := by
  have S9 : fSm (fun a => a = 89) σ (fsI σ 89 0 (nI 0)) := fSm_I rfl
  show fEv g (d) mX10_seed 0 [some (.ref 89), some (.int a), none] [] σ Q
  refine e_aload_n dX10_seed_0 rfl rfl ?_
  refine e_iconst (nI 0) dX10_seed_1 (by decide) ?_
  refine e_putI dX10_seed_2 fl_RX10_76 (Ms.s 89 rfl) (Ms.n (by decide)) rfl rfl ?_
  exact lp_X10_seed (Ms.sm S9) ok (Ir.f0 ok S9 (fun a (q : a = 89) => Or.inl (by omega)) (fun j hj => by simp only [List.mem_cons, List.not_mem_nil, or_false] at hj; rw [fI_I, if_neg (by omega)])) (by rw [fI_I, if_pos ⟨rfl, rfl⟩])  (fun σ' Sm' => h σ' ((S9.to (fun a (q : a = 89) => by unfold fRfA; omega)).tr Sm'))
set_option maxRecDepth 20000 in
theorem lp_X10_clear {g : fGP} {d : Nat} {σ : fAH} {Q : fRes → fAH → Prop} {x : fXS}  (Ms : fMs g σ) (ok : fOK x) (Ir : fIr σ x) (hz : fI σ 89 0 = nI 0) (h : ∀ σ', fSm fRfA σ σ' → fIr σ' (xD x, (iS (xI x), iT (xI x), iq (xI x), 0, iP (xI x), irn (xI x), iR (xI x)), xB x, xt x, xp x, xm x, xM x) → fI σ' 89 0 = nI 0 → Q (.inl (some (.int (nI (ipn (xI x)))))) σ') : fEv g (d) mX10_clear 5 [some (.ref 89), none] [] σ Q := by
  obtain ⟨D, ⟨S, T, sd, pn, P, rn, R⟩, B, tp, pl, im, Im⟩ := x
  have hD : fWD D := ok.1
  have hW : fWS D S := ok.2.1.1
  have hC : fWC D S := ok.2.1.2.1
  have hN : fWN S 0 0 := ok.2.1.2.2.1
  have Mr : fMr σ D S sd := Ir.1
  have Mt : fMt σ S T := Ir.2.1
  obtain ⟨t0, t1, t2, t3, t4, t5, t6⟩ := id hD.1
  have np := hW.n hD
  have n5 := hW.2.2.2.2
  have tp6 : tp ≤ 600 := ok.2.2.2.1
  have im3 : im ≤ 3 := ok.2.2.2.2.1
  have pn3 : pn ≤ 30 := ok.2.1.2.2.2.1
  have rn6 : rn ≤ 60 := ok.2.1.2.2.2.2.2.1
  have Rc : fRc σ (S, T, sd, pn, P, rn, R) := Ir.2.2.2.2.1
  have w52 := hW.1
  show fEv g (d) mX10_clear 5 [some (.ref 89), none] [] σ Q
  refine e_aload_n dX10_clear_5 rfl rfl ?_
  refine e_getI dX10_clear_6 fl_RX10_159 (Ms.s 89 rfl) (Ms.n (by decide)) rfl ?_
  refine e_int (nI pn) Rc.1 ?_
  refine e_istore_n (L1 := [some (.ref 89), some (.int (nI pn))]) dX10_clear_9 rfl (by decide) rfl ?_
  refine e_aload_n dX10_clear_10 rfl rfl ?_
  refine e_iconst (nI 0) dX10_clear_11 (by decide) ?_
  refine e_putI dX10_clear_12 fl_RX10_159 (Ms.s 89 rfl) (Ms.n (by decide)) rfl rfl ?_
  refine e_iload_n dX10_clear_15 rfl rfl ?_
  refine e_ireturn .int dX10_clear_16 rfl rfl (h (fsI σ 89 22 (nI 0)) (fSm_I (by unfold fRfA; omega)) ⟨Mr.smx (A := fun a => a = 89) (fSm_I rfl) hD (fun a (q : a = 89) => Or.inl (by omega)), ?_, ?_, ?_, ⟨by rw [fI_I, if_pos ⟨rfl, rfl⟩], fun j hj => absurd hj (Nat.not_lt_zero _), by rw [fI_I, if_neg (by omega)]; exact Rc.2.2.1, fun r hr => ?_⟩, ?_⟩ ?_)
  · exact Mt.cg hD hW (fun j => by rw [fI_I, if_neg (by omega)]) (fun r hr j => by rw [fI_I, if_neg (by omega)])
  · simp only [fI_I]; exact Ir.2.2.1
  · intro i hi; rw [fI_I, if_neg (by omega)]; exact Ir.2.2.2.1 i hi
  · rw [fI_I, if_neg (by omega), fI_I, if_neg (by omega)]; exact Rc.2.2.2 r hr
  · intro j hj; have hj : j < im := hj; exact (Ir.2.2.2.2.2 j hj).cg (fun q => by rw [fI_I, if_neg (by omega)])
  · rw [fI_I, if_neg (by omega)]; exact hz
set_option maxRecDepth 20000 in
theorem t_X10_clear {g : fGP} {d : Nat} {σ : fAH} {Q : fRes → fAH → Prop} {x : fXS}  (Ms : fMs g σ) (ok : fOK x) (Ir : fIr σ x) (h : ∀ σ', fSm fRfA σ σ' → fIr σ' (xD x, (iS (xI x), iT (xI x), iq (xI x), 0, iP (xI x), irn (xI x), iR (xI x)), xB x, xt x, xp x, xm x, xM x) → fI σ' 89 0 = nI 0 → Q (.inl (some (.int (nI (ipn (xI x)))))) σ') : fEv g (d) mX10_clear 0 (fent [.ref 89] 2) [] σ Q := by
  have S9 : fSm (fun a => a = 89) σ (fsI σ 89 0 (nI 0)) := fSm_I rfl
  show fEv g (d) mX10_clear 0 [some (.ref 89), none] [] σ Q
  refine e_aload_n dX10_clear_0 rfl rfl ?_
  refine e_iconst (nI 0) dX10_clear_1 (by decide) ?_
  refine e_putI dX10_clear_2 fl_RX10_76 (Ms.s 89 rfl) (Ms.n (by decide)) rfl rfl ?_
  exact lp_X10_clear (Ms.sm S9) ok (Ir.f0 ok S9 (fun a (q : a = 89) => Or.inl (by omega)) (fun j hj => by simp only [List.mem_cons, List.not_mem_nil, or_false] at hj; rw [fI_I, if_neg (by omega)])) (by rw [fI_I, if_pos ⟨rfl, rfl⟩])  (fun σ' Sm' => h σ' ((S9.to (fun a (q : a = 89) => by unfold fRfA; omega)).tr Sm'))
