theorem msum_le2 {f h : Nat → Nat} : ∀ n, (∀ i, f i ≤ h i) → msum f n ≤ msum h n
  | 0, _ => Nat.le_refl _
  | n + 1, e => Nat.add_le_add (msum_le2 n e) (e n)
theorem mpart_8 {D : fSD} (hD : fWD D) (t c : Nat) : mpart D t c ≤ 8 := by
  refine Nat.le_trans (msum_le2 _ (fun i => ?_)) (hD.2.2.2.2.2 t)
  show (if _ then _ else _) ≤ if _ then _ else _
  split
  · next q => rw [if_pos q.1]; exact Nat.le_refl _
  · exact Nat.zero_le _
theorem mctr_up {R : Nat → Nat} {c v : Nat} : ∀ (n i : Nat), mct (fun j => decide (mup R (i + n) v j = c)) (n + 1) i = mct (fun j => decide (R j = c)) n i + bn (decide (v = c))
  | 0, i => by
    unfold mct
    rw [Nat.add_zero, mup_s]
    show bn _ + 0 = 0 + _
    omega
  | n + 1, i => by
    have h := mctr_up (R := R) (c := c) (v := v) n (i + 1)
    rw [show i + 1 + n = i + (n + 1) by omega] at h
    show bn (decide (mup R (i + (n + 1)) v i = c)) + mct (fun j => decide (mup R (i + (n + 1)) v j = c)) (n + 1) (i + 1) = bn (decide (R i = c)) + mct (fun j => decide (R j = c)) n (i + 1) + _
    rw [h, mup_n _ _ (by omega)]
    omega
theorem mcr_up {i : fIm} {v : Nat} (c : Nat) : mcr (iS i, iT i, iq i, ipn i, iP i, irn i + 1, mup (iR i) (irn i) v) c = mcr i c + bn (decide (v = c)) := by
  have h := mctr_up (R := iR i) (c := c) (v := v) (irn i) 0
  rw [Nat.zero_add] at h
  exact h
set_option maxRecDepth 20000 in
theorem l_X9_odds {g : fGP} {d : Nat} {σ : fAH} {Q : fRes → fAH → Prop} {D : fSD} {t k : Nat} (Ms : fMs g σ) (Gs : fGs g σ 2) (Gr : fGr σ 2 D) (hD : fWD D) (ht : t < 30) (hk : 1 ≤ k) : ∀ (n c : Nat) (a : Nat), c + n = 10 → k ≤ c → a ≤ 8 * c → Q (.inl (some (.int (nI (moc D t n c a))))) σ → fEv g (d) mX9_odds 19 [some (.ref 0), some (.int (nI t)), some (.int (nI k)), some (.int (nI a)), some (.int (nI c))] [] σ Q := by
  obtain ⟨⟨g0, g1, g2, g3, g4, g5⟩, ⟨gn, gK⟩, ⟨gr0, gr1, gr2, gr3, gr4⟩⟩ := id Gs
  intro n
  induction n with
  | zero =>
    intro c a hin hkc ha h
    refine e_iload dX9_odds_19 rfl ?_
    refine e_bipush (nI 10) dX9_odds_21 (by decide) ?_
    refine e_icmp_ge 50 dX9_odds_23 (by decide) (fun cz => ?_) (fun cz => absurd ((nI_le' (by omega) (by omega)).mpr (by omega)) cz)
    refine e_iload_n dX9_odds_50 rfl rfl ?_
    exact e_ireturn .int dX9_odds_51 rfl rfl h
  | succ n ih =>
    intro c a hin hkc ha h
    have hi : c < 10 := by omega
    have m8 := mpart_8 hD t c
    refine e_iload dX9_odds_19 rfl ?_
    refine e_bipush (nI 10) dX9_odds_21 (by decide) ?_
    refine e_icmp_ge 50 dX9_odds_23 (by decide) (fun cz => absurd ((nI_le' (by omega) (by omega)).mp cz) (by omega)) (fun cz => ?_)
    refine e_iload_n dX9_odds_26 rfl rfl ?_
    refine e_aload_n dX9_odds_27 rfl rfl ?_
    refine e_getR (q := 2) dX9_odds_28 fl_RX9_23 (Ms.s 0 rfl) (Ms.n (by decide)) rfl (Ms.r 0 3 rfl) (by unfold fscr; omega) ?_
    refine e_getR (q := 2 + 5) dX9_odds_31 fl_RX9_192 g0 (show 2 < fnx σ by omega) rfl gr4 (by unfold fscr; omega) ?_
    refine e_iload_n dX9_odds_34 rfl rfl ?_
    refine e_bipush (nI 10) dX9_odds_35 (by decide) ?_
    refine e_imul dX9_odds_37 ?_
    refine e_int (nI (t * 10)) (pk_mul t 10) ?_
    refine e_iload dX9_odds_38 rfl ?_
    refine e_iadd dX9_odds_40 ?_
    refine e_int (nI (t * 10 + c)) (nI_add (t * 10) c) ?_
    refine e_iaload (t * 10 + c) dX9_odds_41 g5 (show 2 + 5 < fnx σ by omega) rfl (by omega) (by decide) ?_
    refine e_int (nI (mpart D t c)) ((Gr.2.2.2.2.2 t (by omega)).2 c (by omega) (by omega)) ?_
    refine e_iadd dX9_odds_42 ?_
    refine e_int (nI (a + mpart D t c)) (nI_add a (mpart D t c)) ?_
    refine e_istore_n (L1 := [some (.ref 0), some (.int (nI t)), some (.int (nI k)), some (.int (nI (a + mpart D t c))), some (.int (nI c))]) dX9_odds_43 rfl (by decide) rfl ?_
    refine e_iinc (v := nI (c + 1)) (L1 := [some (.ref 0), some (.int (nI t)), some (.int (nI k)), some (.int (nI (a + mpart D t c))), some (.int (nI (c + 1)))]) dX9_odds_44 rfl (show nI c + Int32.ofInt 1 = nI (c + 1) from nI_add c 1) (by decide) rfl ?_
    refine e_goto 19 dX9_odds_47 (by decide) ?_
    rw [show moc D t (n + 1) c a = moc D t n (c + 1) (a + mpart D t c) from rfl] at h
    exact ih (c + 1) (a + mpart D t c) (by omega) (by omega) (by omega) h
set_option maxRecDepth 20000 in
theorem t_X9_odds {g : fGP} {d : Nat} {σ : fAH} {Q : fRes → fAH → Prop} {x : fXS} {t k : Nat}  (Ms : fMs g σ) (ok : fOK x) (Ic : fIc σ x) (ht : t < 30) (hk : 1 ≤ k ∧ k ≤ 9) (h : Q (.inl (some (.int (nI (moc (xD x) t (10 - k) k 0))))) σ) : fEv g (d + 1) mX9_odds 0 (fent [.ref 0, .int (nI t), .int (nI k)] 5) [] σ Q := by
  obtain ⟨D, ⟨S, T, sd, pn, P, rn, R⟩, B, tp, pl, im, Im⟩ := x
  have hD : fWD D := ok.1
  have hW : fWS D S := ok.2.1.1
  have hC : fWC D S := ok.2.1.2.1
  have hN : fWN S 0 0 := ok.2.1.2.2.1
  have Gr : fGr σ 2 D := Ic.1
  obtain ⟨⟨m, Yr⟩, Yt⟩ : fYf σ 15 D S T sd := Ic.2.1
  have Gs := Ms.ground (k := 2) (by decide)
  have Ys := Ms.yard (k := 15) (by decide)
  obtain ⟨⟨g0, g1, g2, g3, g4, g5⟩, ⟨gn, gK⟩, ⟨gr0, gr1, gr2, gr3, gr4⟩⟩ := id Gs
  obtain ⟨⟨y0, y1, y2, y3, y4, y5, y6⟩, ⟨yn, yK⟩, ⟨yr0, yr1, yr2, yr3, yr4, yr5, yr6⟩⟩ := id Ys
  obtain ⟨t0, t1, t2, t3, t4, t5, t6⟩ := id hD.1
  have np := hW.n hD
  have n5 := hW.2.2.2.2
  have tp6 : tp ≤ 600 := ok.2.2.2.1
  have im3 : im ≤ 3 := ok.2.2.2.2.1
  have pn3 : pn ≤ 30 := ok.2.1.2.2.2.1
  have rn6 : rn ≤ 60 := ok.2.1.2.2.2.2.2.1
  have Dc : fDc σ 29 (S, T, sd, pn, P, rn, R) := Ic.2.2.1
  have w52 := hW.1
  show fEv g (d + 1) mX9_odds 0 [some (.ref 0), some (.int (nI t)), some (.int (nI k)), none, none] [] σ Q
  refine e_iload_n dX9_odds_0 rfl rfl ?_
  refine e_iconst (nI 0) dX9_odds_1 (by decide) ?_
  refine e_bipush (nI 29) dX9_odds_2 (by decide) ?_
  refine e_callS [.int (nI t), .int (nI 0), .int (nI 29)] dX9_odds_4 cc_X9_checkRange lk_RX9_153 st_X9_checkRange in_RX9 rfl (Nat.le_of_ble_eq_true rfl) (Nat.le_of_ble_eq_true rfl) ?_
  refine t_X9_checkRange ⟨(nI_le' (by omega) (by omega)).mpr (by omega), (nI_le' (by omega) (by omega)).mpr (by omega)⟩ (fK_v ?_)
  show fEv g _ mX9_odds 7 [some (.ref 0), some (.int (nI t)), some (.int (nI k)), none, none] [] σ Q
  refine e_iload_n dX9_odds_7 rfl rfl ?_
  refine e_iconst (nI 1) dX9_odds_8 (by decide) ?_
  refine e_bipush (nI 9) dX9_odds_9 (by decide) ?_
  refine e_callS [.int (nI k), .int (nI 1), .int (nI 9)] dX9_odds_11 cc_X9_checkRange lk_RX9_153 st_X9_checkRange in_RX9 rfl (Nat.le_of_ble_eq_true rfl) (Nat.le_of_ble_eq_true rfl) ?_
  refine t_X9_checkRange ⟨(nI_le' (by omega) (by omega)).mpr (by omega), (nI_le' (by omega) (by omega)).mpr (by omega)⟩ (fK_v ?_)
  show fEv g _ mX9_odds 14 [some (.ref 0), some (.int (nI t)), some (.int (nI k)), none, none] [] σ Q
  refine e_iconst (nI 0) dX9_odds_14 (by decide) ?_
  refine e_istore_n (L1 := [some (.ref 0), some (.int (nI t)), some (.int (nI k)), some (.int (nI 0)), none]) dX9_odds_15 rfl (by decide) rfl ?_
  refine e_iload_n dX9_odds_16 rfl rfl ?_
  refine e_istore (L1 := [some (.ref 0), some (.int (nI t)), some (.int (nI k)), some (.int (nI 0)), some (.int (nI k))]) dX9_odds_17 (by decide) rfl ?_
  exact l_X9_odds Ms Gs Gr hD ht hk.1 (10 - k) k 0 (by omega) (Nat.le_refl _) (Nat.zero_le _) h
set_option maxRecDepth 20000 in
theorem t_X9_oddsE1 {g : fGP} {d : Nat} {σ : fAH} {Q : fRes → fAH → Prop} {x : fXS} {a b : Int32}  (Ms : fMs g σ) (ok : fOK x) (Ic : fIc σ x) (hv : ¬ (nI 0 ≤ a ∧ a ≤ nI 29)) (rm : fnx σ + fgb σ + 1 ≤ 601024 ∧ fsu σ + 6 ≤ 7293034) (h : Q (.inr "java/lang/IllegalArgumentException") (fthr σ)) : fEv g (d + 1) mX9_odds 0 (fent [.ref 0, .int a, .int b] 5) [] σ Q := by
  obtain ⟨D, ⟨S, T, sd, pn, P, rn, R⟩, B, tp, pl, im, Im⟩ := x
  have hD : fWD D := ok.1
  have hW : fWS D S := ok.2.1.1
  have hC : fWC D S := ok.2.1.2.1
  have hN : fWN S 0 0 := ok.2.1.2.2.1
  have Gr : fGr σ 2 D := Ic.1
  obtain ⟨⟨m, Yr⟩, Yt⟩ : fYf σ 15 D S T sd := Ic.2.1
  have Gs := Ms.ground (k := 2) (by decide)
  have Ys := Ms.yard (k := 15) (by decide)
  obtain ⟨⟨g0, g1, g2, g3, g4, g5⟩, ⟨gn, gK⟩, ⟨gr0, gr1, gr2, gr3, gr4⟩⟩ := id Gs
  obtain ⟨⟨y0, y1, y2, y3, y4, y5, y6⟩, ⟨yn, yK⟩, ⟨yr0, yr1, yr2, yr3, yr4, yr5, yr6⟩⟩ := id Ys
  obtain ⟨t0, t1, t2, t3, t4, t5, t6⟩ := id hD.1
  have np := hW.n hD
  have n5 := hW.2.2.2.2
  have tp6 : tp ≤ 600 := ok.2.2.2.1
  have im3 : im ≤ 3 := ok.2.2.2.2.1
  have pn3 : pn ≤ 30 := ok.2.1.2.2.2.1
  have rn6 : rn ≤ 60 := ok.2.1.2.2.2.2.2.1
  have Dc : fDc σ 29 (S, T, sd, pn, P, rn, R) := Ic.2.2.1
  have w52 := hW.1
  show fEv g (d + 1) mX9_odds 0 [some (.ref 0), some (.int a), some (.int b), none, none] [] σ Q
  refine e_iload_n dX9_odds_0 rfl rfl ?_
  refine e_iconst (nI 0) dX9_odds_1 (by decide) ?_
  refine e_bipush (nI 29) dX9_odds_2 (by decide) ?_
  refine e_callS [.int a, .int (nI 0), .int (nI 29)] dX9_odds_4 cc_X9_checkRange lk_RX9_153 st_X9_checkRange in_RX9 rfl (Nat.le_of_ble_eq_true rfl) (Nat.le_of_ble_eq_true rfl) ?_
  exact t_X9_checkRangeE hv rm (t_out rfl h)
set_option maxRecDepth 20000 in
theorem t_X9_oddsE2 {g : fGP} {d : Nat} {σ : fAH} {Q : fRes → fAH → Prop} {x : fXS} {t : Nat} {b : Int32}  (Ms : fMs g σ) (ok : fOK x) (Ic : fIc σ x) (ht : t < 30) (hv : ¬ (nI 1 ≤ b ∧ b ≤ nI 9)) (rm : fnx σ + fgb σ + 1 ≤ 601024 ∧ fsu σ + 6 ≤ 7293034) (h : Q (.inr "java/lang/IllegalArgumentException") (fthr σ)) : fEv g (d + 1) mX9_odds 0 (fent [.ref 0, .int (nI t), .int b] 5) [] σ Q := by
  obtain ⟨D, ⟨S, T, sd, pn, P, rn, R⟩, B, tp, pl, im, Im⟩ := x
  have hD : fWD D := ok.1
  have hW : fWS D S := ok.2.1.1
  have hC : fWC D S := ok.2.1.2.1
  have hN : fWN S 0 0 := ok.2.1.2.2.1
  have Gr : fGr σ 2 D := Ic.1
  obtain ⟨⟨m, Yr⟩, Yt⟩ : fYf σ 15 D S T sd := Ic.2.1
  have Gs := Ms.ground (k := 2) (by decide)
  have Ys := Ms.yard (k := 15) (by decide)
  obtain ⟨⟨g0, g1, g2, g3, g4, g5⟩, ⟨gn, gK⟩, ⟨gr0, gr1, gr2, gr3, gr4⟩⟩ := id Gs
  obtain ⟨⟨y0, y1, y2, y3, y4, y5, y6⟩, ⟨yn, yK⟩, ⟨yr0, yr1, yr2, yr3, yr4, yr5, yr6⟩⟩ := id Ys
  obtain ⟨t0, t1, t2, t3, t4, t5, t6⟩ := id hD.1
  have np := hW.n hD
  have n5 := hW.2.2.2.2
  have tp6 : tp ≤ 600 := ok.2.2.2.1
  have im3 : im ≤ 3 := ok.2.2.2.2.1
  have pn3 : pn ≤ 30 := ok.2.1.2.2.2.1
  have rn6 : rn ≤ 60 := ok.2.1.2.2.2.2.2.1
  have Dc : fDc σ 29 (S, T, sd, pn, P, rn, R) := Ic.2.2.1
  have w52 := hW.1
  show fEv g (d + 1) mX9_odds 0 [some (.ref 0), some (.int (nI t)), some (.int b), none, none] [] σ Q
  refine e_iload_n dX9_odds_0 rfl rfl ?_
  refine e_iconst (nI 0) dX9_odds_1 (by decide) ?_
  refine e_bipush (nI 29) dX9_odds_2 (by decide) ?_
  refine e_callS [.int (nI t), .int (nI 0), .int (nI 29)] dX9_odds_4 cc_X9_checkRange lk_RX9_153 st_X9_checkRange in_RX9 rfl (Nat.le_of_ble_eq_true rfl) (Nat.le_of_ble_eq_true rfl) ?_
  refine t_X9_checkRange ⟨(nI_le' (by omega) (by omega)).mpr (by omega), (nI_le' (by omega) (by omega)).mpr (by omega)⟩ (fK_v ?_)
  show fEv g _ mX9_odds 7 [some (.ref 0), some (.int (nI t)), some (.int b), none, none] [] σ Q
  refine e_iload_n dX9_odds_7 rfl rfl ?_
  refine e_iconst (nI 1) dX9_odds_8 (by decide) ?_
  refine e_bipush (nI 9) dX9_odds_9 (by decide) ?_
  refine e_callS [.int b, .int (nI 1), .int (nI 9)] dX9_odds_11 cc_X9_checkRange lk_RX9_153 st_X9_checkRange in_RX9 rfl (Nat.le_of_ble_eq_true rfl) (Nat.le_of_ble_eq_true rfl) ?_
  exact t_X9_checkRangeE hv rm (t_out rfl h)
set_option maxRecDepth 20000 in
theorem l_X9_face {g : fGP} {d : Nat} {σ : fAH} {Q : fRes → fAH → Prop} {D : fSD} {S : Nat → Nat} {T : Nat → Int32} {m nd : Nat} {sd : Int32} {o1 : Option Value} (Ms : fMs g σ) (Ys : fYs g σ 15 2) (Yr : fYr σ 15 D S m sd) (Yt : fYt σ 15 S T) (n5 : S 155 ≤ 30) : ∀ (n i : Nat) (b : Int32), i + n = S 155 → Q (.inl (some (.int (mfc T nd n i b)))) σ → fEv g (d) mX9_face 19 [some (.ref 0), o1, some (.int (nI nd)), some (.int b), some (.int (nI i))] [] σ Q := by
  obtain ⟨⟨y0, y1, y2, y3, y4, y5, y6⟩, ⟨yn, yK⟩, ⟨yr0, yr1, yr2, yr3, yr4, yr5, yr6⟩⟩ := id Ys
  intro n
  induction n with
  | zero =>
    intro i b hin  h
    refine e_iload dX9_face_19 rfl ?_
    refine e_aload_n dX9_face_21 rfl rfl ?_
    refine e_getR (q := 15) dX9_face_22 fl_RX9_41 (Ms.s 0 rfl) (Ms.n (by decide)) rfl (Ms.r 0 5 rfl) (by unfold fscr; omega) ?_
    refine e_getI dX9_face_25 fl_RX9_142 y0 (show 15 < fnx σ by omega) rfl ?_
    refine e_int (nI (S 155)) Yr.1.2.2.1 ?_
    refine e_icmp_ge 65 dX9_face_28 (by decide) (fun cz => ?_) (fun cz => absurd ((nI_le' (by omega) (by omega)).mpr (by omega)) cz)
    refine e_iload_n dX9_face_65 rfl rfl ?_
    exact e_ireturn .int dX9_face_66 rfl rfl h
  | succ n ih =>
    intro i b hin  h
    have hi : i < S 155 := by omega
    refine e_iload dX9_face_19 rfl ?_
    refine e_aload_n dX9_face_21 rfl rfl ?_
    refine e_getR (q := 15) dX9_face_22 fl_RX9_41 (Ms.s 0 rfl) (Ms.n (by decide)) rfl (Ms.r 0 5 rfl) (by unfold fscr; omega) ?_
    refine e_getI dX9_face_25 fl_RX9_142 y0 (show 15 < fnx σ by omega) rfl ?_
    refine e_int (nI (S 155)) Yr.1.2.2.1 ?_
    refine e_icmp_ge 65 dX9_face_28 (by decide) (fun cz => absurd ((nI_le' (by omega) (by omega)).mp cz) (by omega)) (fun cz => ?_)
    refine e_iload dX9_face_31 rfl ?_
    refine e_bipush (nI 30) dX9_face_33 (by decide) ?_
    refine e_icmp_ge 65 dX9_face_35 (by decide) (fun c => absurd c (fun q => absurd ((nI_le' (by omega) (by omega)).mp q) (by omega))) (fun _ => ?_)
    refine e_aload_n dX9_face_38 rfl rfl ?_
    refine e_getR (q := 15) dX9_face_39 fl_RX9_41 (Ms.s 0 rfl) (Ms.n (by decide)) rfl (Ms.r 0 5 rfl) (by unfold fscr; omega) ?_
    refine e_getR (q := 15 + 4) dX9_face_42 fl_RX9_240 y0 (show 15 < fnx σ by omega) rfl yr4 (by unfold fscr; omega) ?_
    refine e_iload dX9_face_45 rfl ?_
    refine e_iaload i dX9_face_47 y4 (show 15 + 4 < fnx σ by omega) rfl (by omega) (by decide) ?_
    refine e_int (T (100 + i)) (Yt.2 i (by omega)) ?_
    refine e_iload_n dX9_face_48 rfl rfl ?_
    refine e_icmp_lt 59 dX9_face_49 (by decide) (fun c49 => ?_) (fun c49 => ?_)
    · refine e_iinc (v := nI (i + 1)) (L1 := [some (.ref 0), o1, some (.int (nI nd)), some (.int b), some (.int (nI (i + 1)))]) dX9_face_59 rfl (show nI i + Int32.ofInt 1 = nI (i + 1) from nI_add i 1) (by decide) rfl ?_
      refine e_goto 19 dX9_face_62 (by decide) ?_
      rw [show mfc T nd (n + 1) i b = mfc T nd n (i + 1) (if T (100 + i) < nI nd then b else b ||| (nI 1 <<< (nI i &&& 31))) from rfl, if_pos c49] at h
      exact ih (i + 1) _ (by omega) h
    · refine e_iload_n dX9_face_52 rfl rfl ?_
      refine e_iconst (nI 1) dX9_face_53 (by decide) ?_
      refine e_iload dX9_face_54 rfl ?_
      refine e_ishl dX9_face_56 ?_
      refine e_ior dX9_face_57 ?_
      refine e_istore_n (L1 := [some (.ref 0), o1, some (.int (nI nd)), some (.int (b ||| ((nI 1) <<< ((nI i) &&& 31)))), some (.int (nI i))]) dX9_face_58 rfl (by decide) rfl ?_
      refine e_iinc (v := nI (i + 1)) (L1 := [some (.ref 0), o1, some (.int (nI nd)), some (.int (b ||| ((nI 1) <<< ((nI i) &&& 31)))), some (.int (nI (i + 1)))]) dX9_face_59 rfl (show nI i + Int32.ofInt 1 = nI (i + 1) from nI_add i 1) (by decide) rfl ?_
      refine e_goto 19 dX9_face_62 (by decide) ?_
      rw [show mfc T nd (n + 1) i b = mfc T nd n (i + 1) (if T (100 + i) < nI nd then b else b ||| (nI 1 <<< (nI i &&& 31))) from rfl, if_neg c49] at h
      exact ih (i + 1) _ (by omega) h
set_option maxRecDepth 20000 in
theorem t_X9_face {g : fGP} {d : Nat} {σ : fAH} {Q : fRes → fAH → Prop} {x : fXS} {k : Nat}  (Ms : fMs g σ) (ok : fOK x) (Ic : fIc σ x) (hk : k < dT (xD x) 1) (h : Q (.inl (some (.int (mfc (iT (xI x)) (mneed (xD x) (iS (xI x)) k) ((iS (xI x)) 155) 0 (nI 0))))) σ) : fEv g (d + 2) mX9_face 0 (fent [.ref 0, .int (nI k)] 5) [] σ Q := by
  obtain ⟨D, ⟨S, T, sd, pn, P, rn, R⟩, B, tp, pl, im, Im⟩ := x
  have hD : fWD D := ok.1
  have hW : fWS D S := ok.2.1.1
  have hC : fWC D S := ok.2.1.2.1
  have hN : fWN S 0 0 := ok.2.1.2.2.1
  have Gr : fGr σ 2 D := Ic.1
  obtain ⟨⟨m, Yr⟩, Yt⟩ : fYf σ 15 D S T sd := Ic.2.1
  have Gs := Ms.ground (k := 2) (by decide)
  have Ys := Ms.yard (k := 15) (by decide)
  obtain ⟨⟨g0, g1, g2, g3, g4, g5⟩, ⟨gn, gK⟩, ⟨gr0, gr1, gr2, gr3, gr4⟩⟩ := id Gs
  obtain ⟨⟨y0, y1, y2, y3, y4, y5, y6⟩, ⟨yn, yK⟩, ⟨yr0, yr1, yr2, yr3, yr4, yr5, yr6⟩⟩ := id Ys
  obtain ⟨t0, t1, t2, t3, t4, t5, t6⟩ := id hD.1
  have np := hW.n hD
  have n5 := hW.2.2.2.2
  have tp6 : tp ≤ 600 := ok.2.2.2.1
  have im3 : im ≤ 3 := ok.2.2.2.2.1
  have pn3 : pn ≤ 30 := ok.2.1.2.2.2.1
  have rn6 : rn ≤ 60 := ok.2.1.2.2.2.2.2.1
  have Dc : fDc σ 29 (S, T, sd, pn, P, rn, R) := Ic.2.2.1
  have w52 := hW.1
  have hk : k < dT D 1 := hk
  show fEv g (d + 2) mX9_face 0 [some (.ref 0), some (.int (nI k)), none, none, none] [] σ Q
  refine e_aload_n dX9_face_0 rfl rfl ?_
  refine e_iload_n dX9_face_1 rfl rfl ?_
  refine e_callV (k := 0) [.int (nI k)] dX9_face_2 cc_X9_checkSlot lk_RX9_150 im_X9_checkSlot se_X9_checkSlot (by decide) (Ms.s 0 rfl) (Ms.n (by decide)) rfl (Nat.le_of_ble_eq_true rfl) (Nat.le_of_ble_eq_true rfl) ?_
  refine t_X9_checkSlot Ms Gr hD (by omega) (fK_v ?_)
  show fEv g _ mX9_face 5 [some (.ref 0), some (.int (nI k)), none, none, none] [] σ Q
  refine e_aload_n dX9_face_5 rfl rfl ?_
  refine e_getR (q := 15) dX9_face_6 fl_RX9_41 (Ms.s 0 rfl) (Ms.n (by decide)) rfl (Ms.r 0 5 rfl) (by unfold fscr; omega) ?_
  refine e_iload_n dX9_face_9 rfl rfl ?_
  refine e_callV (k := 15) [.int (nI k)] dX9_face_10 cc_X8_needOf lk_RX9_161 im_X8_needOf se_X8_needOf (by decide) y0 (show 15 < fnx σ by omega) rfl (Nat.le_of_ble_eq_true rfl) (Nat.le_of_ble_eq_true rfl) ?_
  refine t_X8_needOf Gs Gr hD Ys Yr hW (by omega) (fK_i ?_)
  show fEv g _ mX9_face 13 [some (.ref 0), some (.int (nI k)), none, none, none] [.int (nI (mneed D S k))] σ Q
  refine e_istore_n (L1 := [some (.ref 0), some (.int (nI k)), some (.int (nI (mneed D S k))), none, none]) dX9_face_13 rfl (by decide) rfl ?_
  refine e_iconst (nI 0) dX9_face_14 (by decide) ?_
  refine e_istore_n (L1 := [some (.ref 0), some (.int (nI k)), some (.int (nI (mneed D S k))), some (.int (nI 0)), none]) dX9_face_15 rfl (by decide) rfl ?_
  refine e_iconst (nI 0) dX9_face_16 (by decide) ?_
  refine e_istore (L1 := [some (.ref 0), some (.int (nI k)), some (.int (nI (mneed D S k))), some (.int (nI 0)), some (.int (nI 0))]) dX9_face_17 (by decide) rfl ?_
  exact l_X9_face Ms Ys Yr Yt n5 (S 155) 0 (nI 0) (by omega) h
set_option maxRecDepth 20000 in
theorem t_X9_faceE {g : fGP} {d : Nat} {σ : fAH} {Q : fRes → fAH → Prop} {x : fXS} {a : Int32}  (Ms : fMs g σ) (ok : fOK x) (Ic : fIc σ x) (hv : ¬ (nI 0 ≤ a ∧ a < nI (dT (xD x) 1))) (rm : fnx σ + fgb σ + 1 ≤ 601024 ∧ fsu σ + 6 ≤ 7293034) (h : Q (.inr "java/util/NoSuchElementException") (fthr σ)) : fEv g (d + 1) mX9_face 0 (fent [.ref 0, .int a] 5) [] σ Q := by
  obtain ⟨D, ⟨S, T, sd, pn, P, rn, R⟩, B, tp, pl, im, Im⟩ := x
  have hD : fWD D := ok.1
  have hW : fWS D S := ok.2.1.1
  have hC : fWC D S := ok.2.1.2.1
  have hN : fWN S 0 0 := ok.2.1.2.2.1
  have Gr : fGr σ 2 D := Ic.1
  obtain ⟨⟨m, Yr⟩, Yt⟩ : fYf σ 15 D S T sd := Ic.2.1
  have Gs := Ms.ground (k := 2) (by decide)
  have Ys := Ms.yard (k := 15) (by decide)
  obtain ⟨⟨g0, g1, g2, g3, g4, g5⟩, ⟨gn, gK⟩, ⟨gr0, gr1, gr2, gr3, gr4⟩⟩ := id Gs
  obtain ⟨⟨y0, y1, y2, y3, y4, y5, y6⟩, ⟨yn, yK⟩, ⟨yr0, yr1, yr2, yr3, yr4, yr5, yr6⟩⟩ := id Ys
  obtain ⟨t0, t1, t2, t3, t4, t5, t6⟩ := id hD.1
  have np := hW.n hD
  have n5 := hW.2.2.2.2
  have tp6 : tp ≤ 600 := ok.2.2.2.1
  have im3 : im ≤ 3 := ok.2.2.2.2.1
  have pn3 : pn ≤ 30 := ok.2.1.2.2.2.1
  have rn6 : rn ≤ 60 := ok.2.1.2.2.2.2.2.1
  have Dc : fDc σ 29 (S, T, sd, pn, P, rn, R) := Ic.2.2.1
  have w52 := hW.1
  show fEv g (d + 1) mX9_face 0 [some (.ref 0), some (.int a), none, none, none] [] σ Q
  refine e_aload_n dX9_face_0 rfl rfl ?_
  refine e_iload_n dX9_face_1 rfl rfl ?_
  refine e_callV (k := 0) [.int a] dX9_face_2 cc_X9_checkSlot lk_RX9_150 im_X9_checkSlot se_X9_checkSlot (by decide) (Ms.s 0 rfl) (Ms.n (by decide)) rfl (Nat.le_of_ble_eq_true rfl) (Nat.le_of_ble_eq_true rfl) ?_
  exact t_X9_checkSlotE Ms Gr hD hv rm (t_out rfl h)
set_option maxRecDepth 20000 in
theorem t_X9_seed {g : fGP} {d : Nat} {σ : fAH} {Q : fRes → fAH → Prop} {x : fXS} {a : Int32}  (Ms : fMs g σ) (ok : fOK x) (Ic : fIc σ x) (h : ∀ σ', fSm fClA σ σ' → fIc σ' ((xD x, (iS (xI x), iT (xI x), a, ipn (xI x), iP (xI x), irn (xI x), iR (xI x)), xB x, xt x, xp x, xm x, xM x)) → Q (.inl (some (.int (iq (xI x))))) σ') : fEv g (d) mX9_seed 0 (fent [.ref 0, .int a] 3) [] σ Q := by
  obtain ⟨D, ⟨S, T, sd, pn, P, rn, R⟩, B, tp, pl, im, Im⟩ := x
  have hD : fWD D := ok.1
  have hW : fWS D S := ok.2.1.1
  have hC : fWC D S := ok.2.1.2.1
  have hN : fWN S 0 0 := ok.2.1.2.2.1
  have Gr : fGr σ 2 D := Ic.1
  obtain ⟨⟨m, Yr⟩, Yt⟩ : fYf σ 15 D S T sd := Ic.2.1
  have Gs := Ms.ground (k := 2) (by decide)
  have Ys := Ms.yard (k := 15) (by decide)
  obtain ⟨⟨g0, g1, g2, g3, g4, g5⟩, ⟨gn, gK⟩, ⟨gr0, gr1, gr2, gr3, gr4⟩⟩ := id Gs
  obtain ⟨⟨y0, y1, y2, y3, y4, y5, y6⟩, ⟨yn, yK⟩, ⟨yr0, yr1, yr2, yr3, yr4, yr5, yr6⟩⟩ := id Ys
  obtain ⟨t0, t1, t2, t3, t4, t5, t6⟩ := id hD.1
  have np := hW.n hD
  have n5 := hW.2.2.2.2
  have tp6 : tp ≤ 600 := ok.2.2.2.1
  have im3 : im ≤ 3 := ok.2.2.2.2.1
  have pn3 : pn ≤ 30 := ok.2.1.2.2.2.1
  have rn6 : rn ≤ 60 := ok.2.1.2.2.2.2.2.1
  have Dc : fDc σ 29 (S, T, sd, pn, P, rn, R) := Ic.2.2.1
  have w52 := hW.1
  show fEv g (d) mX9_seed 0 [some (.ref 0), some (.int a), none] [] σ Q
  refine e_aload_n dX9_seed_0 rfl rfl ?_
  refine e_getR (q := 15) dX9_seed_1 fl_RX9_41 (Ms.s 0 rfl) (Ms.n (by decide)) rfl (Ms.r 0 5 rfl) (by unfold fscr; omega) ?_
  refine e_getR (q := 15 + 6) dX9_seed_4 fl_RX9_195 y0 (show 15 < fnx σ by omega) rfl yr6 (by unfold fscr; omega) ?_
  refine e_getI dX9_seed_7 fl_RX9_199 y6 (show 15 + 6 < fnx σ by omega) rfl ?_
  refine e_int (sd) Yr.1.2.2.2.2.2.2.2 ?_
  refine e_istore_n (L1 := [some (.ref 0), some (.int a), some (.int sd)]) dX9_seed_10 rfl (by decide) rfl ?_
  refine e_aload_n dX9_seed_11 rfl rfl ?_
  refine e_getR (q := 15) dX9_seed_12 fl_RX9_41 (Ms.s 0 rfl) (Ms.n (by decide)) rfl (Ms.r 0 5 rfl) (by unfold fscr; omega) ?_
  refine e_getR (q := 15 + 6) dX9_seed_15 fl_RX9_195 y0 (show 15 < fnx σ by omega) rfl yr6 (by unfold fscr; omega) ?_
  refine e_iload_n dX9_seed_18 rfl rfl ?_
  refine e_putI dX9_seed_19 fl_RX9_199 y6 (show 15 + 6 < fnx σ by omega) rfl rfl ?_
  refine e_iload_n dX9_seed_22 rfl rfl ?_
  exact e_ireturn .int dX9_seed_23 rfl rfl (h _ (fSm_I (A := fClA) (by unfold fClA; omega)) (Ic.cur (i := (S, T, a, pn, P, rn, R)) ok (fSm_I (A := fun q => q = 15 + 6) rfl) (fun q (e : q = 15 + 6) => by omega) (fun j _ => by rw [fI_I, if_neg (by omega)]) ⟨⟨m, Yr.sdx a⟩, Yt.cg (fI_ne (by omega)) (fI_ne (by omega)) rfl rfl⟩ Dc Ic.2.2.2.2.2.1 (Ic.2.2.2.2.2.2.sm (fSm_I (A := fun q => q = 15 + 6) rfl) (fun q (e : q = 15 + 6) => by omega))))
set_option maxRecDepth 20000 in
theorem t_X9_clear {g : fGP} {d : Nat} {σ : fAH} {Q : fRes → fAH → Prop} {x : fXS}  (Ms : fMs g σ) (ok : fOK x) (Ic : fIc σ x) (h : ∀ σ', fSm fClA σ σ' → fIc σ' ((xD x, (iS (xI x), iT (xI x), iq (xI x), 0, iP (xI x), irn (xI x), iR (xI x)), xB x, xt x, xp x, xm x, xM x)) → Q (.inl (some (.int (nI (ipn (xI x)))))) σ') : fEv g (d) mX9_clear 0 (fent [.ref 0] 2) [] σ Q := by
  obtain ⟨D, ⟨S, T, sd, pn, P, rn, R⟩, B, tp, pl, im, Im⟩ := x
  have hD : fWD D := ok.1
  have hW : fWS D S := ok.2.1.1
  have hC : fWC D S := ok.2.1.2.1
  have hN : fWN S 0 0 := ok.2.1.2.2.1
  have Gr : fGr σ 2 D := Ic.1
  obtain ⟨⟨m, Yr⟩, Yt⟩ : fYf σ 15 D S T sd := Ic.2.1
  have Gs := Ms.ground (k := 2) (by decide)
  have Ys := Ms.yard (k := 15) (by decide)
  obtain ⟨⟨g0, g1, g2, g3, g4, g5⟩, ⟨gn, gK⟩, ⟨gr0, gr1, gr2, gr3, gr4⟩⟩ := id Gs
  obtain ⟨⟨y0, y1, y2, y3, y4, y5, y6⟩, ⟨yn, yK⟩, ⟨yr0, yr1, yr2, yr3, yr4, yr5, yr6⟩⟩ := id Ys
  obtain ⟨t0, t1, t2, t3, t4, t5, t6⟩ := id hD.1
  have np := hW.n hD
  have n5 := hW.2.2.2.2
  have tp6 : tp ≤ 600 := ok.2.2.2.1
  have im3 : im ≤ 3 := ok.2.2.2.2.1
  have pn3 : pn ≤ 30 := ok.2.1.2.2.2.1
  have rn6 : rn ≤ 60 := ok.2.1.2.2.2.2.2.1
  have Dc : fDc σ 29 (S, T, sd, pn, P, rn, R) := Ic.2.2.1
  have w52 := hW.1
  show fEv g (d) mX9_clear 0 [some (.ref 0), none] [] σ Q
  refine e_aload_n dX9_clear_0 rfl rfl ?_
  refine e_getR (q := 29) dX9_clear_1 fl_RX9_51 (Ms.s 0 rfl) (Ms.n (by decide)) rfl (Ms.r 0 7 rfl) (by unfold fscr; omega) ?_
  refine e_getI dX9_clear_4 fl_RX9_266 (Ms.s 29 rfl) (Ms.n (by decide)) rfl ?_
  refine e_int (nI pn) Dc.1 ?_
  refine e_istore_n (L1 := [some (.ref 0), some (.int (nI pn))]) dX9_clear_7 rfl (by decide) rfl ?_
  refine e_aload_n dX9_clear_8 rfl rfl ?_
  refine e_getR (q := 29) dX9_clear_9 fl_RX9_51 (Ms.s 0 rfl) (Ms.n (by decide)) rfl (Ms.r 0 7 rfl) (by unfold fscr; omega) ?_
  refine e_iconst (nI 0) dX9_clear_12 (by decide) ?_
  refine e_putI dX9_clear_13 fl_RX9_266 (Ms.s 29 rfl) (Ms.n (by decide)) rfl rfl ?_
  refine e_iload_n dX9_clear_16 rfl rfl ?_
  exact e_ireturn .int dX9_clear_17 rfl rfl (h _ (fSm_I (A := fClA) (by unfold fClA; omega)) (Ic.cur (i := (S, T, sd, 0, P, rn, R)) ok (fSm_I (A := fun q => q = 29) rfl) (fun q (e : q = 29) => by omega) (fun j _ => by rw [fI_I, if_neg (by omega)]) ⟨⟨m, Yr⟩, Yt⟩ ⟨by rw [fI_I, if_pos ⟨rfl, rfl⟩], fun j hj => absurd hj (Nat.not_lt_zero _), Dc.2.2⟩ Ic.2.2.2.2.2.1 (Ic.2.2.2.2.2.2.sm (fSm_I (A := fun q => q = 29) rfl) (fun q (e : q = 29) => by omega))))
set_option maxRecDepth 20000 in
theorem t_X0_addPlanN {g : fGP} {d : Nat} {σ : fAH} {Q : fRes → fAH → Prop} {f : Nat} {i : fIm} {D : fSD} (Ms : fMs g σ) (hO : fOI D i) (Dc : fDc σ 29 i) (hn : ipn i = 30) (h : Q (.inl (some (.int (-1)))) σ) : fEv g d mX0_addPlan 0 (fent [.ref 29, .int (nI f)] 2) [] σ Q := by
  show fEv g d mX0_addPlan 0 [some (.ref 29), some (.int (nI f))] [] σ Q
  refine e_aload_n dX0_addPlan_0 rfl rfl ?_
  refine e_getI dX0_addPlan_1 fl_RX0_15 (Ms.s 29 rfl) (Ms.n (by decide)) rfl ?_
  refine e_int (nI (ipn i)) Dc.1 ?_
  refine e_bipush (nI 30) dX0_addPlan_4 (by decide) ?_
  refine e_icmp_lt 11 dX0_addPlan_6 (by decide) (fun c => absurd c (fun q => absurd ((nI_lt' (by omega) (by omega)).mp q) (by omega))) (fun _ => ?_)
  refine e_iconst (-1) dX0_addPlan_9 (by decide) ?_
  exact e_ireturn .int dX0_addPlan_10 rfl rfl h
set_option maxRecDepth 20000 in
theorem t_X0_addPlan {g : fGP} {d : Nat} {σ : fAH} {Q : fRes → fAH → Prop} {f : Nat} {i : fIm} {D : fSD} (Ms : fMs g σ) (hO : fOI D i) (Dc : fDc σ 29 i) (hn : ipn i < 30) (h : Q (.inl (some (.int (nI (ipn i + 1))))) (fsI (fsI σ 30 (ipn i) (nI f)) 29 1 (nI (ipn i + 1)))) : fEv g d mX0_addPlan 0 (fent [.ref 29, .int (nI f)] 2) [] σ Q := by
  show fEv g d mX0_addPlan 0 [some (.ref 29), some (.int (nI f))] [] σ Q
  refine e_aload_n dX0_addPlan_0 rfl rfl ?_
  refine e_getI dX0_addPlan_1 fl_RX0_15 (Ms.s 29 rfl) (Ms.n (by decide)) rfl ?_
  refine e_int (nI (ipn i)) Dc.1 ?_
  refine e_bipush (nI 30) dX0_addPlan_4 (by decide) ?_
  refine e_icmp_lt 11 dX0_addPlan_6 (by decide) (fun _ => ?_) (fun c => absurd ((nI_lt' (by omega) (by omega)).mpr hn) c)
  refine e_aload_n dX0_addPlan_11 rfl rfl ?_
  refine e_getR (q := 30) dX0_addPlan_12 fl_RX0_9 (Ms.s 29 rfl) (Ms.n (by decide)) rfl (Ms.r 29 0 rfl) (by unfold fscr; omega) ?_
  refine e_aload_n dX0_addPlan_15 rfl rfl ?_
  refine e_getI dX0_addPlan_16 fl_RX0_15 (Ms.s 29 rfl) (Ms.n (by decide)) rfl ?_
  refine e_int (nI (ipn i)) Dc.1 ?_
  refine e_iload_n dX0_addPlan_19 rfl rfl ?_
  refine e_iastore (ipn i) dX0_addPlan_20 (Ms.s 30 rfl) (Ms.n (by decide)) rfl (by omega) (by decide) ?_
  refine e_aload_n dX0_addPlan_21 rfl rfl ?_
  refine e_dup dX0_addPlan_22 rfl ?_
  refine e_getI dX0_addPlan_23 fl_RX0_15 (Ms.s 29 rfl) (Ms.n (by decide)) rfl ?_
  refine e_int (nI (ipn i)) (by rw [fI_I, if_neg (by omega)]; exact Dc.1) ?_
  refine e_iconst (nI 1) dX0_addPlan_26 (by decide) ?_
  refine e_iadd dX0_addPlan_27 ?_
  refine e_int (nI (ipn i + 1)) (nI_add (ipn i) 1) ?_
  refine e_putI dX0_addPlan_28 fl_RX0_15 (Ms.s 29 rfl) (Ms.n (by decide)) rfl rfl ?_
  refine e_aload_n dX0_addPlan_31 rfl rfl ?_
  refine e_getI dX0_addPlan_32 fl_RX0_15 (Ms.s 29 rfl) (Ms.n (by decide)) rfl ?_
  refine e_int (nI (ipn i + 1)) (by rw [fI_I, if_pos ⟨rfl, rfl⟩]) ?_
  exact e_ireturn .int dX0_addPlan_35 rfl rfl h
set_option maxRecDepth 20000 in
theorem t_X9_planN {g : fGP} {d : Nat} {σ : fAH} {Q : fRes → fAH → Prop} {x : fXS} {f : Nat}  (Ms : fMs g σ) (ok : fOK x) (Ic : fIc σ x) (hf : f < 2 ^ dT (xD x) 1) (hp9 : ipn (xI x) = 30) (h : Q (.inl (some (.int (-1)))) σ) : fEv g (d + 1) mX9_plan 0 (fent [.ref 0, .int (nI f)] 2) [] σ Q := by
  obtain ⟨D, ⟨S, T, sd, pn, P, rn, R⟩, B, tp, pl, im, Im⟩ := x
  have hD : fWD D := ok.1
  have hW : fWS D S := ok.2.1.1
  have hC : fWC D S := ok.2.1.2.1
  have hN : fWN S 0 0 := ok.2.1.2.2.1
  have Gr : fGr σ 2 D := Ic.1
  obtain ⟨⟨m, Yr⟩, Yt⟩ : fYf σ 15 D S T sd := Ic.2.1
  have Gs := Ms.ground (k := 2) (by decide)
  have Ys := Ms.yard (k := 15) (by decide)
  obtain ⟨⟨g0, g1, g2, g3, g4, g5⟩, ⟨gn, gK⟩, ⟨gr0, gr1, gr2, gr3, gr4⟩⟩ := id Gs
  obtain ⟨⟨y0, y1, y2, y3, y4, y5, y6⟩, ⟨yn, yK⟩, ⟨yr0, yr1, yr2, yr3, yr4, yr5, yr6⟩⟩ := id Ys
  obtain ⟨t0, t1, t2, t3, t4, t5, t6⟩ := id hD.1
  have np := hW.n hD
  have n5 := hW.2.2.2.2
  have tp6 : tp ≤ 600 := ok.2.2.2.1
  have im3 : im ≤ 3 := ok.2.2.2.2.1
  have pn3 : pn ≤ 30 := ok.2.1.2.2.2.1
  have rn6 : rn ≤ 60 := ok.2.1.2.2.2.2.2.1
  have Dc : fDc σ 29 (S, T, sd, pn, P, rn, R) := Ic.2.2.1
  have w52 := hW.1
  have hf : f < 2 ^ dT D 1 := hf
  have p12 : 2 ^ dT D 1 ≤ 2 ^ 12 := Nat.pow_le_pow_right (by decide) t1
  have e12 : (2 : Nat) ^ 12 = 4096 := by decide
  have hO : fOI D (S, T, sd, pn, P, rn, R) := ok.2.1
  show fEv g (d + 1) mX9_plan 0 [some (.ref 0), some (.int (nI f))] [] σ Q
  refine e_iload_n dX9_plan_0 rfl rfl ?_
  refine e_if_lt 17 dX9_plan_1 (by decide) (fun c => absurd c (fun q => absurd ((nI_zlt (by omega)).mp q) (by omega))) (fun _ => ?_)
  refine e_iload_n dX9_plan_4 rfl rfl ?_
  refine e_iconst (nI 1) dX9_plan_5 (by decide) ?_
  refine e_aload_n dX9_plan_6 rfl rfl ?_
  refine e_getR (q := 2) dX9_plan_7 fl_RX9_23 (Ms.s 0 rfl) (Ms.n (by decide)) rfl (Ms.r 0 3 rfl) (by unfold fscr; omega) ?_
  refine e_getI dX9_plan_10 fl_RX9_127 g0 (show 2 < fnx σ by omega) rfl ?_
  refine e_int (nI (dT D 1)) Gr.1.2.1 ?_
  refine e_ishl dX9_plan_13 ?_
  refine e_int (nI (2 ^ dT D 1)) (nI_sh1 (by omega)) ?_
  refine e_icmp_lt 28 dX9_plan_14 (by decide) (fun _ => ?_) (fun c => absurd ((nI_lt' (by omega) (by omega)).mpr hf) c)
  refine e_aload_n dX9_plan_28 rfl rfl ?_
  refine e_getR (q := 29) dX9_plan_29 fl_RX9_51 (Ms.s 0 rfl) (Ms.n (by decide)) rfl (Ms.r 0 7 rfl) (by unfold fscr; omega) ?_
  refine e_iload_n dX9_plan_32 rfl rfl ?_
  refine e_callV (k := 29) [.int (nI f)] dX9_plan_33 cc_X0_addPlan lk_RX9_263 im_X0_addPlan se_X0_addPlan (by decide) (Ms.s 29 rfl) (Ms.n (by decide)) rfl (Nat.le_of_ble_eq_true rfl) (Nat.le_of_ble_eq_true rfl) ?_
  refine t_X0_addPlanN Ms hO Dc hp9 (fK_i ?_)
  show fEv g _ mX9_plan 36 [some (.ref 0), some (.int (nI f))] [.int ((-1))] σ Q
  exact e_ireturn .int dX9_plan_36 rfl rfl h
set_option maxRecDepth 20000 in
theorem t_X9_plan {g : fGP} {d : Nat} {σ : fAH} {Q : fRes → fAH → Prop} {x : fXS} {f : Nat}  (Ms : fMs g σ) (ok : fOK x) (Ic : fIc σ x) (hf : f < 2 ^ dT (xD x) 1) (hp9 : ipn (xI x) < 30) (h : ∀ σ', fSm fClA σ σ' → fIc σ' ((xD x, (iS (xI x), iT (xI x), iq (xI x), ipn (xI x) + 1, mup (iP (xI x)) (ipn (xI x)) f, irn (xI x), iR (xI x)), xB x, xt x, xp x, xm x, xM x)) → Q (.inl (some (.int (nI (ipn (xI x) + 1))))) σ') : fEv g (d + 1) mX9_plan 0 (fent [.ref 0, .int (nI f)] 2) [] σ Q := by
  obtain ⟨D, ⟨S, T, sd, pn, P, rn, R⟩, B, tp, pl, im, Im⟩ := x
  have hD : fWD D := ok.1
  have hW : fWS D S := ok.2.1.1
  have hC : fWC D S := ok.2.1.2.1
  have hN : fWN S 0 0 := ok.2.1.2.2.1
  have Gr : fGr σ 2 D := Ic.1
  obtain ⟨⟨m, Yr⟩, Yt⟩ : fYf σ 15 D S T sd := Ic.2.1
  have Gs := Ms.ground (k := 2) (by decide)
  have Ys := Ms.yard (k := 15) (by decide)
  obtain ⟨⟨g0, g1, g2, g3, g4, g5⟩, ⟨gn, gK⟩, ⟨gr0, gr1, gr2, gr3, gr4⟩⟩ := id Gs
  obtain ⟨⟨y0, y1, y2, y3, y4, y5, y6⟩, ⟨yn, yK⟩, ⟨yr0, yr1, yr2, yr3, yr4, yr5, yr6⟩⟩ := id Ys
  obtain ⟨t0, t1, t2, t3, t4, t5, t6⟩ := id hD.1
  have np := hW.n hD
  have n5 := hW.2.2.2.2
  have tp6 : tp ≤ 600 := ok.2.2.2.1
  have im3 : im ≤ 3 := ok.2.2.2.2.1
  have pn3 : pn ≤ 30 := ok.2.1.2.2.2.1
  have rn6 : rn ≤ 60 := ok.2.1.2.2.2.2.2.1
  have Dc : fDc σ 29 (S, T, sd, pn, P, rn, R) := Ic.2.2.1
  have w52 := hW.1
  have hf : f < 2 ^ dT D 1 := hf
  have p12 : 2 ^ dT D 1 ≤ 2 ^ 12 := Nat.pow_le_pow_right (by decide) t1
  have e12 : (2 : Nat) ^ 12 = 4096 := by decide
  have hO : fOI D (S, T, sd, pn, P, rn, R) := ok.2.1
  show fEv g (d + 1) mX9_plan 0 [some (.ref 0), some (.int (nI f))] [] σ Q
  refine e_iload_n dX9_plan_0 rfl rfl ?_
  refine e_if_lt 17 dX9_plan_1 (by decide) (fun c => absurd c (fun q => absurd ((nI_zlt (by omega)).mp q) (by omega))) (fun _ => ?_)
  refine e_iload_n dX9_plan_4 rfl rfl ?_
  refine e_iconst (nI 1) dX9_plan_5 (by decide) ?_
  refine e_aload_n dX9_plan_6 rfl rfl ?_
  refine e_getR (q := 2) dX9_plan_7 fl_RX9_23 (Ms.s 0 rfl) (Ms.n (by decide)) rfl (Ms.r 0 3 rfl) (by unfold fscr; omega) ?_
  refine e_getI dX9_plan_10 fl_RX9_127 g0 (show 2 < fnx σ by omega) rfl ?_
  refine e_int (nI (dT D 1)) Gr.1.2.1 ?_
  refine e_ishl dX9_plan_13 ?_
  refine e_int (nI (2 ^ dT D 1)) (nI_sh1 (by omega)) ?_
  refine e_icmp_lt 28 dX9_plan_14 (by decide) (fun _ => ?_) (fun c => absurd ((nI_lt' (by omega) (by omega)).mpr hf) c)
  refine e_aload_n dX9_plan_28 rfl rfl ?_
  refine e_getR (q := 29) dX9_plan_29 fl_RX9_51 (Ms.s 0 rfl) (Ms.n (by decide)) rfl (Ms.r 0 7 rfl) (by unfold fscr; omega) ?_
  refine e_iload_n dX9_plan_32 rfl rfl ?_
  refine e_callV (k := 29) [.int (nI f)] dX9_plan_33 cc_X0_addPlan lk_RX9_263 im_X0_addPlan se_X0_addPlan (by decide) (Ms.s 29 rfl) (Ms.n (by decide)) rfl (Nat.le_of_ble_eq_true rfl) (Nat.le_of_ble_eq_true rfl) ?_
  refine t_X0_addPlan Ms hO Dc hp9 (fK_i ?_)
  show fEv g _ mX9_plan 36 [some (.ref 0), some (.int (nI f))] [.int (nI (pn + 1))] (fsI (fsI σ 30 pn (nI f)) 29 1 (nI (pn + 1))) Q
  have sm9 : fSm (fun q => q = 29 ∨ q = 30) σ (fsI (fsI σ 30 pn (nI f)) 29 1 (nI (pn + 1))) := (fSm_I (Or.inr rfl)).tr (fSm_I (Or.inl rfl))
  refine e_ireturn .int dX9_plan_36 rfl rfl (h _ ((fSm_I (A := fClA) (by unfold fClA; omega)).tr (fSm_I (A := fClA) (by unfold fClA; omega))) (Ic.cur (i := (S, T, sd, pn + 1, mup P pn f, rn, R)) ok sm9 (fun q e => by omega) (fun j _ => by rw [fI_I, if_neg (by omega), fI_I, if_neg (by omega)]) ⟨⟨m, Yr⟩, Yt⟩ ⟨by rw [fI_I, if_pos ⟨rfl, rfl⟩], fun j hj => ?_, Dc.2.2⟩ Ic.2.2.2.2.2.1 (Ic.2.2.2.2.2.2.sm sm9 (fun q e => by omega))))
  have hj : j < pn + 1 := hj
  show fI (fsI (fsI σ 30 pn (nI f)) 29 1 (nI (pn + 1))) (29 + 1) j = nI (mup P pn f j)
  unfold mup
  by_cases e : j = pn
  · rw [fI_I, if_neg (by omega), fI_I, if_pos ⟨rfl, e⟩, if_pos e]
  · rw [fI_I, if_neg (by omega), fI_I, if_neg (by omega), if_neg e]; exact Dc.2.1 j (show j < pn by omega)
set_option maxRecDepth 20000 in
theorem t_X9_planE {g : fGP} {d : Nat} {σ : fAH} {Q : fRes → fAH → Prop} {x : fXS} {a : Int32}  (Ms : fMs g σ) (ok : fOK x) (Ic : fIc σ x) (hv : ¬ (nI 0 ≤ a ∧ a < nI (2 ^ dT (xD x) 1))) (rm : fnx σ + fgb σ + 1 ≤ 601024 ∧ fsu σ + 6 ≤ 7293034) (h : Q (.inr "java/lang/IllegalArgumentException") (fthr σ)) : fEv g (d + 1) mX9_plan 0 (fent [.ref 0, .int a] 2) [] σ Q := by
  obtain ⟨D, ⟨S, T, sd, pn, P, rn, R⟩, B, tp, pl, im, Im⟩ := x
  have hD : fWD D := ok.1
  have hW : fWS D S := ok.2.1.1
  have hC : fWC D S := ok.2.1.2.1
  have hN : fWN S 0 0 := ok.2.1.2.2.1
  have Gr : fGr σ 2 D := Ic.1
  obtain ⟨⟨m, Yr⟩, Yt⟩ : fYf σ 15 D S T sd := Ic.2.1
  have Gs := Ms.ground (k := 2) (by decide)
  have Ys := Ms.yard (k := 15) (by decide)
  obtain ⟨⟨g0, g1, g2, g3, g4, g5⟩, ⟨gn, gK⟩, ⟨gr0, gr1, gr2, gr3, gr4⟩⟩ := id Gs
  obtain ⟨⟨y0, y1, y2, y3, y4, y5, y6⟩, ⟨yn, yK⟩, ⟨yr0, yr1, yr2, yr3, yr4, yr5, yr6⟩⟩ := id Ys
  obtain ⟨t0, t1, t2, t3, t4, t5, t6⟩ := id hD.1
  have np := hW.n hD
  have n5 := hW.2.2.2.2
  have tp6 : tp ≤ 600 := ok.2.2.2.1
  have im3 : im ≤ 3 := ok.2.2.2.2.1
  have pn3 : pn ≤ 30 := ok.2.1.2.2.2.1
  have rn6 : rn ≤ 60 := ok.2.1.2.2.2.2.2.1
  have Dc : fDc σ 29 (S, T, sd, pn, P, rn, R) := Ic.2.2.1
  have w52 := hW.1
  show fEv g (d + 1) mX9_plan 0 [some (.ref 0), some (.int a)] [] σ Q
  refine e_iload_n dX9_plan_0 rfl rfl ?_
  refine e_if_lt 17 dX9_plan_1 (by decide) (fun c1 => ?_) (fun c1 => ?_)
  · exact e_throwSW rfl rfl tw_A (fstr_m 9 rfl) dX9_plan_17 dX9_plan_20 dX9_plan_21 dX9_plan_24 dX9_plan_27 (Nat.le_of_ble_eq_true rfl) rm.1 rm.2 h
  · refine e_iload_n dX9_plan_4 rfl rfl ?_
    refine e_iconst (nI 1) dX9_plan_5 (by decide) ?_
    refine e_aload_n dX9_plan_6 rfl rfl ?_
    refine e_getR (q := 2) dX9_plan_7 fl_RX9_23 (Ms.s 0 rfl) (Ms.n (by decide)) rfl (Ms.r 0 3 rfl) (by unfold fscr; omega) ?_
    refine e_getI dX9_plan_10 fl_RX9_127 g0 (show 2 < fnx σ by omega) rfl ?_
    refine e_int (nI (dT D 1)) Gr.1.2.1 ?_
    refine e_ishl dX9_plan_13 ?_
    refine e_int (nI (2 ^ dT D 1)) (nI_sh1 (by omega)) ?_
    refine e_icmp_lt 28 dX9_plan_14 (by decide) (fun c14 => ?_) (fun c14 => ?_)
    · exact absurd ⟨Int32.not_lt.mp c1, c14⟩ hv
    · exact e_throwSW rfl rfl tw_A (fstr_m 9 rfl) dX9_plan_17 dX9_plan_20 dX9_plan_21 dX9_plan_24 dX9_plan_27 (Nat.le_of_ble_eq_true rfl) rm.1 rm.2 h
