theorem fYr.cx {σ σ' : fAH} {k : Nat} {D : fSD} {S : Nat → Nat} {m : Nat} {sd : Int32} (h : fYr σ k D S m sd) (e0 : fI σ' k = fI σ k) (e1 : fI σ' (k + 1) = fI σ (k + 1)) (e2 : fI σ' (k + 2) = fI σ (k + 2)) (e3 : fI σ' (k + 3) = fI σ (k + 3)) (e6 : fI σ' (k + 6) = fI σ (k + 6)) : fYr σ' k D S m sd := by
  unfold fYr
  rw [e0, e1, e2, e3, e6]
  exact h
theorem mTp_s (T : Nat → Int32) (i : Nat) (v : Int32) : mTp T i v i = v := if_pos rfl
theorem mTp_n (T : Nat → Int32) {i j : Nat} (v : Int32) (h : j ≠ i) : mTp T i v j = T j := if_neg h
theorem fYt.note {σ σ' : fAH} {k : Nat} {S S' : Nat → Nat} {T : Nat → Int32} {v0 v1 v2 v3 : Int32} (h : fYt σ k S T) (e4 : fI σ' (k + 4) = fI σ (k + 4)) (e5 : fI σ' (k + 5) = fI (fsI (fsI (fsI (fsI σ (k + 5) (S 152 * 4) v0) (k + 5) (S 152 * 4 + 1) v1) (k + 5) (S 152 * 4 + 2) v2) (k + 5) (S 152 * 4 + 3) v3) (k + 5)) (hS : S 152 < 12) (h152 : S' 152 = S 152 + 1) (h155 : S' 155 = S 155) : fYt σ' k S' (mTp (mTp (mTp (mTp T (S 152 * 4) v0) (S 152 * 4 + 1) v1) (S 152 * 4 + 2) v2) (S 152 * 4 + 3) v3) := by
  refine ⟨fun i hi c hc => ?_, fun t ht => ?_⟩
  · rw [e5]
    by_cases e : i = S 152
    · subst e
      rcases (show c = 0 ∨ c = 1 ∨ c = 2 ∨ c = 3 by omega) with rfl | rfl | rfl | rfl
      · rw [fI_I, if_neg (by omega), fI_I, if_neg (by omega), fI_I, if_neg (by omega), fI_I, if_pos ⟨rfl, rfl⟩, mTp_n _ _ (by omega), mTp_n _ _ (by omega), mTp_n _ _ (by omega)]
        exact (mTp_s _ _ _).symm
      · rw [fI_I, if_neg (by omega), fI_I, if_neg (by omega), fI_I, if_pos ⟨rfl, rfl⟩, mTp_n _ _ (by omega), mTp_n _ _ (by omega), mTp_s]
      · rw [fI_I, if_neg (by omega), fI_I, if_pos ⟨rfl, rfl⟩, mTp_n _ _ (by omega), mTp_s]
      · rw [fI_I, if_pos ⟨rfl, rfl⟩, mTp_s]
    · rw [fI_I, if_neg (by omega), fI_I, if_neg (by omega), fI_I, if_neg (by omega), fI_I, if_neg (by omega), mTp_n _ _ (by omega), mTp_n _ _ (by omega), mTp_n _ _ (by omega), mTp_n _ _ (by omega)]
      exact h.1 i (by omega) c hc
  · rw [e4, mTp_n _ _ (by omega), mTp_n _ _ (by omega), mTp_n _ _ (by omega), mTp_n _ _ (by omega)]
    exact h.2 t (by omega)
theorem mxv {a : Nat} (ha : 1 ≤ a) (hb : a < 1000) : (if nI 1 < nI (a - 1) then nI (a - 1) else nI 1) = nI (if 1 < a then a - 1 else 1) := by
  by_cases e : 1 < a - 1
  · rw [if_pos ((nI_lt' (by omega) (by omega)).mpr e), if_pos (by omega)]
  · rw [if_neg (fun q => e ((nI_lt' (by omega) (by omega)).mp q))]
    by_cases e2 : 1 < a
    · rw [if_pos e2, show a - 1 = 1 by omega]
    · rw [if_neg e2]
def mss {Z : Type} (dr : Z → Nat × Z) (D : fSD) (cold k : Nat) (x : fX Z) : fX Z := if mstr D x.1 k cold then (mspl D x.1 k (mln D x.1 k (dr x.2.2).1), mnt D x.1 x.2.1 k (mln D x.1 k (dr x.2.2).1) cold, (dr x.2.2).2) else (mspl D x.1 k (dS D k 2), mnt D x.1 x.2.1 k (dS D k 2) cold, x.2.2)
def ldr (x : Int32) : Nat × Int32 := (d4 x, sdn x)
set_option maxRecDepth 20000 in
theorem t_X8_bruise {s : Nat} {g : fGP} {d : Nat} {σ : fAH} {Q : fRes → fAH → Prop} {k m : Nat} {D : fSD} {S : Nat → Nat} {T : Nat → Int32} {sd : Int32} (Ms : fMs g σ) (hY : k ∈ [15, 22, 37, 46, 59, 69, 79]) (Gr : fGr σ 2 D) (hD : fWD D) (Yr : fYr σ k D S m sd) (Yt : fYt σ k S T) (hW : fWS D S) (hC : fWC D S) (hs : s < dT D 1) (h : ∀ σ', fSm (fYA k) σ σ' → fYf σ' k D (mbru S s) (T) (sd) → Q (.inl none) σ') : fEv g (d) mX8_bruise 0 (fent [.ref k, .int (nI s)] 2) [] σ Q := by
  have yl := fyl hY
  have Gs := Ms.ground (k := 2) (by decide)
  have Ys := Ms.yard hY
  obtain ⟨⟨g0, g1, g2, g3, g4, g5⟩, ⟨gn, gK⟩, ⟨gr0, gr1, gr2, gr3, gr4⟩⟩ := id Gs
  obtain ⟨⟨y0, y1, y2, y3, y4, y5, y6⟩, ⟨yn, yK⟩, ⟨yr0, yr1, yr2, yr3, yr4, yr5, yr6⟩⟩ := id Ys
  obtain ⟨t0, t1, t2, t3, t4, t5, t6⟩ := id hD.1
  have np := hW.n hD
  have dp := hW.2.2.1 s hs
  show fEv g (d) mX8_bruise 0 [some (.ref k), some (.int (nI s))] [] σ Q
  refine e_aload_n dX8_bruise_0 rfl rfl ?_
  refine e_getR (q := k + 2) dX8_bruise_1 fl_RX8_19 y0 (show k < fnx σ by omega) rfl yr2 (by unfold fscr; omega) ?_
  refine e_iload_n dX8_bruise_4 rfl rfl ?_
  refine e_iconst (nI 1) dX8_bruise_5 (by decide) ?_
  refine e_aload_n dX8_bruise_6 rfl rfl ?_
  refine e_getR (q := k + 2) dX8_bruise_7 fl_RX8_19 y0 (show k < fnx σ by omega) rfl yr2 (by unfold fscr; omega) ?_
  refine e_iload_n dX8_bruise_10 rfl rfl ?_
  refine e_iaload s dX8_bruise_11 y2 (show k + 2 < fnx σ by omega) rfl (by omega) (by decide) ?_
  refine e_int (nI (S (121 + s))) (Yr.2.2.1 s (by omega)) ?_
  refine e_iconst (nI 1) dX8_bruise_12 (by decide) ?_
  refine e_isub dX8_bruise_13 ?_
  refine e_int (nI ((S (121 + s)) - 1)) (pk_sub (by omega)) ?_
  refine e_max dX8_bruise_14 ml_RX8_151 w_max (Nat.le_of_ble_eq_true rfl) ?_
  refine e_int (nI (if 1 < S (121 + s) then S (121 + s) - 1 else 1)) (mxv (by omega) (by omega)) ?_
  refine e_iastore s dX8_bruise_17 y2 (show k + 2 < fnx σ by omega) rfl (by omega) (by decide) ?_
  have Yr1 := Yr.dep (s := s) (v := if 1 < S (121 + s) then S (121 + s) - 1 else 1) (by omega) hD np
  have Yt1 : fYt (fsI σ (k + 2) s (nI (if 1 < S (121 + s) then S (121 + s) - 1 else 1))) k (mup S (121 + s) (if 1 < S (121 + s) then S (121 + s) - 1 else 1)) T := Yt.cg (fI_ne (by omega)) (fI_ne (by omega)) (mup_n _ _ (by omega)) (mup_n _ _ (by omega))
  have Sm1 : fSm (fYA k) σ (fsI σ (k + 2) s (nI (if 1 < S (121 + s) then S (121 + s) - 1 else 1))) := (fSm_I (A := fYA k) ⟨by omega, by omega⟩)
  generalize fsI σ (k + 2) s (nI (if 1 < S (121 + s) then S (121 + s) - 1 else 1)) = σ1 at Yr1 Yt1 Sm1 ⊢
  generalize hS1 : mup S (121 + s) (if 1 < S (121 + s) then S (121 + s) - 1 else 1) = S1 at Yr1 Yt1
  have Ms1 := Ms.sm (Sm1)
  have Gs1 := Ms1.ground (k := 2) (by decide)
  have Ys1 := Ms1.yard hY
  have Gr1 := Gr.y Sm1 hY
  have en1 : fnx σ1 = fnx σ := Sm1.n
  have np1 : S1 120 ≤ 18 := by rw [← hS1, mup_n _ _ (by omega)]; exact np
  refine e_aload_n dX8_bruise_18 rfl rfl ?_
  refine e_dup dX8_bruise_19 rfl ?_
  refine e_getI dX8_bruise_20 fl_RX8_53 y0 (show k < fnx σ1 by omega) rfl ?_
  refine e_int (nI (S1 154)) Yr1.1.2.2.2.2.2.2.1 ?_
  refine e_iconst (nI 1) dX8_bruise_23 (by decide) ?_
  refine e_iadd dX8_bruise_24 ?_
  refine e_int (nI (S1 154 + 1)) (nI_add (S1 154) 1) ?_
  refine e_putI dX8_bruise_25 fl_RX8_53 y0 (show k < fnx σ1 by omega) rfl rfl ?_
  have Yr2 := Yr1.f13 (v := S1 154 + 1) hD np1
  have Yt2 : fYt (fsI σ1 k 13 (nI (S1 154 + 1))) k (mup S1 154 (S1 154 + 1)) T := Yt1.cg (fI_ne (by omega)) (fI_ne (by omega)) (mup_n _ _ (by omega)) (mup_n _ _ (by omega))
  have Sm2 : fSm (fYA k) σ (fsI σ1 k 13 (nI (S1 154 + 1))) := Sm1.tr (fSm_I (A := fYA k) ⟨by omega, by omega⟩)
  generalize fsI σ1 k 13 (nI (S1 154 + 1)) = σ2 at Yr2 Yt2 Sm2 ⊢
  generalize hS2 : mup S1 154 (S1 154 + 1) = S2 at Yr2 Yt2
  have Ms2 := Ms.sm (Sm2)
  have Gs2 := Ms2.ground (k := 2) (by decide)
  have Ys2 := Ms2.yard hY
  have Gr2 := Gr.y Sm2 hY
  have en2 : fnx σ2 = fnx σ := Sm2.n
  subst hS2 hS1
  exact e_return dX8_bruise_28 rfl (h _ Sm2 ⟨⟨_, Yr2⟩, Yt2⟩)
set_option maxRecDepth 20000 in
theorem t_X8_divide {g : fGP} {d : Nat} {σ : fAH} {Q : fRes → fAH → Prop} {k m : Nat} {D : fSD} {S : Nat → Nat} {T : Nat → Int32} {sd : Int32} {s p ln : Nat} (Ms : fMs g σ) (hY : k ∈ [15, 22, 37, 46, 59, 69, 79]) (Gr : fGr σ 2 D) (hD : fWD D) (Yr : fYr σ k D S m sd) (Yt : fYt σ k S T) (np : S 120 ≤ 18) (hs : s < dT D 1) (h18 : S 120 < 18) (hp : p < S 120) (hln : ln < 1000) (h : ∀ σ', fSm (fYA k) σ σ' → fYf σ' k D (mdv D S s p ln) (T) (sd) → Q (.inl none) σ') : fEv g (d) mX8_divide 0 (fent [.ref k, .int (nI p), .int (nI (p * 6 + (1 + 2 * dS D s 1))), .int (nI ln)] 6) [] σ Q := by
  have yl := fyl hY
  have Gs := Ms.ground (k := 2) (by decide)
  have Ys := Ms.yard hY
  obtain ⟨⟨g0, g1, g2, g3, g4, g5⟩, ⟨gn, gK⟩, ⟨gr0, gr1, gr2, gr3, gr4⟩⟩ := id Gs
  obtain ⟨⟨y0, y1, y2, y3, y4, y5, y6⟩, ⟨yn, yK⟩, ⟨yr0, yr1, yr2, yr3, yr4, yr5, yr6⟩⟩ := id Ys
  obtain ⟨t0, t1, t2, t3, t4, t5, t6⟩ := id hD.1
  obtain ⟨s0, s1, s2, s3, s4, s5, s6⟩ := hD.2.2.1 s hs
  show fEv g (d) mX8_divide 0 [some (.ref k), some (.int (nI p)), some (.int (nI (p * 6 + (1 + 2 * dS D s 1)))), some (.int (nI ln)), none, none] [] σ Q
  refine e_iload_n dX8_divide_0 rfl rfl ?_
  refine e_bipush (nI 6) dX8_divide_1 (by decide) ?_
  refine e_imul dX8_divide_3 ?_
  refine e_int (nI (p * 6)) (pk_mul p 6) ?_
  refine e_istore (L1 := [some (.ref k), some (.int (nI p)), some (.int (nI (p * 6 + (1 + 2 * dS D s 1)))), some (.int (nI ln)), some (.int (nI (p * 6))), none]) dX8_divide_4 (by decide) rfl ?_
  refine e_aload_n dX8_divide_6 rfl rfl ?_
  refine e_getI dX8_divide_7 fl_RX8_15 y0 (show k < fnx σ by omega) rfl ?_
  refine e_int (nI (S 120)) Yr.1.1 ?_
  refine e_bipush (nI 6) dX8_divide_10 (by decide) ?_
  refine e_imul dX8_divide_12 ?_
  refine e_int (nI ((S 120) * 6)) (pk_mul (S 120) 6) ?_
  refine e_istore (L1 := [some (.ref k), some (.int (nI p)), some (.int (nI (p * 6 + (1 + 2 * dS D s 1)))), some (.int (nI ln)), some (.int (nI (p * 6))), some (.int (nI ((S 120) * 6)))]) dX8_divide_13 (by decide) rfl ?_
  refine e_aload_n dX8_divide_15 rfl rfl ?_
  refine e_getR (q := k + 1) dX8_divide_16 fl_RX8_9 y0 (show k < fnx σ by omega) rfl yr1 (by unfold fscr; omega) ?_
  refine e_iload dX8_divide_19 rfl ?_
  refine e_aload_n dX8_divide_21 rfl rfl ?_
  refine e_getR (q := k + 1) dX8_divide_22 fl_RX8_9 y0 (show k < fnx σ by omega) rfl yr1 (by unfold fscr; omega) ?_
  refine e_iload dX8_divide_25 rfl ?_
  refine e_bipush (nI 6) dX8_divide_27 (by decide) ?_
  refine e_copy (p * 6) ((S 120) * 6) 6 dX8_divide_29 ml_RX8_83 y1 y1 (show k + 1 < fnx σ by omega) (show k + 1 < fnx σ by omega) Ms.2.2.2 rfl rfl rfl (by omega) (by omega) (by decide) (by decide) (Nat.le_of_ble_eq_true rfl) w_copy ?_
  refine e_aload_n dX8_divide_32 rfl rfl ?_
  refine e_getR (q := k + 1) dX8_divide_33 fl_RX8_9 y0 (show k < fnx σ by omega) rfl yr1 (by unfold fscr; omega) ?_
  refine e_iload_n dX8_divide_36 rfl rfl ?_
  refine e_iconst (nI 1) dX8_divide_37 (by decide) ?_
  refine e_iadd dX8_divide_38 ?_
  refine e_int (nI (p * 6 + (2 + 2 * dS D s 1))) ((nI_add (p * 6 + (1 + 2 * dS D s 1)) 1).trans (by rw [show p * 6 + (1 + 2 * dS D s 1) + 1 = p * 6 + (2 + 2 * dS D s 1) by omega])) ?_
  refine e_iload_n dX8_divide_39 rfl rfl ?_
  refine e_iastore (p * 6 + (2 + 2 * dS D s 1)) dX8_divide_40 y1 (show k + 1 < fnx σ by omega) rfl (by omega) (by decide) ?_
  refine e_aload_n dX8_divide_41 rfl rfl ?_
  refine e_getR (q := k + 1) dX8_divide_42 fl_RX8_9 y0 (show k < fnx σ by omega) rfl yr1 (by unfold fscr; omega) ?_
  refine e_iload dX8_divide_45 rfl ?_
  refine e_iload_n dX8_divide_47 rfl rfl ?_
  refine e_iadd dX8_divide_48 ?_
  refine e_int (nI ((S 120) * 6 + (p * 6 + (1 + 2 * dS D s 1)))) (nI_add ((S 120) * 6) (p * 6 + (1 + 2 * dS D s 1))) ?_
  refine e_iload dX8_divide_49 rfl ?_
  refine e_isub dX8_divide_51 ?_
  refine e_int (nI (S 120 * 6 + (1 + 2 * dS D s 1))) ((pk_sub (by omega)).trans (by rw [show S 120 * 6 + (p * 6 + (1 + 2 * dS D s 1)) - p * 6 = S 120 * 6 + (1 + 2 * dS D s 1) by omega])) ?_
  refine e_iload_n dX8_divide_52 rfl rfl ?_
  refine e_iastore (S 120 * 6 + (1 + 2 * dS D s 1)) dX8_divide_53 y1 (show k + 1 < fnx σ by omega) rfl (by omega) (by decide) ?_
  refine e_aload_n dX8_divide_54 rfl rfl ?_
  refine e_dup dX8_divide_55 rfl ?_
  refine e_getI dX8_divide_56 fl_RX8_15 y0 (show k < fnx σ by omega) rfl ?_
  refine e_int (nI (S 120)) (by rw [fI_I, if_neg (by omega), fI_I, if_neg (by omega), fI_C, if_neg (by omega)]; exact Yr.1.1) ?_
  refine e_iconst (nI 1) dX8_divide_59 (by decide) ?_
  refine e_iadd dX8_divide_60 ?_
  refine e_int (nI (S 120 + 1)) (nI_add (S 120) 1) ?_
  refine e_putI dX8_divide_61 fl_RX8_15 y0 (show k < fnx σ by omega) rfl rfl ?_
  have Yr1 := Yr.dvd (s := s) (p := p) (ln := ln) hD h18 hp s1
  have Yt1 : fYt (fsI (fsI (fsI (fcpy σ (k + 1) (k + 1) (p * 6) ((S 120) * 6) 6) (k + 1) (p * 6 + (2 + 2 * dS D s 1)) (nI ln)) (k + 1) (S 120 * 6 + (1 + 2 * dS D s 1)) (nI ln)) k 2 (nI (S 120 + 1))) k (mdv D S s p ln) T := Yt.cg (by rw [fI_ne (by omega), fI_ne (by omega), fI_ne (by omega), fI_Cn (by omega)]) (by rw [fI_ne (by omega), fI_ne (by omega), fI_ne (by omega), fI_Cn (by omega)]) (mdv_o s1 (by omega) h18 (by omega)) (mdv_o s1 (by omega) h18 (by omega))
  have Sm1 : fSm (fYA k) σ (fsI (fsI (fsI (fcpy σ (k + 1) (k + 1) (p * 6) ((S 120) * 6) 6) (k + 1) (p * 6 + (2 + 2 * dS D s 1)) (nI ln)) (k + 1) (S 120 * 6 + (1 + 2 * dS D s 1)) (nI ln)) k 2 (nI (S 120 + 1))) := ((((fSm_C (A := fYA k) ⟨by omega, by omega⟩).tr (fSm_I (A := fYA k) ⟨by omega, by omega⟩)).tr (fSm_I (A := fYA k) ⟨by omega, by omega⟩)).tr (fSm_I (A := fYA k) ⟨by omega, by omega⟩))
  generalize fsI (fsI (fsI (fcpy σ (k + 1) (k + 1) (p * 6) ((S 120) * 6) 6) (k + 1) (p * 6 + (2 + 2 * dS D s 1)) (nI ln)) (k + 1) (S 120 * 6 + (1 + 2 * dS D s 1)) (nI ln)) k 2 (nI (S 120 + 1)) = σ1 at Yr1 Yt1 Sm1 ⊢
  generalize hS1 : mdv D S s p ln = S1 at Yr1 Yt1
  have Ms1 := Ms.sm (Sm1)
  have Gs1 := Ms1.ground (k := 2) (by decide)
  have Ys1 := Ms1.yard hY
  have Gr1 := Gr.y Sm1 hY
  have en1 : fnx σ1 = fnx σ := Sm1.n
  subst hS1
  exact e_return dX8_divide_64 rfl (h _ Sm1 ⟨⟨_, Yr1⟩, Yt1⟩)
set_option maxRecDepth 20000 in
theorem t_X8_note {g : fGP} {d : Nat} {σ : fAH} {Q : fRes → fAH → Prop} {k m : Nat} {D : fSD} {S : Nat → Nat} {T : Nat → Int32} {sd : Int32} {s c9 : Nat} {aw : Int32} (Ms : fMs g σ) (hY : k ∈ [15, 22, 37, 46, 59, 69, 79]) (Gr : fGr σ 2 D) (hD : fWD D) (Yr : fYr σ k D S m sd) (Yt : fYt σ k S T) (np : S 120 ≤ 18) (hS : S 152 < 12) (h : ∀ σ', fSm (fYA k) σ σ' → fYf σ' k D (mup (mup S 152 (S 152 + 1)) 153 (mup S 152 (S 152 + 1) 153 + if aw = 0 then 0 else 1)) (mTp (mTp (mTp (mTp T (S 152 * 4) (nI s)) (S 152 * 4 + 1) (nI (S 155))) (S 152 * 4 + 2) (nI c9)) (S 152 * 4 + 3) aw) (sd) → Q (.inl none) σ') : fEv g (d) mX8_note 0 (fent [.ref k, .int (nI s), .int (nI c9), .int aw] 5) [] σ Q := by
  have yl := fyl hY
  have Gs := Ms.ground (k := 2) (by decide)
  have Ys := Ms.yard hY
  obtain ⟨⟨g0, g1, g2, g3, g4, g5⟩, ⟨gn, gK⟩, ⟨gr0, gr1, gr2, gr3, gr4⟩⟩ := id Gs
  obtain ⟨⟨y0, y1, y2, y3, y4, y5, y6⟩, ⟨yn, yK⟩, ⟨yr0, yr1, yr2, yr3, yr4, yr5, yr6⟩⟩ := id Ys
  obtain ⟨t0, t1, t2, t3, t4, t5, t6⟩ := id hD.1
  show fEv g (d) mX8_note 0 [some (.ref k), some (.int (nI s)), some (.int (nI c9)), some (.int aw), none] [] σ Q
  refine e_aload_n dX8_note_0 rfl rfl ?_
  refine e_getI dX8_note_1 fl_RX8_47 y0 (show k < fnx σ by omega) rfl ?_
  refine e_int (nI (S 152)) Yr.1.2.2.2.2.1 ?_
  refine e_iconst (nI 4) dX8_note_4 (by decide) ?_
  refine e_imul dX8_note_5 ?_
  refine e_int (nI ((S 152) * 4)) (pk_mul (S 152) 4) ?_
  refine e_istore (L1 := [some (.ref k), some (.int (nI s)), some (.int (nI c9)), some (.int aw), some (.int (nI ((S 152) * 4)))]) dX8_note_6 (by decide) rfl ?_
  refine e_aload_n dX8_note_8 rfl rfl ?_
  refine e_getR (q := k + 5) dX8_note_9 fl_RX8_31 y0 (show k < fnx σ by omega) rfl yr5 (by unfold fscr; omega) ?_
  refine e_iload dX8_note_12 rfl ?_
  refine e_iload_n dX8_note_14 rfl rfl ?_
  refine e_iastore ((S 152) * 4) dX8_note_15 y5 (show k + 5 < fnx σ by omega) rfl (by omega) (by decide) ?_
  refine e_aload_n dX8_note_16 rfl rfl ?_
  refine e_getR (q := k + 5) dX8_note_17 fl_RX8_31 y0 (show k < fnx σ by omega) rfl yr5 (by unfold fscr; omega) ?_
  refine e_iload dX8_note_20 rfl ?_
  refine e_iconst (nI 1) dX8_note_22 (by decide) ?_
  refine e_iadd dX8_note_23 ?_
  refine e_int (nI ((S 152) * 4 + 1)) (nI_add ((S 152) * 4) 1) ?_
  refine e_aload_n dX8_note_24 rfl rfl ?_
  refine e_getI dX8_note_25 fl_RX8_41 y0 (show k < fnx σ by omega) rfl ?_
  refine e_int (nI (S 155)) (by rw [fI_I, if_neg (by omega)]; exact Yr.1.2.2.1) ?_
  refine e_iastore ((S 152) * 4 + 1) dX8_note_28 y5 (show k + 5 < fnx σ by omega) rfl (by omega) (by decide) ?_
  refine e_aload_n dX8_note_29 rfl rfl ?_
  refine e_getR (q := k + 5) dX8_note_30 fl_RX8_31 y0 (show k < fnx σ by omega) rfl yr5 (by unfold fscr; omega) ?_
  refine e_iload dX8_note_33 rfl ?_
  refine e_iconst (nI 2) dX8_note_35 (by decide) ?_
  refine e_iadd dX8_note_36 ?_
  refine e_int (nI ((S 152) * 4 + 2)) (nI_add ((S 152) * 4) 2) ?_
  refine e_iload_n dX8_note_37 rfl rfl ?_
  refine e_iastore ((S 152) * 4 + 2) dX8_note_38 y5 (show k + 5 < fnx σ by omega) rfl (by omega) (by decide) ?_
  refine e_aload_n dX8_note_39 rfl rfl ?_
  refine e_getR (q := k + 5) dX8_note_40 fl_RX8_31 y0 (show k < fnx σ by omega) rfl yr5 (by unfold fscr; omega) ?_
  refine e_iload dX8_note_43 rfl ?_
  refine e_iconst (nI 3) dX8_note_45 (by decide) ?_
  refine e_iadd dX8_note_46 ?_
  refine e_int (nI ((S 152) * 4 + 3)) (nI_add ((S 152) * 4) 3) ?_
  refine e_iload_n dX8_note_47 rfl rfl ?_
  refine e_iastore ((S 152) * 4 + 3) dX8_note_48 y5 (show k + 5 < fnx σ by omega) rfl (by omega) (by decide) ?_
  refine e_aload_n dX8_note_49 rfl rfl ?_
  refine e_dup dX8_note_50 rfl ?_
  refine e_getI dX8_note_51 fl_RX8_47 y0 (show k < fnx σ by omega) rfl ?_
  refine e_int (nI (S 152)) (by rw [fI_I, if_neg (by omega), fI_I, if_neg (by omega), fI_I, if_neg (by omega), fI_I, if_neg (by omega)]; exact Yr.1.2.2.2.2.1) ?_
  refine e_iconst (nI 1) dX8_note_54 (by decide) ?_
  refine e_iadd dX8_note_55 ?_
  refine e_int (nI (S 152 + 1)) (nI_add (S 152) 1) ?_
  refine e_putI dX8_note_56 fl_RX8_47 y0 (show k < fnx σ by omega) rfl rfl ?_
  have Yr0 : fYr (fsI (fsI (fsI (fsI σ (k + 5) ((S 152) * 4) (nI s)) (k + 5) ((S 152) * 4 + 1) (nI (S 155))) (k + 5) ((S 152) * 4 + 2) (nI c9)) (k + 5) ((S 152) * 4 + 3) aw) k D S m sd := Yr.cx (by rw [fI_ne (by omega), fI_ne (by omega), fI_ne (by omega), fI_ne (by omega)]) (by rw [fI_ne (by omega), fI_ne (by omega), fI_ne (by omega), fI_ne (by omega)]) (by rw [fI_ne (by omega), fI_ne (by omega), fI_ne (by omega), fI_ne (by omega)]) (by rw [fI_ne (by omega), fI_ne (by omega), fI_ne (by omega), fI_ne (by omega)]) (by rw [fI_ne (by omega), fI_ne (by omega), fI_ne (by omega), fI_ne (by omega)])
  generalize hT1 : mTp (mTp (mTp (mTp T (S 152 * 4) (nI s)) (S 152 * 4 + 1) (nI (S 155))) (S 152 * 4 + 2) (nI c9)) (S 152 * 4 + 3) aw = T1 at h
  have Yr1 := Yr0.f11 (v := S 152 + 1) hD np
  have Yt1 : fYt (fsI (fsI (fsI (fsI (fsI σ (k + 5) ((S 152) * 4) (nI s)) (k + 5) ((S 152) * 4 + 1) (nI (S 155))) (k + 5) ((S 152) * 4 + 2) (nI c9)) (k + 5) ((S 152) * 4 + 3) aw) k 11 (nI (S 152 + 1))) k (mup S 152 (S 152 + 1)) T1 := hT1 ▸ Yt.note (by rw [fI_ne (by omega), fI_ne (by omega), fI_ne (by omega), fI_ne (by omega), fI_ne (by omega)]) (fI_ne (by omega)) (by omega) (mup_s _ _ _) (mup_n _ _ (by omega))
  have Sm1 : fSm (fYA k) σ (fsI (fsI (fsI (fsI (fsI σ (k + 5) ((S 152) * 4) (nI s)) (k + 5) ((S 152) * 4 + 1) (nI (S 155))) (k + 5) ((S 152) * 4 + 2) (nI c9)) (k + 5) ((S 152) * 4 + 3) aw) k 11 (nI (S 152 + 1))) := (((((fSm_I (A := fYA k) ⟨by omega, by omega⟩).tr (fSm_I (A := fYA k) ⟨by omega, by omega⟩)).tr (fSm_I (A := fYA k) ⟨by omega, by omega⟩)).tr (fSm_I (A := fYA k) ⟨by omega, by omega⟩)).tr (fSm_I (A := fYA k) ⟨by omega, by omega⟩))
  generalize fsI (fsI (fsI (fsI (fsI σ (k + 5) ((S 152) * 4) (nI s)) (k + 5) ((S 152) * 4 + 1) (nI (S 155))) (k + 5) ((S 152) * 4 + 2) (nI c9)) (k + 5) ((S 152) * 4 + 3) aw) k 11 (nI (S 152 + 1)) = σ1 at Yr1 Yt1 Sm1 ⊢
  generalize hS1 : mup S 152 (S 152 + 1) = S1 at Yr1 Yt1
  have Ms1 := Ms.sm (Sm1)
  have Gs1 := Ms1.ground (k := 2) (by decide)
  have Ys1 := Ms1.yard hY
  have Gr1 := Gr.y Sm1 hY
  have en1 : fnx σ1 = fnx σ := Sm1.n
  have np1 : S1 120 ≤ 18 := by rw [← hS1, mup_n _ _ (by omega)]; exact np
  refine e_iload_n dX8_note_59 rfl rfl ?_
  refine e_if_eq 73 dX8_note_60 (by decide) (fun c60 => ?_) (fun c60 => ?_)
  · rw [if_pos c60, show mup (mup S 152 (S 152 + 1)) 153 (mup S 152 (S 152 + 1) 153 + 0) = mup S 152 (S 152 + 1) from mup_id _ _, hS1] at h
    exact e_return dX8_note_73 rfl (h _ Sm1 ⟨⟨_, Yr1⟩, Yt1⟩)
  · refine e_aload_n dX8_note_63 rfl rfl ?_
    refine e_dup dX8_note_64 rfl ?_
    refine e_getI dX8_note_65 fl_RX8_50 y0 (show k < fnx σ1 by omega) rfl ?_
    refine e_int (nI (S1 153)) Yr1.1.2.2.2.2.2.1 ?_
    refine e_iconst (nI 1) dX8_note_68 (by decide) ?_
    refine e_iadd dX8_note_69 ?_
    refine e_int (nI (S1 153 + 1)) (nI_add (S1 153) 1) ?_
    refine e_putI dX8_note_70 fl_RX8_50 y0 (show k < fnx σ1 by omega) rfl rfl ?_
    have Yr2 := Yr1.f12 (v := S1 153 + 1) hD np1
    have Yt2 : fYt (fsI σ1 k 12 (nI (S1 153 + 1))) k (mup S1 153 (S1 153 + 1)) T1 := Yt1.cg (fI_ne (by omega)) (fI_ne (by omega)) (mup_n _ _ (by omega)) (mup_n _ _ (by omega))
    have Sm2 : fSm (fYA k) σ (fsI σ1 k 12 (nI (S1 153 + 1))) := Sm1.tr (fSm_I (A := fYA k) ⟨by omega, by omega⟩)
    generalize fsI σ1 k 12 (nI (S1 153 + 1)) = σ2 at Yr2 Yt2 Sm2 ⊢
    generalize hS2 : mup S1 153 (S1 153 + 1) = S2 at Yr2 Yt2
    have Ms2 := Ms.sm (Sm2)
    have Gs2 := Ms2.ground (k := 2) (by decide)
    have Ys2 := Ms2.yard hY
    have Gr2 := Gr.y Sm2 hY
    have en2 : fnx σ2 = fnx σ := Sm2.n
    rw [if_neg c60, hS1, hS2] at h
    exact e_return dX8_note_73 rfl (h _ Sm2 ⟨⟨_, Yr2⟩, Yt2⟩)
