theorem fYt.cold {σ σ' : fAH} {k : Nat} {S S' : Nat → Nat} {T : Nat → Int32} {v : Int32} (h : fYt σ k S T) (e4 : fI σ' (k + 4) = fI (fsI σ (k + 4) (S 155) v) (k + 4)) (e5 : fI σ' (k + 5) = fI σ (k + 5)) (h2 : S 152 ≤ 12) (h152 : S' 152 = S 152) (h155 : S' 155 = S 155 + 1) : fYt σ' k S' (mTp T (100 + S 155) v) := by
  refine ⟨fun i hi c hc => ?_, fun t ht => ?_⟩
  · rw [e5, mTp_n _ _ (by omega)]
    exact h.1 i (by omega) c hc
  · rw [e4, fI_I]
    by_cases e : t = S 155
    · rw [if_pos ⟨rfl, e⟩, e, mTp_s]
    · rw [if_neg (by omega), mTp_n _ _ (by omega)]
      exact h.2 t (by omega)
theorem mst_u {Z : Type} (dr : Z → Nat × Z) (D : fSD) (fill cold k : Nat) (S : Nat → Nat) (T : Nat → Int32) (z : Z) : mst dr D fill cold k (S, T, z) = if fill / 2 ^ k % 2 = 1 ∧ mal D S k = true then (if mneed D S k ≤ cold then mss dr D cold k (S, T, z) else if 0 < cold then (mbru S k, T, z) else (S, T, z)) else (S, T, z) := rfl
def mgo {Z : Type} (dr : Z → Nat × Z) (D : fSD) (fill cold : Nat) (x : fX Z) : fX Z := (mend D (mfrz dr D fill cold (dT D 1) 0 x).1, mTp (mfrz dr D fill cold (dT D 1) 0 x).2.1 (100 + (mfrz dr D fill cold (dT D 1) 0 x).1 155) (nI cold), (mfrz dr D fill cold (dT D 1) 0 x).2.2)
set_option maxRecDepth 20000 in
theorem l_X8_deliverTo {g : fGP} {d : Nat} {Q : fRes → fAH → Prop} {k : Nat} {D : fSD} {T : Nat → Int32} {sd : Int32} {o sl c0 : Nat} (hY : k ∈ [15, 22, 37, 46, 59, 69, 79]) (hD : fWD D) (ho : o < dT D 2) (hc : c0 + sl = dT D 4) : ∀ (n i : Nat) (t9 : Nat) (σ : fAH) (S : Nat → Nat) (m : Nat), i + n = S 120 → fMs g σ → fGr σ 2 D → fYr σ k D S m sd → fYt σ k S T → fWS D S → fWC D S → t9 ≤ sl → (∀ σ', fSm (fYA k) σ σ' → fYf σ' k D (mdo D o n i (c0 + t9) S).1 T sd → Q (.inl (some (.int (nI ((mdo D o n i (c0 + t9) S).2 - c0))))) σ') → fEv g (d + 1) mX8_deliverTo 5 [some (.ref k), some (.int (nI o)), some (.int (nI sl)), some (.int (nI t9)), some (.int (nI i))] [] σ Q := by
  intro n
  induction n with
  | zero =>
    intro i t9 σ S m hin Ms Gr Yr Yt hW hC ht h
    have yl := fyl hY
    have Gs := Ms.ground (k := 2) (by decide)
    have Ys := Ms.yard hY
    obtain ⟨⟨g0, g1, g2, g3, g4, g5⟩, ⟨gn, gK⟩, ⟨gr0, gr1, gr2, gr3, gr4⟩⟩ := id Gs
    obtain ⟨⟨y0, y1, y2, y3, y4, y5, y6⟩, ⟨yn, yK⟩, ⟨yr0, yr1, yr2, yr3, yr4, yr5, yr6⟩⟩ := id Ys
    obtain ⟨t0, t1, t2, t3, t4, t5, t6⟩ := id hD.1
    have np := hW.n hD
    obtain ⟨o0, o1, o2, o3, o4, o5, o6, o7, o8⟩ := hD.2.2.2.1 o ho
    refine e_iload dX8_deliverTo_5 rfl ?_
    refine e_aload_n dX8_deliverTo_7 rfl rfl ?_
    refine e_getI dX8_deliverTo_8 fl_RX8_15 y0 (show k < fnx σ by omega) rfl ?_
    refine e_int (nI (S 120)) Yr.1.1 ?_
    refine e_icmp_ge 113 dX8_deliverTo_11 (by decide) (fun cz => ?_) (fun cz => absurd ((nI_le' (by omega) (by omega)).mpr (by omega)) cz)
    refine e_iload_n dX8_deliverTo_113 rfl rfl ?_
    have h9 := h σ fSm.rfl' ⟨⟨_, Yr⟩, Yt⟩
    have h9 : Q (.inl (some (.int (nI (c0 + t9 - c0))))) σ := h9
    rw [show c0 + t9 - c0 = t9 by omega] at h9
    exact e_ireturn .int dX8_deliverTo_114 rfl rfl h9
  | succ n ih =>
    intro i t9 σ S m hin Ms Gr Yr Yt hW hC ht h
    have yl := fyl hY
    have Gs := Ms.ground (k := 2) (by decide)
    have Ys := Ms.yard hY
    obtain ⟨⟨g0, g1, g2, g3, g4, g5⟩, ⟨gn, gK⟩, ⟨gr0, gr1, gr2, gr3, gr4⟩⟩ := id Gs
    obtain ⟨⟨y0, y1, y2, y3, y4, y5, y6⟩, ⟨yn, yK⟩, ⟨yr0, yr1, yr2, yr3, yr4, yr5, yr6⟩⟩ := id Ys
    obtain ⟨t0, t1, t2, t3, t4, t5, t6⟩ := id hD.1
    have np := hW.n hD
    obtain ⟨o0, o1, o2, o3, o4, o5, o6, o7, o8⟩ := hD.2.2.2.1 o ho
    have hi : i < S 120 := by omega
    obtain ⟨p0, p1, p2, p3, p4, p5⟩ := hW.2.1 i hi
    have w1 : mwd S i ≤ 12 := by unfold mwd; omega
    have w2 : mhg S i ≤ 12 := by unfold mhg; omega
    refine e_iload dX8_deliverTo_5 rfl ?_
    refine e_aload_n dX8_deliverTo_7 rfl rfl ?_
    refine e_getI dX8_deliverTo_8 fl_RX8_15 y0 (show k < fnx σ by omega) rfl ?_
    refine e_int (nI (S 120)) Yr.1.1 ?_
    refine e_icmp_ge 113 dX8_deliverTo_11 (by decide) (fun cz => absurd ((nI_le' (by omega) (by omega)).mp cz) (by omega)) (fun cz => ?_)
    refine e_iload_n dX8_deliverTo_14 rfl rfl ?_
    refine e_iload_n dX8_deliverTo_15 rfl rfl ?_
    refine e_icmp_ge 113 dX8_deliverTo_16 (by decide) (fun c16 => ?_) (fun c16 => ?_)
    · rw [nI_le' (by omega) (by omega)] at c16
      refine e_iload_n dX8_deliverTo_113 rfl rfl ?_
      rw [mdo_done (fun q => by first | omega | (have c24 := of_decide_eq_true c24; omega))] at h
      have h9 := h σ fSm.rfl' ⟨⟨_, Yr⟩, Yt⟩
      have h9 : Q (.inl (some (.int (nI (c0 + t9 - c0))))) σ := h9
      rw [show c0 + t9 - c0 = t9 by omega] at h9
      exact e_ireturn .int dX8_deliverTo_114 rfl rfl h9
    · rw [nI_le' (by omega) (by omega)] at c16
      refine e_aload_n dX8_deliverTo_19 rfl rfl ?_
      refine e_iload_n dX8_deliverTo_20 rfl rfl ?_
      refine e_callV (k := k) [.int (nI o)] dX8_deliverTo_21 cc_X8_isDone lk_RX8_183 im_X8_isDone se_X8_isDone (by decide) y0 (show k < fnx σ by omega) rfl (Nat.le_of_ble_eq_true rfl) (Nat.le_of_ble_eq_true rfl) ?_
      refine t_X8_isDone Gs Gr hD Ys Yr hW (by omega) (fK_i ?_)
      show fEv g _ mX8_deliverTo 24 [some (.ref k), some (.int (nI o)), some (.int (nI sl)), some (.int (nI t9)), some (.int (nI i))] [.int (nI (bn (mdone D S o)))] σ Q
      refine e_if_ne 113 dX8_deliverTo_24 (by decide) (fun c24 => ?_) (fun c24 => ?_)
      · have c24 := bn1 c24
        refine e_iload_n dX8_deliverTo_113 rfl rfl ?_
        rw [mdo_done (fun q => by first | omega | (have c24 := of_decide_eq_true c24; omega))] at h
        have h9 := h σ fSm.rfl' ⟨⟨_, Yr⟩, Yt⟩
        have h9 : Q (.inl (some (.int (nI (c0 + t9 - c0))))) σ := h9
        rw [show c0 + t9 - c0 = t9 by omega] at h9
        exact e_ireturn .int dX8_deliverTo_114 rfl rfl h9
      · have c24 := bn0 c24
        refine e_aload_n dX8_deliverTo_27 rfl rfl ?_
        refine e_iload dX8_deliverTo_28 rfl ?_
        refine e_callV (k := k) [.int (nI i)] dX8_deliverTo_30 cc_X8_isLying lk_RX8_186 im_X8_isLying se_X8_isLying (by decide) y0 (show k < fnx σ by omega) rfl (Nat.le_of_ble_eq_true rfl) (Nat.le_of_ble_eq_true rfl) ?_
        refine t_X8_isLying hD Ys Yr hW (by omega) (fK_i ?_)
        show fEv g _ mX8_deliverTo 33 [some (.ref k), some (.int (nI o)), some (.int (nI sl)), some (.int (nI t9)), some (.int (nI i))] [.int (nI (bn (decide (S (i * 6 + 5) = 1))))] σ Q
        refine e_if_eq 107 dX8_deliverTo_33 (by decide) (fun c33 => ?_) (fun c33 => ?_)
        · have c33 := bn0 c33
          refine e_iinc (v := nI (i + 1)) (L1 := [some (.ref k), some (.int (nI o)), some (.int (nI sl)), some (.int (nI t9)), some (.int (nI (i + 1)))]) dX8_deliverTo_107 rfl (show nI i + Int32.ofInt 1 = nI (i + 1) from nI_add i 1) (by decide) rfl ?_
          refine e_goto 5 dX8_deliverTo_110 (by decide) ?_
          have q1 : c0 + t9 < dT D 4 ∧ S (145 + o) < dO D o 2 := ⟨by omega, by have := of_decide_eq_false c24; omega⟩
          rw [mdo_n q1 (fun q => by first | exact absurd q.1 (of_decide_eq_false c33) | (rw [c56] at q; exact absurd q.2 Bool.false_ne_true))] at h
          exact ih (i + 1) t9 σ S m (by omega) Ms Gr Yr Yt hW hC ht h
        · have c33 := bn1 c33
          refine e_aload_n dX8_deliverTo_36 rfl rfl ?_
          refine e_getR (q := 2) dX8_deliverTo_37 fl_RX8_56 y0 (show k < fnx σ by omega) rfl yr0 (by unfold fscr; omega) ?_
          refine e_iload_n dX8_deliverTo_40 rfl rfl ?_
          refine e_aload_n dX8_deliverTo_41 rfl rfl ?_
          refine e_iload dX8_deliverTo_42 rfl ?_
          refine e_callV (k := k) [.int (nI i)] dX8_deliverTo_44 cc_X8_pieceWide lk_RX8_115 im_X8_pieceWide se_X8_pieceWide (by decide) y0 (show k < fnx σ by omega) rfl (Nat.le_of_ble_eq_true rfl) (Nat.le_of_ble_eq_true rfl) ?_
          refine t_X8_pieceWide hD Ys Yr hW (by omega) (fK_i ?_)
          show fEv g _ mX8_deliverTo 47 [some (.ref k), some (.int (nI o)), some (.int (nI sl)), some (.int (nI t9)), some (.int (nI i))] [.int (nI (mwd S i)), .int (nI o), .ref 2] σ Q
          refine e_aload_n dX8_deliverTo_47 rfl rfl ?_
          refine e_iload dX8_deliverTo_48 rfl ?_
          refine e_callV (k := k) [.int (nI i)] dX8_deliverTo_50 cc_X8_pieceHigh lk_RX8_118 im_X8_pieceHigh se_X8_pieceHigh (by decide) y0 (show k < fnx σ by omega) rfl (Nat.le_of_ble_eq_true rfl) (Nat.le_of_ble_eq_true rfl) ?_
          refine t_X8_pieceHigh hD Ys Yr hW (by omega) (fK_i ?_)
          show fEv g _ mX8_deliverTo 53 [some (.ref k), some (.int (nI o)), some (.int (nI sl)), some (.int (nI t9)), some (.int (nI i))] [.int (nI (mhg S i)), .int (nI (mwd S i)), .int (nI o), .ref 2] σ Q
          refine e_callV (k := 2) [.int (nI o), .int (nI (mwd S i)), .int (nI (mhg S i))] dX8_deliverTo_53 cc_X3_isOfSize lk_RX8_189 im_X3_isOfSize se_X3_isOfSize (by decide) g0 (show 2 < fnx σ by omega) rfl (Nat.le_of_ble_eq_true rfl) (Nat.le_of_ble_eq_true rfl) ?_
          refine t_X3_isOfSize Gs Gr hD (by omega) (by omega) (by omega) (fK_i ?_)
          show fEv g _ mX8_deliverTo 56 [some (.ref k), some (.int (nI o)), some (.int (nI sl)), some (.int (nI t9)), some (.int (nI i))] [.int (nI (bn (msz D o (mwd S i) (mhg S i))))] σ Q
          refine e_if_eq 107 dX8_deliverTo_56 (by decide) (fun c56 => ?_) (fun c56 => ?_)
          · have c56 := bn0 c56
            refine e_iinc (v := nI (i + 1)) (L1 := [some (.ref k), some (.int (nI o)), some (.int (nI sl)), some (.int (nI t9)), some (.int (nI (i + 1)))]) dX8_deliverTo_107 rfl (show nI i + Int32.ofInt 1 = nI (i + 1) from nI_add i 1) (by decide) rfl ?_
            refine e_goto 5 dX8_deliverTo_110 (by decide) ?_
            have q1 : c0 + t9 < dT D 4 ∧ S (145 + o) < dO D o 2 := ⟨by omega, by have := of_decide_eq_false c24; omega⟩
            rw [mdo_n q1 (fun q => by first | exact absurd q.1 (of_decide_eq_false c33) | (rw [c56] at q; exact absurd q.2 Bool.false_ne_true))] at h
            exact ih (i + 1) t9 σ S m (by omega) Ms Gr Yr Yt hW hC ht h
          · have c56 := bn1 c56
            refine e_aload_n dX8_deliverTo_59 rfl rfl ?_
            refine e_getR (q := k + 1) dX8_deliverTo_60 fl_RX8_9 y0 (show k < fnx σ by omega) rfl yr1 (by unfold fscr; omega) ?_
            refine e_iload dX8_deliverTo_63 rfl ?_
            refine e_bipush (nI 6) dX8_deliverTo_65 (by decide) ?_
            refine e_imul dX8_deliverTo_67 ?_
            refine e_int (nI (i * 6)) (pk_mul i 6) ?_
            refine e_iconst (nI 5) dX8_deliverTo_68 (by decide) ?_
            refine e_iadd dX8_deliverTo_69 ?_
            refine e_int (nI (i * 6 + 5)) (nI_add (i * 6) 5) ?_
            refine e_iconst (nI 0) dX8_deliverTo_70 (by decide) ?_
            refine e_iastore (i * 6 + 5) dX8_deliverTo_71 y1 (show k + 1 < fnx σ by omega) rfl (by omega) (by decide) ?_
            have Yr1 := Yr.pcs (s := i * 6 + 5) (v := 0) (by omega) hD np
            have Yt1 : fYt (fsI σ (k + 1) (i * 6 + 5) (nI 0)) k (mup S (i * 6 + 5) 0) T := Yt.cg (fI_ne (by omega)) (fI_ne (by omega)) (mup_n _ _ (by omega)) (mup_n _ _ (by omega))
            have Sm1 : fSm (fYA k) σ (fsI σ (k + 1) (i * 6 + 5) (nI 0)) := (fSm_I (A := fYA k) ⟨by omega, by omega⟩)
            generalize fsI σ (k + 1) (i * 6 + 5) (nI 0) = σ1 at Yr1 Yt1 Sm1 ⊢
            generalize hS1 : mup S (i * 6 + 5) 0 = S1 at Yr1 Yt1
            have Ms1 := Ms.sm (Sm1)
            have Gs1 := Ms1.ground (k := 2) (by decide)
            have Ys1 := Ms1.yard hY
            have Gr1 := Gr.y Sm1 hY
            have en1 : fnx σ1 = fnx σ := Sm1.n
            have np1 : S1 120 ≤ 18 := by rw [← hS1, mup_n _ _ (by omega)]; exact np
            refine e_aload_n dX8_deliverTo_72 rfl rfl ?_
            refine e_getR (q := k + 3) dX8_deliverTo_73 fl_RX8_25 y0 (show k < fnx σ1 by omega) rfl (Sm1.r yr3) (by unfold fscr; omega) ?_
            refine e_iload_n dX8_deliverTo_76 rfl rfl ?_
            refine e_dup2 dX8_deliverTo_77 rfl rfl ?_
            refine e_iaload o dX8_deliverTo_78 y3 (show k + 3 < fnx σ1 by omega) rfl (by omega) (by decide) ?_
            refine e_int (nI (S1 (145 + o))) (Yr1.2.2.2.1 o (by omega)) ?_
            refine e_iconst (nI 1) dX8_deliverTo_79 (by decide) ?_
            refine e_iadd dX8_deliverTo_80 ?_
            refine e_int (nI (S1 (145 + o) + 1)) (nI_add (S1 (145 + o)) 1) ?_
            refine e_iastore o dX8_deliverTo_81 y3 (show k + 3 < fnx σ1 by omega) rfl (by omega) (by decide) ?_
            have Yr2 := Yr1.has (s := o) (v := S1 (145 + o) + 1) (by omega) hD np1
            have Yt2 : fYt (fsI σ1 (k + 3) o (nI (S1 (145 + o) + 1))) k (mup S1 (145 + o) (S1 (145 + o) + 1)) T := Yt1.cg (fI_ne (by omega)) (fI_ne (by omega)) (mup_n _ _ (by omega)) (mup_n _ _ (by omega))
            have Sm2 : fSm (fYA k) σ (fsI σ1 (k + 3) o (nI (S1 (145 + o) + 1))) := Sm1.tr (fSm_I (A := fYA k) ⟨by omega, by omega⟩)
            generalize fsI σ1 (k + 3) o (nI (S1 (145 + o) + 1)) = σ2 at Yr2 Yt2 Sm2 ⊢
            generalize hS2 : mup S1 (145 + o) (S1 (145 + o) + 1) = S2 at Yr2 Yt2
            have Ms2 := Ms.sm (Sm2)
            have Gs2 := Ms2.ground (k := 2) (by decide)
            have Ys2 := Ms2.yard hY
            have Gr2 := Gr.y Sm2 hY
            have en2 : fnx σ2 = fnx σ := Sm2.n
            have np2 : S2 120 ≤ 18 := by rw [← hS2, mup_n _ _ (by omega)]; exact np1
            refine e_aload_n dX8_deliverTo_82 rfl rfl ?_
            refine e_dup dX8_deliverTo_83 rfl ?_
            refine e_getI dX8_deliverTo_84 fl_RX8_44 y0 (show k < fnx σ2 by omega) rfl ?_
            refine e_int (nI (S2 151)) Yr2.1.2.2.2.1 ?_
            refine e_aload_n dX8_deliverTo_87 rfl rfl ?_
            refine e_getR (q := 2) dX8_deliverTo_88 fl_RX8_56 y0 (show k < fnx σ2 by omega) rfl (Sm2.r yr0) (by unfold fscr; omega) ?_
            refine e_getR (q := 2 + 3) dX8_deliverTo_91 fl_RX8_180 g0 (show 2 < fnx σ2 by omega) rfl (Sm2.r gr2) (by unfold fscr; omega) ?_
            refine e_iload_n dX8_deliverTo_94 rfl rfl ?_
            refine e_iconst (nI 5) dX8_deliverTo_95 (by decide) ?_
            refine e_imul dX8_deliverTo_96 ?_
            refine e_int (nI (o * 5)) (pk_mul o 5) ?_
            refine e_iconst (nI 4) dX8_deliverTo_97 (by decide) ?_
            refine e_iadd dX8_deliverTo_98 ?_
            refine e_int (nI (o * 5 + 4)) (nI_add (o * 5) 4) ?_
            refine e_iaload (o * 5 + 4) dX8_deliverTo_99 g3 (show 2 + 3 < fnx σ2 by omega) rfl (by omega) (by decide) ?_
            refine e_int (nI (dO D o 4)) (Gr2.2.2.2.1 o (by omega) 4 (by decide)) ?_
            refine e_iadd dX8_deliverTo_100 ?_
            refine e_int (nI (S2 151 + dO D o 4)) (nI_add (S2 151) (dO D o 4)) ?_
            refine e_putI dX8_deliverTo_101 fl_RX8_44 y0 (show k < fnx σ2 by omega) rfl rfl ?_
            have Yr3 := Yr2.f10 (v := S2 151 + dO D o 4) hD np2
            have Yt3 : fYt (fsI σ2 k 10 (nI (S2 151 + dO D o 4))) k (mup S2 151 (S2 151 + dO D o 4)) T := Yt2.cg (fI_ne (by omega)) (fI_ne (by omega)) (mup_n _ _ (by omega)) (mup_n _ _ (by omega))
            have Sm3 : fSm (fYA k) σ (fsI σ2 k 10 (nI (S2 151 + dO D o 4))) := Sm2.tr (fSm_I (A := fYA k) ⟨by omega, by omega⟩)
            generalize fsI σ2 k 10 (nI (S2 151 + dO D o 4)) = σ3 at Yr3 Yt3 Sm3 ⊢
            generalize hS3 : mup S2 151 (S2 151 + dO D o 4) = S3 at Yr3 Yt3
            have Ms3 := Ms.sm (Sm3)
            have Gs3 := Ms3.ground (k := 2) (by decide)
            have Ys3 := Ms3.yard hY
            have Gr3 := Gr.y Sm3 hY
            have en3 : fnx σ3 = fnx σ := Sm3.n
            refine e_iinc (v := nI (t9 + 1)) (L1 := [some (.ref k), some (.int (nI o)), some (.int (nI sl)), some (.int (nI (t9 + 1))), some (.int (nI i))]) dX8_deliverTo_104 rfl (show nI t9 + Int32.ofInt 1 = nI (t9 + 1) from nI_add t9 1) (by decide) rfl ?_
            refine e_iinc (v := nI (i + 1)) (L1 := [some (.ref k), some (.int (nI o)), some (.int (nI sl)), some (.int (nI (t9 + 1))), some (.int (nI (i + 1)))]) dX8_deliverTo_107 rfl (show nI i + Int32.ofInt 1 = nI (i + 1) from nI_add i 1) (by decide) rfl ?_
            refine e_goto 5 dX8_deliverTo_110 (by decide) ?_
            have q1 : c0 + t9 < dT D 4 ∧ S (145 + o) < dO D o 2 := ⟨by omega, by have := of_decide_eq_false c24; omega⟩
            rw [mdo_m q1 ⟨of_decide_eq_true c33, c56⟩] at h
            have e3 : S3 = mtk D S o i := by rw [← hS3, ← hS2, ← hS1]; rfl
            rw [e3] at Yr3 Yt3
            have k9 := fWS_tk hD hW hC ho hi q1.2
            exact ih (i + 1) (t9 + 1) σ3 (mtk D S o i) m (by rw [mtk_o (by omega) (by omega) (by omega)]; omega) Ms3 Gr3 Yr3 Yt3 k9.1 k9.2 (by omega) (fun σ' Sm' Yf' => h σ' (Sm3.tr Sm') Yf')
set_option maxRecDepth 20000 in
theorem t_X8_deliverTo {g : fGP} {d : Nat} {σ : fAH} {Q : fRes → fAH → Prop} {k m : Nat} {D : fSD} {S : Nat → Nat} {T : Nat → Int32} {sd : Int32} {o sl c0 : Nat} (Ms : fMs g σ) (hY : k ∈ [15, 22, 37, 46, 59, 69, 79]) (Gr : fGr σ 2 D) (hD : fWD D) (Yr : fYr σ k D S m sd) (Yt : fYt σ k S T) (hW : fWS D S) (hC : fWC D S) (ho : o < dT D 2) (hc : c0 + sl = dT D 4) (h : ∀ σ', fSm (fYA k) σ σ' → fYf σ' k D (mdo D o (S 120) 0 c0 S).1 T sd → Q (.inl (some (.int (nI ((mdo D o (S 120) 0 c0 S).2 - c0))))) σ') : fEv g (d + 1) mX8_deliverTo 0 (fent [.ref k, .int (nI o), .int (nI sl)] 5) [] σ Q := by
  show fEv g (d + 1) mX8_deliverTo 0 [some (.ref k), some (.int (nI o)), some (.int (nI sl)), none, none] [] σ Q
  refine e_iconst (nI 0) dX8_deliverTo_0 (by decide) ?_
  refine e_istore_n (L1 := [some (.ref k), some (.int (nI o)), some (.int (nI sl)), some (.int (nI 0)), none]) dX8_deliverTo_1 rfl (by decide) rfl ?_
  refine e_iconst (nI 0) dX8_deliverTo_2 (by decide) ?_
  refine e_istore (L1 := [some (.ref k), some (.int (nI o)), some (.int (nI sl)), some (.int (nI 0)), some (.int (nI 0))]) dX8_deliverTo_3 (by decide) rfl ?_
  exact l_X8_deliverTo hY hD ho hc (S 120) 0 0 σ S m (by omega) Ms Gr Yr Yt hW hC (by omega) h
set_option maxRecDepth 20000 in
theorem l_X8_deliver {g : fGP} {d : Nat} {Q : fRes → fAH → Prop} {k : Nat} {D : fSD} {T : Nat → Int32} {sd : Int32} (hY : k ∈ [15, 22, 37, 46, 59, 69, 79]) (hD : fWD D) : ∀ (n i : Nat) (c : Nat) (σ : fAH) (S : Nat → Nat) (m : Nat), i + n = dT D 2 → fMs g σ → fGr σ 2 D → fYr σ k D S m sd → fYt σ k S T → fWS D S → fWC D S → c ≤ dT D 4 → (∀ σ', fSm (fYA k) σ σ' → fYf σ' k D (mdl D n i c S).1 T sd → Q (.inl none) σ') → fEv g (d + 2) mX8_deliver 10 [some (.ref k), some (.int (nI (dT D 4 - c))), some (.int (nI i))] [] σ Q := by
  intro n
  induction n with
  | zero =>
    intro i c σ S m hin Ms Gr Yr Yt hW hC hcc h
    have yl := fyl hY
    have Gs := Ms.ground (k := 2) (by decide)
    have Ys := Ms.yard hY
    obtain ⟨⟨g0, g1, g2, g3, g4, g5⟩, ⟨gn, gK⟩, ⟨gr0, gr1, gr2, gr3, gr4⟩⟩ := id Gs
    obtain ⟨⟨y0, y1, y2, y3, y4, y5, y6⟩, ⟨yn, yK⟩, ⟨yr0, yr1, yr2, yr3, yr4, yr5, yr6⟩⟩ := id Ys
    obtain ⟨t0, t1, t2, t3, t4, t5, t6⟩ := id hD.1
    have np := hW.n hD
    refine e_iload_n dX8_deliver_10 rfl rfl ?_
    refine e_aload_n dX8_deliver_11 rfl rfl ?_
    refine e_getR (q := 2) dX8_deliver_12 fl_RX8_56 y0 (show k < fnx σ by omega) rfl yr0 (by unfold fscr; omega) ?_
    refine e_getI dX8_deliver_15 fl_RX8_171 g0 (show 2 < fnx σ by omega) rfl ?_
    refine e_int (nI (dT D 2)) Gr.1.2.2.1 ?_
    refine e_icmp_ge 48 dX8_deliver_18 (by decide) (fun cz => ?_) (fun cz => absurd ((nI_le' (by omega) (by omega)).mpr (by omega)) cz)
    exact e_return dX8_deliver_48 rfl (h σ fSm.rfl' ⟨⟨_, Yr⟩, Yt⟩)
  | succ n ih =>
    intro i c σ S m hin Ms Gr Yr Yt hW hC hcc h
    have yl := fyl hY
    have Gs := Ms.ground (k := 2) (by decide)
    have Ys := Ms.yard hY
    obtain ⟨⟨g0, g1, g2, g3, g4, g5⟩, ⟨gn, gK⟩, ⟨gr0, gr1, gr2, gr3, gr4⟩⟩ := id Gs
    obtain ⟨⟨y0, y1, y2, y3, y4, y5, y6⟩, ⟨yn, yK⟩, ⟨yr0, yr1, yr2, yr3, yr4, yr5, yr6⟩⟩ := id Ys
    obtain ⟨t0, t1, t2, t3, t4, t5, t6⟩ := id hD.1
    have np := hW.n hD
    have hi : i < dT D 2 := by omega
    have mc := mdo_c (D := D) (o := i) (S 120) 0 c S hcc
    refine e_iload_n dX8_deliver_10 rfl rfl ?_
    refine e_aload_n dX8_deliver_11 rfl rfl ?_
    refine e_getR (q := 2) dX8_deliver_12 fl_RX8_56 y0 (show k < fnx σ by omega) rfl yr0 (by unfold fscr; omega) ?_
    refine e_getI dX8_deliver_15 fl_RX8_171 g0 (show 2 < fnx σ by omega) rfl ?_
    refine e_int (nI (dT D 2)) Gr.1.2.2.1 ?_
    refine e_icmp_ge 48 dX8_deliver_18 (by decide) (fun cz => absurd ((nI_le' (by omega) (by omega)).mp cz) (by omega)) (fun cz => ?_)
    refine e_iload_n dX8_deliver_21 rfl rfl ?_
    refine e_if_le 48 dX8_deliver_22 (by decide) (fun c22 => ?_) (fun c22 => ?_)
    · rw [nI_zle (by omega)] at c22
      rw [mdl_full (by omega)] at h
      exact e_return dX8_deliver_48 rfl (h σ fSm.rfl' ⟨⟨_, Yr⟩, Yt⟩)
    · rw [nI_zle (by omega)] at c22
      refine e_aload_n dX8_deliver_25 rfl rfl ?_
      refine e_iload_n dX8_deliver_26 rfl rfl ?_
      refine e_callV (k := k) [.int (nI i)] dX8_deliver_27 cc_X8_isOpen lk_RX8_174 im_X8_isOpen se_X8_isOpen (by decide) y0 (show k < fnx σ by omega) rfl (Nat.le_of_ble_eq_true rfl) (Nat.le_of_ble_eq_true rfl) ?_
      refine t_X8_isOpen Gs Gr hD Ys Yr hW (by omega) (fK_i ?_)
      show fEv g _ mX8_deliver 30 [some (.ref k), some (.int (nI (dT D 4 - c))), some (.int (nI i))] [.int (nI (bn (mopen D S i)))] σ Q
      refine e_if_eq 42 dX8_deliver_30 (by decide) (fun c30 => ?_) (fun c30 => ?_)
      · have c30 := bn0 c30
        refine e_iinc (v := nI (i + 1)) (L1 := [some (.ref k), some (.int (nI (dT D 4 - c))), some (.int (nI (i + 1)))]) dX8_deliver_42 rfl (show nI i + Int32.ofInt 1 = nI (i + 1) from nI_add i 1) (by decide) rfl ?_
        refine e_goto 10 dX8_deliver_45 (by decide) ?_
        have hm : mdl D (n + 1) i c S = mdl D n (i + 1) c S := by
          by_cases e : S 155 ≤ dO D i 3
          · have dn : mdone D S i = true := by
              unfold mopen at c30
              rw [decide_eq_true e, Bool.and_true] at c30
              cases q : mdone D S i
              · rw [q] at c30; exact c30.symm
              · rfl
            have dn := of_decide_eq_true dn
            rw [mdl_y e, mdo_done (fun q => by omega)]
          · exact mdl_n e
        rw [hm] at h
        exact ih (i + 1) c σ S m (by omega) Ms Gr Yr Yt hW hC hcc h
      · have c30 := bn1 c30
        refine e_iload_n dX8_deliver_33 rfl rfl ?_
        refine e_aload_n dX8_deliver_34 rfl rfl ?_
        refine e_iload_n dX8_deliver_35 rfl rfl ?_
        refine e_iload_n dX8_deliver_36 rfl rfl ?_
        refine e_callV (k := k) [.int (nI i), .int (nI (dT D 4 - c))] dX8_deliver_37 cc_X8_deliverTo lk_RX8_177 im_X8_deliverTo se_X8_deliverTo (by decide) y0 (show k < fnx σ by omega) rfl (Nat.le_of_ble_eq_true rfl) (Nat.le_of_ble_eq_true rfl) ?_
        refine t_X8_deliverTo Ms hY Gr hD Yr Yt hW hC hi (show c + (dT D 4 - c) = dT D 4 by omega) (fun σ1 Smx1 Yf1 => ?_)
        show fEv g _ mX8_deliver 40 [some (.ref k), some (.int (nI (dT D 4 - c))), some (.int (nI i))] [.int (nI ((mdo D i (S 120) 0 c S).2 - c)), .int (nI (dT D 4 - c))] σ1 Q
        have Sm1 := Smx1
        obtain ⟨⟨m1, Yr1⟩, Yt1⟩ := Yf1
        have Ms1 := Ms.sm (Sm1)
        have Gs1 := Ms1.ground (k := 2) (by decide)
        have Ys1 := Ms1.yard hY
        have Gr1 := Gr.y Sm1 hY
        have en1 : fnx σ1 = fnx σ := Sm1.n
        refine e_isub dX8_deliver_40 ?_
        refine e_int (nI (dT D 4 - (mdo D i (S 120) 0 c S).2)) ((pk_sub (by omega)).trans (by rw [show dT D 4 - c - ((mdo D i (S 120) 0 c S).2 - c) = dT D 4 - (mdo D i (S 120) 0 c S).2 by omega])) ?_
        refine e_istore_n (L1 := [some (.ref k), some (.int (nI (dT D 4 - (mdo D i (S 120) 0 c S).2))), some (.int (nI i))]) dX8_deliver_41 rfl (by decide) rfl ?_
        refine e_iinc (v := nI (i + 1)) (L1 := [some (.ref k), some (.int (nI (dT D 4 - (mdo D i (S 120) 0 c S).2))), some (.int (nI (i + 1)))]) dX8_deliver_42 rfl (show nI i + Int32.ofInt 1 = nI (i + 1) from nI_add i 1) (by decide) rfl ?_
        refine e_goto 10 dX8_deliver_45 (by decide) ?_
        have e : S 155 ≤ dO D i 3 := by
          unfold mopen at c30
          rw [Bool.and_eq_true] at c30
          exact of_decide_eq_true c30.2
        rw [mdl_y e] at h
        have k9 := fWS_do (c := c) hD hW hC hi
        exact ih (i + 1) _ σ1 _ m1 (by omega) Ms1 Gr1 Yr1 Yt1 k9.1 k9.2 mc.2 (fun σ' Sm' Yf' => h σ' (Sm1.tr Sm') Yf')
set_option maxRecDepth 20000 in
theorem t_X8_deliver {g : fGP} {d : Nat} {σ : fAH} {Q : fRes → fAH → Prop} {k m : Nat} {D : fSD} {S : Nat → Nat} {T : Nat → Int32} {sd : Int32} (Ms : fMs g σ) (hY : k ∈ [15, 22, 37, 46, 59, 69, 79]) (Gr : fGr σ 2 D) (hD : fWD D) (Yr : fYr σ k D S m sd) (Yt : fYt σ k S T) (hW : fWS D S) (hC : fWC D S) (h : ∀ σ', fSm (fYA k) σ σ' → fYf σ' k D (mdl D (dT D 2) 0 0 S).1 T sd → Q (.inl none) σ') : fEv g (d + 2) mX8_deliver 0 (fent [.ref k] 3) [] σ Q := by
  have yl := fyl hY
  have Gs := Ms.ground (k := 2) (by decide)
  have Ys := Ms.yard hY
  obtain ⟨⟨g0, g1, g2, g3, g4, g5⟩, ⟨gn, gK⟩, ⟨gr0, gr1, gr2, gr3, gr4⟩⟩ := id Gs
  obtain ⟨⟨y0, y1, y2, y3, y4, y5, y6⟩, ⟨yn, yK⟩, ⟨yr0, yr1, yr2, yr3, yr4, yr5, yr6⟩⟩ := id Ys
  obtain ⟨t0, t1, t2, t3, t4, t5, t6⟩ := id hD.1
  have np := hW.n hD
  show fEv g (d + 2) mX8_deliver 0 [some (.ref k), none, none] [] σ Q
  refine e_aload_n dX8_deliver_0 rfl rfl ?_
  refine e_getR (q := 2) dX8_deliver_1 fl_RX8_56 y0 (show k < fnx σ by omega) rfl yr0 (by unfold fscr; omega) ?_
  refine e_getI dX8_deliver_4 fl_RX8_168 g0 (show 2 < fnx σ by omega) rfl ?_
  refine e_int (nI (dT D 4)) Gr.1.2.2.2.2.2.1 ?_
  refine e_istore_n (L1 := [some (.ref k), some (.int (nI (dT D 4))), none]) dX8_deliver_7 rfl (by decide) rfl ?_
  refine e_iconst (nI 0) dX8_deliver_8 (by decide) ?_
  refine e_istore_n (L1 := [some (.ref k), some (.int (nI (dT D 4))), some (.int (nI 0))]) dX8_deliver_9 rfl (by decide) rfl ?_
  exact l_X8_deliver hY hD (dT D 2) 0 0 σ S m (by omega) Ms Gr Yr Yt hW hC (by omega) h
set_option maxRecDepth 20000 in
theorem l_X8_go113 {g : fGP} {d : Nat} {σ : fAH} {Q : fRes → fAH → Prop} {k m : Nat} {D : fSD} {S : Nat → Nat} {T : Nat → Int32} {sd : Int32} {fl c9 dw b : Nat} {o5 : Option Value} (Ms : fMs g σ) (hY : k ∈ [15, 22, 37, 46, 59, 69, 79]) (Gr : fGr σ 2 D) (hD : fWD D) (Yr : fYr σ k D S m sd) (Yt : fYt σ k S T) (hW : fWS D S) (hC : fWC D S) (hn : S 155 < 30) (h : ∀ σ', fSm (fYA k) σ σ' → fYf σ' k D (mup S 155 (S 155 + 1)) (mTp T (100 + S 155) (nI c9)) sd → Q (.inl (some (.int (nI (mup S 155 (S 155 + 1) 152) - nI b)))) σ') : fEv g d mX8_goThrough 113 [some (.ref k), some (.int (nI fl)), some (.int (nI c9)), some (.ref dw), some (.int (nI b)), o5] [] σ Q := by
  have yl := fyl hY
  have Gs := Ms.ground (k := 2) (by decide)
  have Ys := Ms.yard hY
  obtain ⟨⟨g0, g1, g2, g3, g4, g5⟩, ⟨gn, gK⟩, ⟨gr0, gr1, gr2, gr3, gr4⟩⟩ := id Gs
  obtain ⟨⟨y0, y1, y2, y3, y4, y5, y6⟩, ⟨yn, yK⟩, ⟨yr0, yr1, yr2, yr3, yr4, yr5, yr6⟩⟩ := id Ys
  obtain ⟨t0, t1, t2, t3, t4, t5, t6⟩ := id hD.1
  have np := hW.n hD
  have sp := hW.1.2
  refine e_aload_n dX8_goThrough_113 rfl rfl ?_
  refine e_getR (q := k + 4) dX8_goThrough_114 fl_RX8_28 y0 (show k < fnx σ by omega) rfl yr4 (by unfold fscr; omega) ?_
  refine e_aload_n dX8_goThrough_117 rfl rfl ?_
  refine e_getI dX8_goThrough_118 fl_RX8_41 y0 (show k < fnx σ by omega) rfl ?_
  refine e_int (nI (S 155)) Yr.1.2.2.1 ?_
  refine e_iload_n dX8_goThrough_121 rfl rfl ?_
  refine e_iastore (S 155) dX8_goThrough_122 y4 (show k + 4 < fnx σ by omega) rfl (by omega) (by decide) ?_
  refine e_aload_n dX8_goThrough_123 rfl rfl ?_
  refine e_dup dX8_goThrough_124 rfl ?_
  refine e_getI dX8_goThrough_125 fl_RX8_41 y0 (show k < fnx σ by omega) rfl ?_
  refine e_int (nI (S 155)) (by rw [fI_I, if_neg (by omega)]; exact Yr.1.2.2.1) ?_
  refine e_iconst (nI 1) dX8_goThrough_128 (by decide) ?_
  refine e_iadd dX8_goThrough_129 ?_
  refine e_int (nI (S 155 + 1)) (nI_add (S 155) 1) ?_
  refine e_putI dX8_goThrough_130 fl_RX8_41 y0 (show k < fnx σ by omega) rfl rfl ?_
  have Yr0 : fYr (fsI σ (k + 4) (S 155) (nI c9)) k D S m sd := Yr.cx (fI_ne (by omega)) (fI_ne (by omega)) (fI_ne (by omega)) (fI_ne (by omega)) (fI_ne (by omega))
  generalize hT1 : mTp T (100 + S 155) (nI c9) = T1 at h
  have Yr1 := Yr0.f9 (v := S 155 + 1) hD np
  have Yt1 : fYt (fsI (fsI σ (k + 4) (S 155) (nI c9)) k 9 (nI (S 155 + 1))) k (mup S 155 (S 155 + 1)) T1 := hT1 ▸ Yt.cold (fI_ne (by omega)) (by rw [fI_ne (by omega), fI_ne (by omega)]) (by omega) (mup_n _ _ (by omega)) (mup_s _ _ _)
  have Sm1 : fSm (fYA k) σ (fsI (fsI σ (k + 4) (S 155) (nI c9)) k 9 (nI (S 155 + 1))) := ((fSm_I (A := fYA k) ⟨by omega, by omega⟩).tr (fSm_I (A := fYA k) ⟨by omega, by omega⟩))
  generalize fsI (fsI σ (k + 4) (S 155) (nI c9)) k 9 (nI (S 155 + 1)) = σ1 at Yr1 Yt1 Sm1 ⊢
  generalize hS1 : mup S 155 (S 155 + 1) = S1 at Yr1 Yt1
  have Ms1 := Ms.sm (Sm1)
  have Gs1 := Ms1.ground (k := 2) (by decide)
  have Ys1 := Ms1.yard hY
  have Gr1 := Gr.y Sm1 hY
  have en1 : fnx σ1 = fnx σ := Sm1.n
  refine e_aload_n dX8_goThrough_133 rfl rfl ?_
  refine e_getI dX8_goThrough_134 fl_RX8_47 y0 (show k < fnx σ1 by omega) rfl ?_
  refine e_int (nI (S1 152)) Yr1.1.2.2.2.2.1 ?_
  refine e_iload dX8_goThrough_137 rfl ?_
  refine e_isub dX8_goThrough_139 ?_
  subst hS1
  exact e_ireturn .int dX8_goThrough_140 rfl rfl (h _ Sm1 ⟨⟨_, Yr1⟩, Yt1⟩)
set_option maxRecDepth 20000 in
theorem l_X8_go95 {g : fGP} {d : Nat} {σ : fAH} {Q : fRes → fAH → Prop} {k m : Nat} {D : fSD} {S : Nat → Nat} {T : Nat → Int32} {sd : Int32} {fl c9 dw b : Nat} {o5 : Option Value} (Ms : fMs g σ) (hY : k ∈ [15, 22, 37, 46, 59, 69, 79]) (Gr : fGr σ 2 D) (hD : fWD D) (Yr : fYr σ k D S m sd) (Yt : fYt σ k S T) (hW : fWS D S) (hC : fWC D S) (hn : S 155 < 30) (h : ∀ σ', fSm (fYA k) σ σ' → fYf σ' k D (mend D S) (mTp T (100 + S 155) (nI c9)) sd → Q (.inl (some (.int (nI (mend D S 152) - nI b)))) σ') : fEv g (d + 3) mX8_goThrough 95 [some (.ref k), some (.int (nI fl)), some (.int (nI c9)), some (.ref dw), some (.int (nI b)), o5] [] σ Q := by
  have yl := fyl hY
  have Gs := Ms.ground (k := 2) (by decide)
  have Ys := Ms.yard hY
  obtain ⟨⟨g0, g1, g2, g3, g4, g5⟩, ⟨gn, gK⟩, ⟨gr0, gr1, gr2, gr3, gr4⟩⟩ := id Gs
  obtain ⟨⟨y0, y1, y2, y3, y4, y5, y6⟩, ⟨yn, yK⟩, ⟨yr0, yr1, yr2, yr3, yr4, yr5, yr6⟩⟩ := id Ys
  obtain ⟨t0, t1, t2, t3, t4, t5, t6⟩ := id hD.1
  have np := hW.n hD
  refine e_aload_n dX8_goThrough_95 rfl rfl ?_
  refine e_getI dX8_goThrough_96 fl_RX8_41 y0 (show k < fnx σ by omega) rfl ?_
  refine e_int (nI (S 155)) Yr.1.2.2.1 ?_
  refine e_aload_n dX8_goThrough_99 rfl rfl ?_
  refine e_getR (q := 2) dX8_goThrough_100 fl_RX8_56 y0 (show k < fnx σ by omega) rfl yr0 (by unfold fscr; omega) ?_
  refine e_getI dX8_goThrough_103 fl_RX8_145 g0 (show 2 < fnx σ by omega) rfl ?_
  refine e_int (nI (dT D 5)) Gr.1.2.2.2.2.2.2 ?_
  refine e_icmp_ge 113 dX8_goThrough_106 (by decide) (fun c106 => ?_) (fun c106 => ?_)
  · rw [nI_le' (by omega) (by omega)] at c106
    have e9 : mslg D S = S := if_neg (by omega)
    unfold mend at h
    rw [e9] at h
    exact l_X8_go113 Ms hY Gr hD Yr Yt hW hC hn h
  · rw [nI_le' (by omega) (by omega)] at c106
    refine e_aload_n dX8_goThrough_109 rfl rfl ?_
    refine e_callV (k := k) [] dX8_goThrough_110 cc_X8_deliver lk_RX8_148 im_X8_deliver se_X8_deliver (by decide) y0 (show k < fnx σ by omega) rfl (Nat.le_of_ble_eq_true rfl) (Nat.le_of_ble_eq_true rfl) ?_
    refine t_X8_deliver Ms hY Gr hD Yr Yt hW hC  (fun σ1 Smx1 Yf1 => ?_)
    show fEv g _ mX8_goThrough 113 [some (.ref k), some (.int (nI fl)), some (.int (nI c9)), some (.ref dw), some (.int (nI b)), o5] [] σ1 Q
    have Sm1 := Smx1
    obtain ⟨⟨m1, Yr1⟩, Yt1⟩ := Yf1
    have Ms1 := Ms.sm (Sm1)
    have Gs1 := Ms1.ground (k := 2) (by decide)
    have Ys1 := Ms1.yard hY
    have Gr1 := Gr.y Sm1 hY
    have en1 : fnx σ1 = fnx σ := Sm1.n
    have e9 : mslg D S = (mdl D (dT D 2) 0 0 S).1 := if_pos (by omega)
    have k9 := fWS_sl hD hW hC
    unfold mend at h
    rw [e9] at h k9
    rw [← k9.2.2.1] at hn
    exact l_X8_go113 Ms1 hY Gr1 hD Yr1 Yt1 k9.1 k9.2.1 hn (fun σ' Sm' Yf' => h σ' (Sm1.tr Sm') (by rw [k9.2.2.1] at Yf'; rw [k9.2.2.1]; exact Yf'))
set_option maxRecDepth 20000 in
theorem l_X8_goL {g : fGP} {d : Nat} {Q : fRes → fAH → Prop} {k : Nat} {D : fSD} {fl c9 b : Nat} (hY : k ∈ [15, 22, 37, 46, 59, 69, 79]) (hD : fWD D) (hf : fl < 4096) (hc9 : c9 < 100) : ∀ (n i : Nat) (σ : fAH) (S : Nat → Nat) (m : Nat) (T : Nat → Int32) (sd : Int32), i + n = dT D 1 → fMs g σ → fGr σ 2 D → fYr σ k D S m sd → fYt σ k S T → fWS D S → fWC D S → S 155 < 30 → (∀ σ', fSm (fYA k) σ σ' → fYf σ' k D (mend D (mfrz ldr D fl c9 n i (S, T, sd)).1) (mTp (mfrz ldr D fl c9 n i (S, T, sd)).2.1 (100 + (mfrz ldr D fl c9 n i (S, T, sd)).1 155) (nI c9)) (mfrz ldr D fl c9 n i (S, T, sd)).2.2 → Q (.inl (some (.int (nI (mend D (mfrz ldr D fl c9 n i (S, T, sd)).1 152) - nI b)))) σ') → fEv g (d + 4) mX8_goThrough 20 [some (.ref k), some (.int (nI fl)), some (.int (nI c9)), some (.ref (k + 6)), some (.int (nI b)), some (.int (nI i))] [] σ Q := by
  intro n
  induction n with
  | zero =>
    intro i σ S m T sd hin Ms Gr Yr Yt hW hC hn h
    have yl := fyl hY
    have Gs := Ms.ground (k := 2) (by decide)
    have Ys := Ms.yard hY
    obtain ⟨⟨g0, g1, g2, g3, g4, g5⟩, ⟨gn, gK⟩, ⟨gr0, gr1, gr2, gr3, gr4⟩⟩ := id Gs
    obtain ⟨⟨y0, y1, y2, y3, y4, y5, y6⟩, ⟨yn, yK⟩, ⟨yr0, yr1, yr2, yr3, yr4, yr5, yr6⟩⟩ := id Ys
    obtain ⟨t0, t1, t2, t3, t4, t5, t6⟩ := id hD.1
    have np := hW.n hD
    refine e_iload dX8_goThrough_20 rfl ?_
    refine e_aload_n dX8_goThrough_22 rfl rfl ?_
    refine e_getR (q := 2) dX8_goThrough_23 fl_RX8_56 y0 (show k < fnx σ by omega) rfl yr0 (by unfold fscr; omega) ?_
    refine e_getI dX8_goThrough_26 fl_RX8_68 g0 (show 2 < fnx σ by omega) rfl ?_
    refine e_int (nI (dT D 1)) Gr.1.2.1 ?_
    refine e_icmp_ge 95 dX8_goThrough_29 (by decide) (fun cz => ?_) (fun cz => absurd ((nI_le' (by omega) (by omega)).mpr (by omega)) cz)
    exact l_X8_go95 Ms hY Gr hD Yr Yt hW hC hn h
  | succ n ih =>
    intro i σ S m T sd hin Ms Gr Yr Yt hW hC hn h
    have yl := fyl hY
    have Gs := Ms.ground (k := 2) (by decide)
    have Ys := Ms.yard hY
    obtain ⟨⟨g0, g1, g2, g3, g4, g5⟩, ⟨gn, gK⟩, ⟨gr0, gr1, gr2, gr3, gr4⟩⟩ := id Gs
    obtain ⟨⟨y0, y1, y2, y3, y4, y5, y6⟩, ⟨yn, yK⟩, ⟨yr0, yr1, yr2, yr3, yr4, yr5, yr6⟩⟩ := id Ys
    obtain ⟨t0, t1, t2, t3, t4, t5, t6⟩ := id hD.1
    have np := hW.n hD
    have hi : i < dT D 1 := by omega
    have dv : fl / 2 ^ i < 4096 := Nat.lt_of_le_of_lt (Nat.div_le_self _ _) (by omega)
    have dl := d2 (b := fl) (i := i)
    have nd := mneed_le D S i
    refine e_iload dX8_goThrough_20 rfl ?_
    refine e_aload_n dX8_goThrough_22 rfl rfl ?_
    refine e_getR (q := 2) dX8_goThrough_23 fl_RX8_56 y0 (show k < fnx σ by omega) rfl yr0 (by unfold fscr; omega) ?_
    refine e_getI dX8_goThrough_26 fl_RX8_68 g0 (show 2 < fnx σ by omega) rfl ?_
    refine e_int (nI (dT D 1)) Gr.1.2.1 ?_
    refine e_icmp_ge 95 dX8_goThrough_29 (by decide) (fun cz => absurd ((nI_le' (by omega) (by omega)).mp cz) (by omega)) (fun cz => ?_)
    refine e_iload_n dX8_goThrough_32 rfl rfl ?_
    refine e_iload dX8_goThrough_33 rfl ?_
    refine e_ishr dX8_goThrough_35 ?_
    refine e_int (nI (fl / 2 ^ i)) (nI_shr (by omega) (by omega)) ?_
    refine e_if_eq 95 dX8_goThrough_36 (by decide) (fun c36 => ?_) (fun c36 => ?_)
    · rw [nI_z (by omega)] at c36
      rw [mfrz_0 _ _ _ c36] at h
      exact l_X8_go95 Ms hY Gr hD Yr Yt hW hC hn h
    · rw [nI_z (by omega)] at c36
      refine e_iload_n dX8_goThrough_39 rfl rfl ?_
      refine e_iload dX8_goThrough_40 rfl ?_
      refine e_ishr dX8_goThrough_42 ?_
      refine e_int (nI (fl / 2 ^ i)) (nI_shr (by omega) (by omega)) ?_
      refine e_iconst (nI 1) dX8_goThrough_43 (by decide) ?_
      refine e_iand dX8_goThrough_44 ?_
      refine e_int (nI (fl / 2 ^ i % 2)) (nI_and1 (by omega)) ?_
      refine e_iconst (nI 1) dX8_goThrough_45 (by decide) ?_
      refine e_icmp_ne 89 dX8_goThrough_46 (by decide) (fun c46 => ?_) (fun c46 => ?_)
      · rw [nI_inj (by omega) (by omega)] at c46
        refine e_iinc (v := nI (i + 1)) (L1 := [some (.ref k), some (.int (nI fl)), some (.int (nI c9)), some (.ref (k + 6)), some (.int (nI b)), some (.int (nI (i + 1)))]) dX8_goThrough_89 rfl (show nI i + Int32.ofInt 1 = nI (i + 1) from nI_add i 1) (by decide) rfl ?_
        refine e_goto 20 dX8_goThrough_92 (by decide) ?_
        have h := h
        rw [show mfrz ldr D fl c9 (n + 1) i (S, T, sd) = mfrz ldr D fl c9 n (i + 1) (mst ldr D fl c9 i (S, T, sd)) from rfl] at h
        have hm : mst ldr D fl c9 i (S, T, sd) = (S, T, sd) := by first | (rw [mst_u, if_neg (fun q => by omega)]) | (rw [mst_u, if_neg (fun q => by rw [c55] at q; exact absurd q.2 Bool.false_ne_true)]) | (rw [mst_u, if_pos ⟨by omega, c55⟩, if_neg (by omega), if_neg (by omega)])
        rw [hm] at h
        exact ih (i + 1) σ S m T sd (by omega) Ms Gr Yr Yt hW hC hn h
      · rw [nI_inj (by omega) (by omega)] at c46
        refine e_aload_n dX8_goThrough_49 rfl rfl ?_
        refine e_iload dX8_goThrough_50 rfl ?_
        refine e_callV (k := k) [.int (nI i)] dX8_goThrough_52 cc_X8_isAlive lk_RX8_105 im_X8_isAlive se_X8_isAlive (by decide) y0 (show k < fnx σ by omega) rfl (Nat.le_of_ble_eq_true rfl) (Nat.le_of_ble_eq_true rfl) ?_
        refine t_X8_isAlive Gs Gr hD Ys Yr hW (by omega) (fK_i ?_)
        show fEv g _ mX8_goThrough 55 [some (.ref k), some (.int (nI fl)), some (.int (nI c9)), some (.ref (k + 6)), some (.int (nI b)), some (.int (nI i))] [.int (nI (bn (mal D S i)))] σ Q
        refine e_if_eq 89 dX8_goThrough_55 (by decide) (fun c55 => ?_) (fun c55 => ?_)
        · have c55 := bn0 c55
          refine e_iinc (v := nI (i + 1)) (L1 := [some (.ref k), some (.int (nI fl)), some (.int (nI c9)), some (.ref (k + 6)), some (.int (nI b)), some (.int (nI (i + 1)))]) dX8_goThrough_89 rfl (show nI i + Int32.ofInt 1 = nI (i + 1) from nI_add i 1) (by decide) rfl ?_
          refine e_goto 20 dX8_goThrough_92 (by decide) ?_
          have h := h
          rw [show mfrz ldr D fl c9 (n + 1) i (S, T, sd) = mfrz ldr D fl c9 n (i + 1) (mst ldr D fl c9 i (S, T, sd)) from rfl] at h
          have hm : mst ldr D fl c9 i (S, T, sd) = (S, T, sd) := by first | (rw [mst_u, if_neg (fun q => by omega)]) | (rw [mst_u, if_neg (fun q => by rw [c55] at q; exact absurd q.2 Bool.false_ne_true)]) | (rw [mst_u, if_pos ⟨by omega, c55⟩, if_neg (by omega), if_neg (by omega)])
          rw [hm] at h
          exact ih (i + 1) σ S m T sd (by omega) Ms Gr Yr Yt hW hC hn h
        · have c55 := bn1 c55
          refine e_iload_n dX8_goThrough_58 rfl rfl ?_
          refine e_aload_n dX8_goThrough_59 rfl rfl ?_
          refine e_iload dX8_goThrough_60 rfl ?_
          refine e_callV (k := k) [.int (nI i)] dX8_goThrough_62 cc_X8_needOf lk_RX8_134 im_X8_needOf se_X8_needOf (by decide) y0 (show k < fnx σ by omega) rfl (Nat.le_of_ble_eq_true rfl) (Nat.le_of_ble_eq_true rfl) ?_
          refine t_X8_needOf Gs Gr hD Ys Yr hW (by omega) (fK_i ?_)
          show fEv g _ mX8_goThrough 65 [some (.ref k), some (.int (nI fl)), some (.int (nI c9)), some (.ref (k + 6)), some (.int (nI b)), some (.int (nI i))] [.int (nI (mneed D S i)), .int (nI c9)] σ Q
          refine e_icmp_lt 79 dX8_goThrough_65 (by decide) (fun c65 => ?_) (fun c65 => ?_)
          · rw [nI_lt' (by omega) (by omega)] at c65
            refine e_iload_n dX8_goThrough_79 rfl rfl ?_
            refine e_if_le 89 dX8_goThrough_80 (by decide) (fun c80 => ?_) (fun c80 => ?_)
            · rw [nI_zle (by omega)] at c80
              refine e_iinc (v := nI (i + 1)) (L1 := [some (.ref k), some (.int (nI fl)), some (.int (nI c9)), some (.ref (k + 6)), some (.int (nI b)), some (.int (nI (i + 1)))]) dX8_goThrough_89 rfl (show nI i + Int32.ofInt 1 = nI (i + 1) from nI_add i 1) (by decide) rfl ?_
              refine e_goto 20 dX8_goThrough_92 (by decide) ?_
              have h := h
              rw [show mfrz ldr D fl c9 (n + 1) i (S, T, sd) = mfrz ldr D fl c9 n (i + 1) (mst ldr D fl c9 i (S, T, sd)) from rfl] at h
              have hm : mst ldr D fl c9 i (S, T, sd) = (S, T, sd) := by first | (rw [mst_u, if_neg (fun q => by omega)]) | (rw [mst_u, if_neg (fun q => by rw [c55] at q; exact absurd q.2 Bool.false_ne_true)]) | (rw [mst_u, if_pos ⟨by omega, c55⟩, if_neg (by omega), if_neg (by omega)])
              rw [hm] at h
              exact ih (i + 1) σ S m T sd (by omega) Ms Gr Yr Yt hW hC hn h
            · rw [nI_zle (by omega)] at c80
              refine e_aload_n dX8_goThrough_83 rfl rfl ?_
              refine e_iload dX8_goThrough_84 rfl ?_
              refine e_callV (k := k) [.int (nI i)] dX8_goThrough_86 cc_X8_bruise lk_RX8_141 im_X8_bruise se_X8_bruise (by decide) y0 (show k < fnx σ by omega) rfl (Nat.le_of_ble_eq_true rfl) (Nat.le_of_ble_eq_true rfl) ?_
              refine t_X8_bruise Ms hY Gr hD Yr Yt hW hC hi (fun σ1 Sm1 Yf1 => ?_)
              show fEv g _ mX8_goThrough 89 [some (.ref k), some (.int (nI fl)), some (.int (nI c9)), some (.ref (k + 6)), some (.int (nI b)), some (.int (nI i))] [] σ1 Q
              obtain ⟨⟨m1, Yr1⟩, Yt1⟩ := Yf1
              have Ms1 := Ms.sm Sm1
              have Gr1 := Gr.y Sm1 hY
              refine e_iinc (v := nI (i + 1)) (L1 := [some (.ref k), some (.int (nI fl)), some (.int (nI c9)), some (.ref (k + 6)), some (.int (nI b)), some (.int (nI (i + 1)))]) dX8_goThrough_89 rfl (show nI i + Int32.ofInt 1 = nI (i + 1) from nI_add i 1) (by decide) rfl ?_
              refine e_goto 20 dX8_goThrough_92 (by decide) ?_
              have h := h
              rw [show mfrz ldr D fl c9 (n + 1) i (S, T, sd) = mfrz ldr D fl c9 n (i + 1) (mst ldr D fl c9 i (S, T, sd)) from rfl] at h
              have hm : mst ldr D fl c9 i (S, T, sd) = (mbru S i, T, sd) := by rw [mst_u, if_pos ⟨by omega, c55⟩, if_neg (by omega), if_pos (by omega)]
              have k9 := fWS_st (dr := ldr) (fill := fl) (cold := c9) (k := i) (x := (S, T, sd)) hD hW hC hi hn
              rw [hm] at h k9
              exact ih (i + 1) σ1 _ m1 _ _ (by omega) Ms1 Gr1 Yr1 Yt1 k9.1 k9.2.1 (Nat.lt_of_le_of_lt (Nat.le_of_eq k9.2.2) hn) (fun σ' Sm' Yf' => h σ' (Sm1.tr Sm') Yf')
          · rw [nI_lt' (by omega) (by omega)] at c65
            refine e_aload_n dX8_goThrough_68 rfl rfl ?_
            refine e_iload dX8_goThrough_69 rfl ?_
            refine e_iload_n dX8_goThrough_71 rfl rfl ?_
            refine e_aload_n dX8_goThrough_72 rfl rfl ?_
            refine e_callV (k := k) [.int (nI i), .int (nI c9), .ref (k + 6)] dX8_goThrough_73 cc_X8_split lk_RX8_137 im_X8_split se_X8_split (by decide) y0 (show k < fnx σ by omega) rfl (Nat.le_of_ble_eq_true rfl) (Nat.le_of_ble_eq_true rfl) ?_
            refine t_X8_splitL Ms hY Gr hD Yr Yt hW hC hi hc9 c55 (fun σ1 Sm1 Yf1 => ?_)
            show fEv g _ mX8_goThrough 76 [some (.ref k), some (.int (nI fl)), some (.int (nI c9)), some (.ref (k + 6)), some (.int (nI b)), some (.int (nI i))] [] σ1 Q
            obtain ⟨⟨m1, Yr1⟩, Yt1⟩ := Yf1
            have Ms1 := Ms.sm Sm1
            have Gr1 := Gr.y Sm1 hY
            refine e_goto 89 dX8_goThrough_76 (by decide) ?_
            refine e_iinc (v := nI (i + 1)) (L1 := [some (.ref k), some (.int (nI fl)), some (.int (nI c9)), some (.ref (k + 6)), some (.int (nI b)), some (.int (nI (i + 1)))]) dX8_goThrough_89 rfl (show nI i + Int32.ofInt 1 = nI (i + 1) from nI_add i 1) (by decide) rfl ?_
            refine e_goto 20 dX8_goThrough_92 (by decide) ?_
            have h := h
            rw [show mfrz ldr D fl c9 (n + 1) i (S, T, sd) = mfrz ldr D fl c9 n (i + 1) (mst ldr D fl c9 i (S, T, sd)) from rfl] at h
            have hm : mst ldr D fl c9 i (S, T, sd) = mss ldr D c9 i (S, T, sd) := by rw [mst_u, if_pos ⟨by omega, c55⟩, if_pos (by omega)]
            have k9 := fWS_st (dr := ldr) (fill := fl) (cold := c9) (k := i) (x := (S, T, sd)) hD hW hC hi hn
            rw [hm] at h k9
            exact ih (i + 1) σ1 _ m1 _ _ (by omega) Ms1 Gr1 Yr1 Yt1 k9.1 k9.2.1 (Nat.lt_of_le_of_lt (Nat.le_of_eq k9.2.2) hn) (fun σ' Sm' Yf' => h σ' (Sm1.tr Sm') Yf')
set_option maxRecDepth 20000 in
theorem t_X8_goThroughL {g : fGP} {d : Nat} {σ : fAH} {Q : fRes → fAH → Prop} {k m : Nat} {D : fSD} {S : Nat → Nat} {T : Nat → Int32} {sd : Int32} {fl c9 : Nat} (Ms : fMs g σ) (hY : k ∈ [15, 22, 37, 46, 59, 69, 79]) (Gr : fGr σ 2 D) (hD : fWD D) (Yr : fYr σ k D S m sd) (Yt : fYt σ k S T) (hW : fWS D S) (hC : fWC D S) (hf : fl < 4096) (hc9 : c9 < 100) (hn : S 155 < 30) (h : ∀ σ', fSm (fYA k) σ σ' → fYf σ' k D (mgo ldr D fl c9 (S, T, sd)).1 (mgo ldr D fl c9 (S, T, sd)).2.1 (mgo ldr D fl c9 (S, T, sd)).2.2 → Q (.inl (some (.int (nI ((mgo ldr D fl c9 (S, T, sd)).1 152) - nI (S 152))))) σ') : fEv g (d + 4) mX8_goThrough 0 (fent [.ref k, .int (nI fl), .int (nI c9), .ref (k + 6)] 6) [] σ Q := by
  have yl := fyl hY
  have Gs := Ms.ground (k := 2) (by decide)
  have Ys := Ms.yard hY
  obtain ⟨⟨g0, g1, g2, g3, g4, g5⟩, ⟨gn, gK⟩, ⟨gr0, gr1, gr2, gr3, gr4⟩⟩ := id Gs
  obtain ⟨⟨y0, y1, y2, y3, y4, y5, y6⟩, ⟨yn, yK⟩, ⟨yr0, yr1, yr2, yr3, yr4, yr5, yr6⟩⟩ := id Ys
  obtain ⟨t0, t1, t2, t3, t4, t5, t6⟩ := id hD.1
  have np := hW.n hD
  show fEv g (d + 4) mX8_goThrough 0 [some (.ref k), some (.int (nI fl)), some (.int (nI c9)), some (.ref (k + 6)), none, none] [] σ Q
  refine e_aload_n dX8_goThrough_0 rfl rfl ?_
  refine e_getI dX8_goThrough_1 fl_RX8_41 y0 (show k < fnx σ by omega) rfl ?_
  refine e_int (nI (S 155)) Yr.1.2.2.1 ?_
  refine e_bipush (nI 30) dX8_goThrough_4 (by decide) ?_
  refine e_icmp_lt 11 dX8_goThrough_6 (by decide) (fun _ => ?_) (fun c => absurd ((nI_lt' (by omega) (by omega)).mpr (by omega)) c)
  refine e_aload_n dX8_goThrough_11 rfl rfl ?_
  refine e_getI dX8_goThrough_12 fl_RX8_47 y0 (show k < fnx σ by omega) rfl ?_
  refine e_int (nI (S 152)) Yr.1.2.2.2.2.1 ?_
  refine e_istore (L1 := [some (.ref k), some (.int (nI fl)), some (.int (nI c9)), some (.ref (k + 6)), some (.int (nI (S 152))), none]) dX8_goThrough_15 (by decide) rfl ?_
  refine e_iconst (nI 0) dX8_goThrough_17 (by decide) ?_
  refine e_istore (L1 := [some (.ref k), some (.int (nI fl)), some (.int (nI c9)), some (.ref (k + 6)), some (.int (nI (S 152))), some (.int (nI 0))]) dX8_goThrough_18 (by decide) rfl ?_
  exact l_X8_goL hY hD hf hc9 (dT D 1) 0 σ S m T sd (by omega) Ms Gr Yr Yt hW hC hn h
set_option maxRecDepth 20000 in
theorem l_X8_goW {g : fGP} {d : Nat} {Q : fRes → fAH → Prop} {k : Nat} {D : fSD} {sd : Int32} {w : Nat} (hw : w ∈ [44, 53]) {fl c9 b : Nat} (hY : k ∈ [15, 22, 37, 46, 59, 69, 79]) (hD : fWD D) (hf : fl < 4096) (hc9 : c9 < 100) : ∀ (n i : Nat) (σ : fAH) (S : Nat → Nat) (m : Nat) (T : Nat → Int32) (z : fZW), i + n = dT D 1 → fMs g σ → fGr σ 2 D → fYr σ k D S m sd → fYt σ k S T → fWS D S → fWC D S → S 155 < 30 → fWr σ w z → (∀ σ', fSm (fun a => fYA k a ∨ fWA w a) σ σ' → fYf σ' k D (mend D (mfrz wdr D fl c9 n i (S, T, z)).1) (mTp (mfrz wdr D fl c9 n i (S, T, z)).2.1 (100 + (mfrz wdr D fl c9 n i (S, T, z)).1 155) (nI c9)) sd → fWr σ' w (mfrz wdr D fl c9 n i (S, T, z)).2.2 → Q (.inl (some (.int (nI (mend D (mfrz wdr D fl c9 n i (S, T, z)).1 152) - nI b)))) σ') → fEv g (d + 4) mX8_goThrough 20 [some (.ref k), some (.int (nI fl)), some (.int (nI c9)), some (.ref w), some (.int (nI b)), some (.int (nI i))] [] σ Q := by
  intro n
  induction n with
  | zero =>
    intro i σ S m T z hin Ms Gr Yr Yt hW hC hn Wr h
    have yl := fyl hY
    have Gs := Ms.ground (k := 2) (by decide)
    have Ys := Ms.yard hY
    obtain ⟨⟨g0, g1, g2, g3, g4, g5⟩, ⟨gn, gK⟩, ⟨gr0, gr1, gr2, gr3, gr4⟩⟩ := id Gs
    obtain ⟨⟨y0, y1, y2, y3, y4, y5, y6⟩, ⟨yn, yK⟩, ⟨yr0, yr1, yr2, yr3, yr4, yr5, yr6⟩⟩ := id Ys
    obtain ⟨t0, t1, t2, t3, t4, t5, t6⟩ := id hD.1
    have np := hW.n hD
    have wn := ywl hw hY
    have ww := wll hw
    refine e_iload dX8_goThrough_20 rfl ?_
    refine e_aload_n dX8_goThrough_22 rfl rfl ?_
    refine e_getR (q := 2) dX8_goThrough_23 fl_RX8_56 y0 (show k < fnx σ by omega) rfl yr0 (by unfold fscr; omega) ?_
    refine e_getI dX8_goThrough_26 fl_RX8_68 g0 (show 2 < fnx σ by omega) rfl ?_
    refine e_int (nI (dT D 1)) Gr.1.2.1 ?_
    refine e_icmp_ge 95 dX8_goThrough_29 (by decide) (fun cz => ?_) (fun cz => absurd ((nI_le' (by omega) (by omega)).mpr (by omega)) cz)
    exact l_X8_go95 Ms hY Gr hD Yr Yt hW hC hn (fun σ' Sm' Yf' => h σ' (Sm'.to (fun _ q => Or.inl q)) Yf' (Wr.sm Sm' wn.1 wn.2))
  | succ n ih =>
    intro i σ S m T z hin Ms Gr Yr Yt hW hC hn Wr h
    have yl := fyl hY
    have Gs := Ms.ground (k := 2) (by decide)
    have Ys := Ms.yard hY
    obtain ⟨⟨g0, g1, g2, g3, g4, g5⟩, ⟨gn, gK⟩, ⟨gr0, gr1, gr2, gr3, gr4⟩⟩ := id Gs
    obtain ⟨⟨y0, y1, y2, y3, y4, y5, y6⟩, ⟨yn, yK⟩, ⟨yr0, yr1, yr2, yr3, yr4, yr5, yr6⟩⟩ := id Ys
    obtain ⟨t0, t1, t2, t3, t4, t5, t6⟩ := id hD.1
    have np := hW.n hD
    have wn := ywl hw hY
    have ww := wll hw
    have hi : i < dT D 1 := by omega
    have dv : fl / 2 ^ i < 4096 := Nat.lt_of_le_of_lt (Nat.div_le_self _ _) (by omega)
    have dl := d2 (b := fl) (i := i)
    have nd := mneed_le D S i
    refine e_iload dX8_goThrough_20 rfl ?_
    refine e_aload_n dX8_goThrough_22 rfl rfl ?_
    refine e_getR (q := 2) dX8_goThrough_23 fl_RX8_56 y0 (show k < fnx σ by omega) rfl yr0 (by unfold fscr; omega) ?_
    refine e_getI dX8_goThrough_26 fl_RX8_68 g0 (show 2 < fnx σ by omega) rfl ?_
    refine e_int (nI (dT D 1)) Gr.1.2.1 ?_
    refine e_icmp_ge 95 dX8_goThrough_29 (by decide) (fun cz => absurd ((nI_le' (by omega) (by omega)).mp cz) (by omega)) (fun cz => ?_)
    refine e_iload_n dX8_goThrough_32 rfl rfl ?_
    refine e_iload dX8_goThrough_33 rfl ?_
    refine e_ishr dX8_goThrough_35 ?_
    refine e_int (nI (fl / 2 ^ i)) (nI_shr (by omega) (by omega)) ?_
    refine e_if_eq 95 dX8_goThrough_36 (by decide) (fun c36 => ?_) (fun c36 => ?_)
    · rw [nI_z (by omega)] at c36
      rw [mfrz_0 _ _ _ c36] at h
      exact l_X8_go95 Ms hY Gr hD Yr Yt hW hC hn (fun σ' Sm' Yf' => h σ' (Sm'.to (fun _ q => Or.inl q)) Yf' (Wr.sm Sm' wn.1 wn.2))
    · rw [nI_z (by omega)] at c36
      refine e_iload_n dX8_goThrough_39 rfl rfl ?_
      refine e_iload dX8_goThrough_40 rfl ?_
      refine e_ishr dX8_goThrough_42 ?_
      refine e_int (nI (fl / 2 ^ i)) (nI_shr (by omega) (by omega)) ?_
      refine e_iconst (nI 1) dX8_goThrough_43 (by decide) ?_
      refine e_iand dX8_goThrough_44 ?_
      refine e_int (nI (fl / 2 ^ i % 2)) (nI_and1 (by omega)) ?_
      refine e_iconst (nI 1) dX8_goThrough_45 (by decide) ?_
      refine e_icmp_ne 89 dX8_goThrough_46 (by decide) (fun c46 => ?_) (fun c46 => ?_)
      · rw [nI_inj (by omega) (by omega)] at c46
        refine e_iinc (v := nI (i + 1)) (L1 := [some (.ref k), some (.int (nI fl)), some (.int (nI c9)), some (.ref w), some (.int (nI b)), some (.int (nI (i + 1)))]) dX8_goThrough_89 rfl (show nI i + Int32.ofInt 1 = nI (i + 1) from nI_add i 1) (by decide) rfl ?_
        refine e_goto 20 dX8_goThrough_92 (by decide) ?_
        have h := h
        rw [show mfrz wdr D fl c9 (n + 1) i (S, T, z) = mfrz wdr D fl c9 n (i + 1) (mst wdr D fl c9 i (S, T, z)) from rfl] at h
        have hm : mst wdr D fl c9 i (S, T, z) = (S, T, z) := by first | (rw [mst_u, if_neg (fun q => by omega)]) | (rw [mst_u, if_neg (fun q => by rw [c55] at q; exact absurd q.2 Bool.false_ne_true)]) | (rw [mst_u, if_pos ⟨by omega, c55⟩, if_neg (by omega), if_neg (by omega)])
        rw [hm] at h
        exact ih (i + 1) σ S m T z (by omega) Ms Gr Yr Yt hW hC hn Wr h
      · rw [nI_inj (by omega) (by omega)] at c46
        refine e_aload_n dX8_goThrough_49 rfl rfl ?_
        refine e_iload dX8_goThrough_50 rfl ?_
        refine e_callV (k := k) [.int (nI i)] dX8_goThrough_52 cc_X8_isAlive lk_RX8_105 im_X8_isAlive se_X8_isAlive (by decide) y0 (show k < fnx σ by omega) rfl (Nat.le_of_ble_eq_true rfl) (Nat.le_of_ble_eq_true rfl) ?_
        refine t_X8_isAlive Gs Gr hD Ys Yr hW (by omega) (fK_i ?_)
        show fEv g _ mX8_goThrough 55 [some (.ref k), some (.int (nI fl)), some (.int (nI c9)), some (.ref w), some (.int (nI b)), some (.int (nI i))] [.int (nI (bn (mal D S i)))] σ Q
        refine e_if_eq 89 dX8_goThrough_55 (by decide) (fun c55 => ?_) (fun c55 => ?_)
        · have c55 := bn0 c55
          refine e_iinc (v := nI (i + 1)) (L1 := [some (.ref k), some (.int (nI fl)), some (.int (nI c9)), some (.ref w), some (.int (nI b)), some (.int (nI (i + 1)))]) dX8_goThrough_89 rfl (show nI i + Int32.ofInt 1 = nI (i + 1) from nI_add i 1) (by decide) rfl ?_
          refine e_goto 20 dX8_goThrough_92 (by decide) ?_
          have h := h
          rw [show mfrz wdr D fl c9 (n + 1) i (S, T, z) = mfrz wdr D fl c9 n (i + 1) (mst wdr D fl c9 i (S, T, z)) from rfl] at h
          have hm : mst wdr D fl c9 i (S, T, z) = (S, T, z) := by first | (rw [mst_u, if_neg (fun q => by omega)]) | (rw [mst_u, if_neg (fun q => by rw [c55] at q; exact absurd q.2 Bool.false_ne_true)]) | (rw [mst_u, if_pos ⟨by omega, c55⟩, if_neg (by omega), if_neg (by omega)])
          rw [hm] at h
          exact ih (i + 1) σ S m T z (by omega) Ms Gr Yr Yt hW hC hn Wr h
        · have c55 := bn1 c55
          refine e_iload_n dX8_goThrough_58 rfl rfl ?_
          refine e_aload_n dX8_goThrough_59 rfl rfl ?_
          refine e_iload dX8_goThrough_60 rfl ?_
          refine e_callV (k := k) [.int (nI i)] dX8_goThrough_62 cc_X8_needOf lk_RX8_134 im_X8_needOf se_X8_needOf (by decide) y0 (show k < fnx σ by omega) rfl (Nat.le_of_ble_eq_true rfl) (Nat.le_of_ble_eq_true rfl) ?_
          refine t_X8_needOf Gs Gr hD Ys Yr hW (by omega) (fK_i ?_)
          show fEv g _ mX8_goThrough 65 [some (.ref k), some (.int (nI fl)), some (.int (nI c9)), some (.ref w), some (.int (nI b)), some (.int (nI i))] [.int (nI (mneed D S i)), .int (nI c9)] σ Q
          refine e_icmp_lt 79 dX8_goThrough_65 (by decide) (fun c65 => ?_) (fun c65 => ?_)
          · rw [nI_lt' (by omega) (by omega)] at c65
            refine e_iload_n dX8_goThrough_79 rfl rfl ?_
            refine e_if_le 89 dX8_goThrough_80 (by decide) (fun c80 => ?_) (fun c80 => ?_)
            · rw [nI_zle (by omega)] at c80
              refine e_iinc (v := nI (i + 1)) (L1 := [some (.ref k), some (.int (nI fl)), some (.int (nI c9)), some (.ref w), some (.int (nI b)), some (.int (nI (i + 1)))]) dX8_goThrough_89 rfl (show nI i + Int32.ofInt 1 = nI (i + 1) from nI_add i 1) (by decide) rfl ?_
              refine e_goto 20 dX8_goThrough_92 (by decide) ?_
              have h := h
              rw [show mfrz wdr D fl c9 (n + 1) i (S, T, z) = mfrz wdr D fl c9 n (i + 1) (mst wdr D fl c9 i (S, T, z)) from rfl] at h
              have hm : mst wdr D fl c9 i (S, T, z) = (S, T, z) := by first | (rw [mst_u, if_neg (fun q => by omega)]) | (rw [mst_u, if_neg (fun q => by rw [c55] at q; exact absurd q.2 Bool.false_ne_true)]) | (rw [mst_u, if_pos ⟨by omega, c55⟩, if_neg (by omega), if_neg (by omega)])
              rw [hm] at h
              exact ih (i + 1) σ S m T z (by omega) Ms Gr Yr Yt hW hC hn Wr h
            · rw [nI_zle (by omega)] at c80
              refine e_aload_n dX8_goThrough_83 rfl rfl ?_
              refine e_iload dX8_goThrough_84 rfl ?_
              refine e_callV (k := k) [.int (nI i)] dX8_goThrough_86 cc_X8_bruise lk_RX8_141 im_X8_bruise se_X8_bruise (by decide) y0 (show k < fnx σ by omega) rfl (Nat.le_of_ble_eq_true rfl) (Nat.le_of_ble_eq_true rfl) ?_
              refine t_X8_bruise Ms hY Gr hD Yr Yt hW hC hi (fun σ1 Sm1 Yf1 => ?_)
              show fEv g _ mX8_goThrough 89 [some (.ref k), some (.int (nI fl)), some (.int (nI c9)), some (.ref w), some (.int (nI b)), some (.int (nI i))] [] σ1 Q
              obtain ⟨⟨m1, Yr1⟩, Yt1⟩ := Yf1
              have Ms1 := Ms.sm Sm1
              have Gr1 := Gr.y Sm1 hY
              have Wr1 := Wr.sm Sm1 wn.1 wn.2
              refine e_iinc (v := nI (i + 1)) (L1 := [some (.ref k), some (.int (nI fl)), some (.int (nI c9)), some (.ref w), some (.int (nI b)), some (.int (nI (i + 1)))]) dX8_goThrough_89 rfl (show nI i + Int32.ofInt 1 = nI (i + 1) from nI_add i 1) (by decide) rfl ?_
              refine e_goto 20 dX8_goThrough_92 (by decide) ?_
              have h := h
              rw [show mfrz wdr D fl c9 (n + 1) i (S, T, z) = mfrz wdr D fl c9 n (i + 1) (mst wdr D fl c9 i (S, T, z)) from rfl] at h
              have hm : mst wdr D fl c9 i (S, T, z) = (mbru S i, T, z) := by rw [mst_u, if_pos ⟨by omega, c55⟩, if_neg (by omega), if_pos (by omega)]
              have k9 := fWS_st (dr := wdr) (fill := fl) (cold := c9) (k := i) (x := (S, T, z)) hD hW hC hi hn
              rw [hm] at h k9
              exact ih (i + 1) σ1 _ m1 _ _ (by omega) Ms1 Gr1 Yr1 Yt1 k9.1 k9.2.1 (Nat.lt_of_le_of_lt (Nat.le_of_eq k9.2.2) hn) Wr1 (fun σ' Sm' Yf' Wr' => h σ' ((Sm1.to (fun _ q => Or.inl q)).tr Sm') Yf' Wr')
          · rw [nI_lt' (by omega) (by omega)] at c65
            refine e_aload_n dX8_goThrough_68 rfl rfl ?_
            refine e_iload dX8_goThrough_69 rfl ?_
            refine e_iload_n dX8_goThrough_71 rfl rfl ?_
            refine e_aload_n dX8_goThrough_72 rfl rfl ?_
            refine e_callV (k := k) [.int (nI i), .int (nI c9), .ref w] dX8_goThrough_73 cc_X8_split lk_RX8_137 im_X8_split se_X8_split (by decide) y0 (show k < fnx σ by omega) rfl (Nat.le_of_ble_eq_true rfl) (Nat.le_of_ble_eq_true rfl) ?_
            refine t_X8_splitW Ms hY Gr hD Yr Yt hW hC hw Wr hi hc9 c55 (fun σ1 Sm1 Yf1 Wr1 => ?_)
            show fEv g _ mX8_goThrough 76 [some (.ref k), some (.int (nI fl)), some (.int (nI c9)), some (.ref w), some (.int (nI b)), some (.int (nI i))] [] σ1 Q
            obtain ⟨⟨m1, Yr1⟩, Yt1⟩ := Yf1
            have Ms1 := Ms.sm Sm1
            have Gr1 := Gr.sm Sm1 (fun i hi => by unfold fYA fWA; omega)
            refine e_goto 89 dX8_goThrough_76 (by decide) ?_
            refine e_iinc (v := nI (i + 1)) (L1 := [some (.ref k), some (.int (nI fl)), some (.int (nI c9)), some (.ref w), some (.int (nI b)), some (.int (nI (i + 1)))]) dX8_goThrough_89 rfl (show nI i + Int32.ofInt 1 = nI (i + 1) from nI_add i 1) (by decide) rfl ?_
            refine e_goto 20 dX8_goThrough_92 (by decide) ?_
            have h := h
            rw [show mfrz wdr D fl c9 (n + 1) i (S, T, z) = mfrz wdr D fl c9 n (i + 1) (mst wdr D fl c9 i (S, T, z)) from rfl] at h
            have hm : mst wdr D fl c9 i (S, T, z) = mss wdr D c9 i (S, T, z) := by rw [mst_u, if_pos ⟨by omega, c55⟩, if_pos (by omega)]
            have k9 := fWS_st (dr := wdr) (fill := fl) (cold := c9) (k := i) (x := (S, T, z)) hD hW hC hi hn
            rw [hm] at h k9
            exact ih (i + 1) σ1 _ m1 _ _ (by omega) Ms1 Gr1 Yr1 Yt1 k9.1 k9.2.1 (Nat.lt_of_le_of_lt (Nat.le_of_eq k9.2.2) hn) Wr1 (fun σ' Sm' Yf' Wr' => h σ' (Sm1.tr Sm') Yf' Wr')
set_option maxRecDepth 20000 in
theorem t_X8_goThroughW {g : fGP} {d : Nat} {σ : fAH} {Q : fRes → fAH → Prop} {k m : Nat} {D : fSD} {S : Nat → Nat} {T : Nat → Int32} {sd : Int32} {fl c9 : Nat} {w : Nat} {z : fZW} (Ms : fMs g σ) (hY : k ∈ [15, 22, 37, 46, 59, 69, 79]) (Gr : fGr σ 2 D) (hD : fWD D) (Yr : fYr σ k D S m sd) (Yt : fYt σ k S T) (hW : fWS D S) (hC : fWC D S) (hw : w ∈ [44, 53]) (Wr : fWr σ w z) (hf : fl < 4096) (hc9 : c9 < 100) (hn : S 155 < 30) (h : ∀ σ', fSm (fun a => fYA k a ∨ fWA w a) σ σ' → fYf σ' k D (mgo wdr D fl c9 (S, T, z)).1 (mgo wdr D fl c9 (S, T, z)).2.1 sd → fWr σ' w (mgo wdr D fl c9 (S, T, z)).2.2 → Q (.inl (some (.int (nI ((mgo wdr D fl c9 (S, T, z)).1 152) - nI (S 152))))) σ') : fEv g (d + 4) mX8_goThrough 0 (fent [.ref k, .int (nI fl), .int (nI c9), .ref w] 6) [] σ Q := by
  have yl := fyl hY
  have Gs := Ms.ground (k := 2) (by decide)
  have Ys := Ms.yard hY
  obtain ⟨⟨g0, g1, g2, g3, g4, g5⟩, ⟨gn, gK⟩, ⟨gr0, gr1, gr2, gr3, gr4⟩⟩ := id Gs
  obtain ⟨⟨y0, y1, y2, y3, y4, y5, y6⟩, ⟨yn, yK⟩, ⟨yr0, yr1, yr2, yr3, yr4, yr5, yr6⟩⟩ := id Ys
  obtain ⟨t0, t1, t2, t3, t4, t5, t6⟩ := id hD.1
  have np := hW.n hD
  show fEv g (d + 4) mX8_goThrough 0 [some (.ref k), some (.int (nI fl)), some (.int (nI c9)), some (.ref w), none, none] [] σ Q
  refine e_aload_n dX8_goThrough_0 rfl rfl ?_
  refine e_getI dX8_goThrough_1 fl_RX8_41 y0 (show k < fnx σ by omega) rfl ?_
  refine e_int (nI (S 155)) Yr.1.2.2.1 ?_
  refine e_bipush (nI 30) dX8_goThrough_4 (by decide) ?_
  refine e_icmp_lt 11 dX8_goThrough_6 (by decide) (fun _ => ?_) (fun c => absurd ((nI_lt' (by omega) (by omega)).mpr (by omega)) c)
  refine e_aload_n dX8_goThrough_11 rfl rfl ?_
  refine e_getI dX8_goThrough_12 fl_RX8_47 y0 (show k < fnx σ by omega) rfl ?_
  refine e_int (nI (S 152)) Yr.1.2.2.2.2.1 ?_
  refine e_istore (L1 := [some (.ref k), some (.int (nI fl)), some (.int (nI c9)), some (.ref w), some (.int (nI (S 152))), none]) dX8_goThrough_15 (by decide) rfl ?_
  refine e_iconst (nI 0) dX8_goThrough_17 (by decide) ?_
  refine e_istore (L1 := [some (.ref k), some (.int (nI fl)), some (.int (nI c9)), some (.ref w), some (.int (nI (S 152))), some (.int (nI 0))]) dX8_goThrough_18 (by decide) rfl ?_
  exact l_X8_goW hw hY hD hf hc9 (dT D 1) 0 σ S m T z (by omega) Ms Gr Yr Yt hW hC hn Wr h
