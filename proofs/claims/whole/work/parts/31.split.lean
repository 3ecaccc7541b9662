theorem mdo_c {D : fSD} {o : Nat} : ∀ (n p c : Nat) (S : Nat → Nat), c ≤ dT D 4 → c ≤ (mdo D o n p c S).2 ∧ (mdo D o n p c S).2 ≤ dT D 4
  | 0, _, _, _, h => ⟨Nat.le_refl _, h⟩
  | n + 1, p, c, S, h => by
    unfold mdo
    split
    · next q =>
      split
      · have := mdo_c (o := o) n (p + 1) (c + 1) (mtk D S o p) q.1
        omega
      · exact mdo_c n (p + 1) c S h
    · exact ⟨Nat.le_refl _, h⟩
theorem mdo_m {D : fSD} {o : Nat} {n p c : Nat} {S : Nat → Nat} (h : c < dT D 4 ∧ S (145 + o) < dO D o 2) (h2 : S (p * 6 + 5) = 1 ∧ msz D o (mwd S p) (mhg S p) = true) : mdo D o (n + 1) p c S = mdo D o n (p + 1) (c + 1) (mtk D S o p) := by
  show (if _ then (if _ then _ else _) else _) = _
  rw [if_pos h, if_pos h2]
theorem mdo_n {D : fSD} {o : Nat} {n p c : Nat} {S : Nat → Nat} (h : c < dT D 4 ∧ S (145 + o) < dO D o 2) (h2 : ¬ (S (p * 6 + 5) = 1 ∧ msz D o (mwd S p) (mhg S p) = true)) : mdo D o (n + 1) p c S = mdo D o n (p + 1) c S := by
  show (if _ then (if _ then _ else _) else _) = _
  rw [if_pos h, if_neg h2]
theorem mdl_y {D : fSD} {n o c : Nat} {S : Nat → Nat} (h : S 155 ≤ dO D o 3) : mdl D (n + 1) o c S = mdl D n (o + 1) (mdo D o (S 120) 0 c S).2 (mdo D o (S 120) 0 c S).1 := by
  show (if _ then _ else _) = _
  rw [if_pos h]
theorem mdl_n {D : fSD} {n o c : Nat} {S : Nat → Nat} (h : ¬ S 155 ≤ dO D o 3) : mdl D (n + 1) o c S = mdl D n (o + 1) c S := by
  show (if _ then _ else _) = _
  rw [if_neg h]
theorem fWS_do {D : fSD} {S : Nat → Nat} {o c : Nat} (hD : fWD D) (hW : fWS D S) (hC : fWC D S) (ho : o < dT D 2) : fWS D (mdo D o (S 120) 0 c S).1 ∧ fWC D (mdo D o (S 120) 0 c S).1 := by
  refine mdo_k (fun S1 _ => fWS D S1 ∧ fWC D S1) ?_ _ _ _ _ (by omega) ⟨hW, hC⟩
  intro S1 c p h hp _ hm _ _
  have np := h.1.n hD
  have := hD.1
  exact ⟨fWS_tk hD h.1 h.2 ho hp hm, mtk_o (by omega) (by omega) (by omega)⟩
theorem hl_m {a : Nat} (h : 1 ≤ a) : nI a + -1 = nI (a - 1) := by
  have : nI (a - 1) + nI 1 = nI (a - 1 + 1) := nI_add _ _
  rw [show a - 1 + 1 = a by omega] at this
  rw [← this, Int32.add_assoc, show nI 1 + -1 = 0 by decide, Int32.add_zero]
theorem aw_e {a b : Nat} {x : Int32} (h : nI a + x = nI b) : nI b - nI a = x := by
  rw [← h, Int32.add_comm, Int32.add_sub_cancel]
theorem aw_0 {a b : Nat} {x : Int32} (h : nI a + x = nI b) (ha : a < 1000) (hb : b < 1000) : x = 0 ↔ b = a := by
  constructor
  · intro e
    rw [e, Int32.add_zero] at h
    exact ((nI_inj (by omega) (by omega)).mp h).symm
  · intro e
    rw [← aw_e h, e, Int32.sub_self]
theorem wll {w : Nat} (hw : w ∈ [44, 53]) : 7 < w ∧ w + 1 < 89 := by
  simp only [List.mem_cons, List.not_mem_nil, or_false] at hw
  rcases hw with rfl | rfl <;> decide
theorem wyl {w k : Nat} (hw : w ∈ [44, 53]) (hY : k ∈ [15, 22, 37, 46, 59, 69, 79]) : ∀ i, i < 7 → ¬ fWA w (k + i) := by
  intro i hi
  simp only [List.mem_cons, List.not_mem_nil, or_false] at hw hY
  unfold fWA
  omega
theorem ywl {w k : Nat} (hw : w ∈ [44, 53]) (hY : k ∈ [15, 22, 37, 46, 59, 69, 79]) : ¬ fYA k w ∧ ¬ fYA k (w + 1) := by
  simp only [List.mem_cons, List.not_mem_nil, or_false] at hw hY
  unfold fYA
  omega
theorem wdr_lt {σ : fAH} {w : Nat} {z : fZW} (h : fWr σ w z) : (wdr z).1 < 100 := by
  unfold wdr
  split
  · show 2 < 100
    decide
  · split
    · show 0 < 100
      decide
    · exact h.2.2.2.2 _
set_option maxRecDepth 20000 in
theorem l_X8_split118 {g : fGP} {d : Nat} {σ : fAH} {Q : fRes → fAH → Prop} {k m : Nat} {D : fSD} {S : Nat → Nat} {T : Nat → Int32} {sd : Int32} {s c9 p ln dw : Nat} {aw : Int32} {o7 : Option Value} (Ms : fMs g σ) (hY : k ∈ [15, 22, 37, 46, 59, 69, 79]) (Gr : fGr σ 2 D) (hD : fWD D) (Yr : fYr σ k D S m sd) (Yt : fYt σ k S T) (hW : fWS D S) (hC : fWC D S) (hs : s < dT D 1) (hc : c9 < 100) (hpc : mpc D S s = some p) (hz : S (133 + s) = 0) (hl : nI (dS D s 2) + aw = nI ln) (hl9 : ln < 1000) (hin : mins D S s p ln = true) (h : ∀ σ', fSm (fYA k) σ σ' → fYf σ' k D (mspl D S s ln) (mnt D S T s ln c9) sd → Q (.inl none) σ')  : fEv g (d + 1) mX8_split 118 [some (.ref k), some (.int (nI s)), some (.int (nI c9)), some (.ref dw), some (.int (nI p)), some (.int (nI (dS D s 2))), some (.int aw), o7] [] σ Q := by
  have yl := fyl hY
  have Gs := Ms.ground (k := 2) (by decide)
  have Ys := Ms.yard hY
  obtain ⟨⟨g0, g1, g2, g3, g4, g5⟩, ⟨gn, gK⟩, ⟨gr0, gr1, gr2, gr3, gr4⟩⟩ := id Gs
  obtain ⟨⟨y0, y1, y2, y3, y4, y5, y6⟩, ⟨yn, yK⟩, ⟨yr0, yr1, yr2, yr3, yr4, yr5, yr6⟩⟩ := id Ys
  obtain ⟨t0, t1, t2, t3, t4, t5, t6⟩ := id hD.1
  have np := hW.n hD
  obtain ⟨s0, s1, s2, s3, s4, s5, s6⟩ := hD.2.2.1 s hs
  have sb := hD.s2 hs
  have hlt := hC.lt hs hz
  have h18 : S 120 < 18 := by have := hW.1; omega
  have hp := (mpc_lt hpc).1
  refine e_aload_n dX8_split_118 rfl rfl ?_
  refine e_iload dX8_split_119 rfl ?_
  refine e_aload_n dX8_split_121 rfl rfl ?_
  refine e_iload dX8_split_122 rfl ?_
  refine e_iload_n dX8_split_124 rfl rfl ?_
  refine e_callV (k := k) [.int (nI p), .int (nI s)] dX8_split_125 cc_X8_lowEdge lk_RX8_93 im_X8_lowEdge se_X8_lowEdge (by decide) y0 (show k < fnx σ by omega) rfl (Nat.le_of_ble_eq_true rfl) (Nat.le_of_ble_eq_true rfl) ?_
  refine t_X8_lowEdge Gs Gr hD Ys (by omega) (by omega) (fK_i ?_)
  show fEv g _ mX8_split 128 [some (.ref k), some (.int (nI s)), some (.int (nI c9)), some (.ref dw), some (.int (nI p)), some (.int (nI (dS D s 2))), some (.int aw), o7] [.int (nI (p * 6 + (1 + 2 * dS D s 1))), .int (nI p), .ref k] σ Q
  refine e_iload dX8_split_128 rfl ?_
  refine e_iload dX8_split_130 rfl ?_
  refine e_iadd dX8_split_132 ?_
  refine e_int (nI ln) hl ?_
  refine e_callV (k := k) [.int (nI p), .int (nI (p * 6 + (1 + 2 * dS D s 1))), .int (nI ln)] dX8_split_133 cc_X8_divide lk_RX8_161 im_X8_divide se_X8_divide (by decide) y0 (show k < fnx σ by omega) rfl (Nat.le_of_ble_eq_true rfl) (Nat.le_of_ble_eq_true rfl) ?_
  refine t_X8_divide Ms hY Gr hD Yr Yt np hs h18 hp hl9 (fun σ1 Smx1 Yf1 => ?_)
  show fEv g _ mX8_split 136 [some (.ref k), some (.int (nI s)), some (.int (nI c9)), some (.ref dw), some (.int (nI p)), some (.int (nI (dS D s 2))), some (.int aw), o7] [] σ1 Q
  have Sm1 := Smx1
  obtain ⟨⟨m1, Yr1⟩, Yt1⟩ := Yf1
  generalize hS1 : mdv D S s p ln = S1 at Yr1 Yt1
  have Ms1 := Ms.sm (Sm1)
  have Gs1 := Ms1.ground (k := 2) (by decide)
  have Ys1 := Ms1.yard hY
  have Gr1 := Gr.y Sm1 hY
  have en1 : fnx σ1 = fnx σ := Sm1.n
  have np1 : S1 120 ≤ 18 := by rw [← hS1, mdv_120 s1 (by omega) h18]; omega
  have e1 : S1 152 = S 152 ∧ S1 155 = S 155 := by rw [← hS1]; exact ⟨mdv_o s1 (by omega) h18 (by omega), mdv_o s1 (by omega) h18 (by omega)⟩
  refine e_aload_n dX8_split_136 rfl rfl ?_
  refine e_dup dX8_split_137 rfl ?_
  refine e_getI dX8_split_138 fl_RX8_22 y0 (show k < fnx σ1 by omega) rfl ?_
  refine e_int (nI m1) Yr1.1.2.1 ?_
  refine e_iconst (nI 1) dX8_split_141 (by decide) ?_
  refine e_iload_n dX8_split_142 rfl rfl ?_
  refine e_ishl dX8_split_143 ?_
  refine e_int (nI (2 ^ s)) (nI_sh1 (by omega)) ?_
  refine e_ior dX8_split_144 ?_
  refine e_int (nI (m1 ||| 2 ^ s)) (fa_or m1 (2 ^ s)) ?_
  refine e_putI dX8_split_145 fl_RX8_22 y0 (show k < fnx σ1 by omega) rfl rfl ?_
  have Yr2 := Yr1.msk (s := s) (v := S1 155 + 1) (by omega) (by omega) hD np1
  have Yt2 : fYt (fsI σ1 k 4 (nI (m1 ||| 2 ^ s))) k (mup S1 (133 + s) (S1 155 + 1)) T := Yt1.cg (fI_ne (by omega)) (fI_ne (by omega)) (mup_n _ _ (by omega)) (mup_n _ _ (by omega))
  have Sm2 : fSm (fYA k) σ (fsI σ1 k 4 (nI (m1 ||| 2 ^ s))) := Sm1.tr (fSm_I (A := fYA k) ⟨by omega, by omega⟩)
  generalize fsI σ1 k 4 (nI (m1 ||| 2 ^ s)) = σ2 at Yr2 Yt2 Sm2 ⊢
  generalize hS2 : mup S1 (133 + s) (S1 155 + 1) = S2 at Yr2 Yt2
  have Ms2 := Ms.sm (Sm2)
  have Gs2 := Ms2.ground (k := 2) (by decide)
  have Ys2 := Ms2.yard hY
  have Gr2 := Gr.y Sm2 hY
  have en2 : fnx σ2 = fnx σ := Sm2.n
  have np2 : S2 120 ≤ 18 := by rw [← hS2, mup_n _ _ (by omega)]; exact np1
  have e2 : S2 152 = S 152 ∧ S2 155 = S 155 := by rw [← hS2, mup_n _ _ (by omega), mup_n _ _ (by omega)]; exact e1
  refine e_aload_n dX8_split_148 rfl rfl ?_
  refine e_iload_n dX8_split_149 rfl rfl ?_
  refine e_iload_n dX8_split_150 rfl rfl ?_
  refine e_iload dX8_split_151 rfl ?_
  refine e_callV (k := k) [.int (nI s), .int (nI c9), .int aw] dX8_split_153 cc_X8_note lk_RX8_165 im_X8_note se_X8_note (by decide) y0 (show k < fnx σ2 by omega) rfl (Nat.le_of_ble_eq_true rfl) (Nat.le_of_ble_eq_true rfl) ?_
  refine t_X8_note Ms2 hY Gr2 hD Yr2 Yt2 np2 (show S2 152 < 12 by omega) (fun σ3 Smx3 Yf3 => ?_)
  show fEv g _ mX8_split 156 [some (.ref k), some (.int (nI s)), some (.int (nI c9)), some (.ref dw), some (.int (nI p)), some (.int (nI (dS D s 2))), some (.int aw), o7] [] σ3 Q
  have Sm3 := Sm2.tr Smx3
  obtain ⟨⟨m3, Yr3⟩, Yt3⟩ := Yf3
  have Ms3 := Ms.sm (Sm3)
  have Gs3 := Ms3.ground (k := 2) (by decide)
  have Ys3 := Ms3.yard hY
  have Gr3 := Gr.y Sm3 hY
  have en3 : fnx σ3 = fnx σ := Sm3.n
  have e3 : (if aw = 0 then 0 else 1 : Nat) = if ln = dS D s 2 then 0 else 1 := by simp only [aw_0 hl (show dS D s 2 < 1000 by omega) hl9]
  rw [e3] at Yr3 Yt3
  rw [e2.1, e2.2] at Yt3
  have e4 := aw_e hl
  rw [mspl_e hpc, hS1, hS2] at h
  unfold mnt at h
  rw [e4] at h
  rw [e2.1] at Yr3 h
  exact e_return dX8_split_156 rfl (h _ Sm3 ⟨⟨_, Yr3⟩, Yt3⟩)
set_option maxRecDepth 20000 in
theorem l_X8_split100 {g : fGP} {d : Nat} {σ : fAH} {Q : fRes → fAH → Prop} {k m : Nat} {D : fSD} {S : Nat → Nat} {T : Nat → Int32} {sd : Int32} {s c9 p ln dw : Nat} {aw : Int32} {o7 : Option Value} (Ms : fMs g σ) (hY : k ∈ [15, 22, 37, 46, 59, 69, 79]) (Gr : fGr σ 2 D) (hD : fWD D) (Yr : fYr σ k D S m sd) (Yt : fYt σ k S T) (hW : fWS D S) (hC : fWC D S) (hs : s < dT D 1) (hc : c9 < 100) (hpc : mpc D S s = some p) (hz : S (133 + s) = 0) (hl : nI (dS D s 2) + aw = nI ln) (hl9 : ln < 1000) (hi0 : mins D S s p (dS D s 2) = true) (h : ∀ σ', fSm (fYA k) σ σ' → fYf σ' k D (mspl D S s (if mins D S s p ln = true then ln else dS D s 2)) (mnt D S T s (if mins D S s p ln = true then ln else dS D s 2) c9) sd → Q (.inl none) σ')  : fEv g (d + 2) mX8_split 100 [some (.ref k), some (.int (nI s)), some (.int (nI c9)), some (.ref dw), some (.int (nI p)), some (.int (nI (dS D s 2))), some (.int aw), o7] [] σ Q := by
  have yl := fyl hY
  have Gs := Ms.ground (k := 2) (by decide)
  have Ys := Ms.yard hY
  obtain ⟨⟨g0, g1, g2, g3, g4, g5⟩, ⟨gn, gK⟩, ⟨gr0, gr1, gr2, gr3, gr4⟩⟩ := id Gs
  obtain ⟨⟨y0, y1, y2, y3, y4, y5, y6⟩, ⟨yn, yK⟩, ⟨yr0, yr1, yr2, yr3, yr4, yr5, yr6⟩⟩ := id Ys
  obtain ⟨t0, t1, t2, t3, t4, t5, t6⟩ := id hD.1
  have np := hW.n hD
  obtain ⟨s0, s1, s2, s3, s4, s5, s6⟩ := hD.2.2.1 s hs
  have sb := hD.s2 hs
  have hlt := hC.lt hs hz
  have h18 : S 120 < 18 := by have := hW.1; omega
  have hp := (mpc_lt hpc).1
  refine e_aload_n dX8_split_100 rfl rfl ?_
  refine e_iload dX8_split_101 rfl ?_
  refine e_iload_n dX8_split_103 rfl rfl ?_
  refine e_iload dX8_split_104 rfl ?_
  refine e_iload dX8_split_106 rfl ?_
  refine e_iadd dX8_split_108 ?_
  refine e_int (nI ln) hl ?_
  refine e_callV (k := k) [.int (nI p), .int (nI s), .int (nI ln)] dX8_split_109 cc_X8_isInside lk_RX8_101 im_X8_isInside se_X8_isInside (by decide) y0 (show k < fnx σ by omega) rfl (Nat.le_of_ble_eq_true rfl) (Nat.le_of_ble_eq_true rfl) ?_
  refine t_X8_isInside Gs Gr hD Ys Yr hW (by omega) (by omega) (by omega) (fK_i ?_)
  show fEv g _ mX8_split 112 [some (.ref k), some (.int (nI s)), some (.int (nI c9)), some (.ref dw), some (.int (nI p)), some (.int (nI (dS D s 2))), some (.int aw), o7] [.int (nI (bn (mins D S s p ln)))] σ Q
  refine e_if_ne 118 dX8_split_112 (by decide) (fun c112 => ?_) (fun c112 => ?_)
  · have c112 := bn1 c112
    exact l_X8_split118 Ms hY Gr hD Yr Yt hW hC hs hc hpc hz hl hl9 c112 (by rw [if_pos c112] at h; exact h)
  · have c112 := bn0 c112
    refine e_iconst (nI 0) dX8_split_115 (by decide) ?_
    refine e_istore (L1 := [some (.ref k), some (.int (nI s)), some (.int (nI c9)), some (.ref dw), some (.int (nI p)), some (.int (nI (dS D s 2))), some (.int (nI 0)), o7]) dX8_split_116 (by decide) rfl ?_
    exact l_X8_split118 (aw := nI 0) (ln := dS D s 2) Ms hY Gr hD Yr Yt hW hC hs hc hpc hz (nI_add _ 0) (by omega) hi0 (by rw [if_neg (by rw [c112]; exact Bool.false_ne_true)] at h; exact h)
set_option maxRecDepth 20000 in
theorem t_X7_quarter {g : fGP} {d : Nat} {σ : fAH} {Q : fRes → fAH → Prop} {w : Nat} {z : fZW} (Ms : fMs g σ) (hw : w ∈ [44, 53]) (Wr : fWr σ w z) (h : ∀ σ', fSm (fWA w) σ σ' → fWr σ' w (wdr z).2 → Q (.inl (some (.int (nI (wdr z).1)))) σ') : fEv g d mX7_quarter 0 (fent [.ref w] 2) [] σ Q := by
  obtain ⟨⟨wb, wc⟩, ⟨wn9, wK⟩, wr⟩ := id (Ms.ways hw)
  have w12 := Wr.2.2.1
  have w13 := Wr.2.2.2.1
  have w14 := Wr.2.2.2.2
  show fEv g d mX7_quarter 0 [some (.ref w), none] [] σ Q
  refine e_aload_n dX7_quarter_0 rfl rfl ?_
  refine e_getI dX7_quarter_1 fl_RX7_19 wb (show w < fnx σ by omega) rfl ?_
  refine e_int (nI z.1) Wr.1.1 ?_
  refine e_aload_n dX7_quarter_4 rfl rfl ?_
  refine e_getR (q := w + 1) dX7_quarter_5 fl_RX7_9 wb (show w < fnx σ by omega) rfl wr (by unfold fscr; omega) ?_
  refine e_alen dX7_quarter_8 wc (by decide) (show w + 1 < fnx σ by omega) ?_
  refine e_icmp_lt 14 dX7_quarter_9 (by decide) (fun c9 => ?_) (fun c9 => ?_)
  · rw [nI_lt' (by omega) (by omega)] at c9
    refine e_aload_n dX7_quarter_14 rfl rfl ?_
    refine e_getI dX7_quarter_15 fl_RX7_19 wb (show w < fnx σ by omega) rfl ?_
    refine e_int (nI z.1) Wr.1.1 ?_
    refine e_aload_n dX7_quarter_18 rfl rfl ?_
    refine e_getI dX7_quarter_19 fl_RX7_15 wb (show w < fnx σ by omega) rfl ?_
    refine e_int (nI z.2.1) Wr.1.2 ?_
    refine e_icmp_lt 45 dX7_quarter_22 (by decide) (fun c22 => ?_) (fun c22 => ?_)
    · rw [nI_lt' (by omega) (by omega)] at c22
      refine e_aload_n dX7_quarter_45 rfl rfl ?_
      refine e_getR (q := w + 1) dX7_quarter_46 fl_RX7_9 wb (show w < fnx σ by omega) rfl wr (by unfold fscr; omega) ?_
      refine e_aload_n dX7_quarter_49 rfl rfl ?_
      refine e_getI dX7_quarter_50 fl_RX7_19 wb (show w < fnx σ by omega) rfl ?_
      refine e_int (nI z.1) Wr.1.1 ?_
      refine e_iaload z.1 dX7_quarter_53 wc (show w + 1 < fnx σ by omega) rfl (by omega) (by decide) ?_
      refine e_int (nI (z.2.2 z.1)) (Wr.2.1 z.1 (by omega)) ?_
      refine e_istore_n (L1 := [some (.ref w), some (.int (nI (z.2.2 z.1)))]) dX7_quarter_54 rfl (by decide) rfl ?_
      refine e_aload_n dX7_quarter_55 rfl rfl ?_
      refine e_dup dX7_quarter_56 rfl ?_
      refine e_getI dX7_quarter_57 fl_RX7_19 wb (show w < fnx σ by omega) rfl ?_
      refine e_int (nI z.1) Wr.1.1 ?_
      refine e_iconst (nI 1) dX7_quarter_60 (by decide) ?_
      refine e_iadd dX7_quarter_61 ?_
      refine e_int (nI (z.1 + 1)) (nI_add z.1 1) ?_
      refine e_putI dX7_quarter_62 fl_RX7_19 wb (show w < fnx σ by omega) rfl rfl ?_
      refine e_iload_n dX7_quarter_65 rfl rfl ?_
      have hm : wdr z = (z.2.2 z.1, (z.1 + 1, z.2.1, z.2.2)) := by unfold wdr; rw [if_neg (by omega), if_neg (by omega)]
      rw [hm] at h
      refine e_ireturn .int dX7_quarter_66 rfl rfl (h _ (fSm_I (Or.inl rfl)) ⟨⟨?_, ?_⟩, fun i hi => ?_, ?_, w13, w14⟩)
      · rw [fI_I, if_pos ⟨rfl, rfl⟩]
      · rw [fI_I, if_neg (by omega)]; exact Wr.1.2
      · rw [fI_I, if_neg (by omega)]; exact Wr.2.1 i hi
      · show z.1 + 1 ≤ 12
        omega
    · rw [nI_lt' (by omega) (by omega)] at c22
      refine e_aload_n dX7_quarter_25 rfl rfl ?_
      refine e_getR (q := w + 1) dX7_quarter_26 fl_RX7_9 wb (show w < fnx σ by omega) rfl wr (by unfold fscr; omega) ?_
      refine e_aload_n dX7_quarter_29 rfl rfl ?_
      refine e_getI dX7_quarter_30 fl_RX7_19 wb (show w < fnx σ by omega) rfl ?_
      refine e_int (nI z.1) Wr.1.1 ?_
      refine e_iconst (nI 0) dX7_quarter_33 (by decide) ?_
      refine e_iastore z.1 dX7_quarter_34 wc (show w + 1 < fnx σ by omega) rfl (by omega) (by decide) ?_
      refine e_aload_n dX7_quarter_35 rfl rfl ?_
      refine e_aload_n dX7_quarter_36 rfl rfl ?_
      refine e_getI dX7_quarter_37 fl_RX7_19 wb (show w < fnx σ by omega) rfl ?_
      refine e_int (nI z.1) (by rw [fI_I, if_neg (by omega)]; exact Wr.1.1) ?_
      refine e_iconst (nI 1) dX7_quarter_40 (by decide) ?_
      refine e_iadd dX7_quarter_41 ?_
      refine e_int (nI (z.1 + 1)) (nI_add z.1 1) ?_
      refine e_putI dX7_quarter_42 fl_RX7_15 wb (show w < fnx σ by omega) rfl rfl ?_
      refine e_aload_n dX7_quarter_45 rfl rfl ?_
      refine e_getR (q := w + 1) dX7_quarter_46 fl_RX7_9 wb (show w < fnx σ by omega) rfl wr (by unfold fscr; omega) ?_
      refine e_aload_n dX7_quarter_49 rfl rfl ?_
      refine e_getI dX7_quarter_50 fl_RX7_19 wb (show w < fnx σ by omega) rfl ?_
      refine e_int (nI z.1) (by rw [fI_I, if_neg (by omega), fI_I, if_neg (by omega)]; exact Wr.1.1) ?_
      refine e_iaload z.1 dX7_quarter_53 wc (show w + 1 < fnx σ by omega) rfl (by omega) (by decide) ?_
      refine e_int (nI 0) (by rw [fI_I, if_neg (by omega), fI_I, if_pos ⟨rfl, rfl⟩]) ?_
      refine e_istore_n (L1 := [some (.ref w), some (.int (nI 0))]) dX7_quarter_54 rfl (by decide) rfl ?_
      refine e_aload_n dX7_quarter_55 rfl rfl ?_
      refine e_dup dX7_quarter_56 rfl ?_
      refine e_getI dX7_quarter_57 fl_RX7_19 wb (show w < fnx σ by omega) rfl ?_
      refine e_int (nI z.1) (by rw [fI_I, if_neg (by omega), fI_I, if_neg (by omega)]; exact Wr.1.1) ?_
      refine e_iconst (nI 1) dX7_quarter_60 (by decide) ?_
      refine e_iadd dX7_quarter_61 ?_
      refine e_int (nI (z.1 + 1)) (nI_add z.1 1) ?_
      refine e_putI dX7_quarter_62 fl_RX7_19 wb (show w < fnx σ by omega) rfl rfl ?_
      refine e_iload_n dX7_quarter_65 rfl rfl ?_
      have hm : wdr z = (0, (z.1 + 1, z.1 + 1, mup z.2.2 z.1 0)) := by unfold wdr; rw [if_neg (by omega), if_pos (by omega)]
      rw [hm] at h
      refine e_ireturn .int dX7_quarter_66 rfl rfl (h _ (((fSm_I (Or.inr rfl)).tr (fSm_I (Or.inl rfl))).tr (fSm_I (Or.inl rfl))) ⟨⟨?_, ?_⟩, fun i hi => ?_, ?_, ?_, fun i => ?_⟩)
      · rw [fI_I, if_pos ⟨rfl, rfl⟩]
      · rw [fI_I, if_neg (by omega), fI_I, if_pos ⟨rfl, rfl⟩]
      · rw [fI_I, if_neg (by omega), fI_I, if_neg (by omega)]
        show _ = nI (mup z.2.2 z.1 0 i)
        unfold mup
        by_cases e : i = z.1
        · rw [fI_I, if_pos ⟨rfl, e⟩, if_pos e]
        · rw [fI_I, if_neg (by omega), if_neg e]; exact Wr.2.1 i hi
      · show z.1 + 1 ≤ 12
        omega
      · show z.1 + 1 ≤ 12
        omega
      · show mup z.2.2 z.1 0 i < 100
        unfold mup
        split
        · decide
        · exact w14 i
  · rw [nI_lt' (by omega) (by omega)] at c9
    refine e_iconst (nI 2) dX7_quarter_12 (by decide) ?_
    have hm : wdr z = (2, z) := if_pos (by omega)
    rw [hm] at h
    exact e_ireturn .int dX7_quarter_13 rfl rfl (h _ fSm.rfl' Wr)
set_option maxRecDepth 20000 in
theorem t_X8_splitL {g : fGP} {d : Nat} {σ : fAH} {Q : fRes → fAH → Prop} {k m : Nat} {D : fSD} {S : Nat → Nat} {T : Nat → Int32} {sd : Int32} {s c9 : Nat} (Ms : fMs g σ) (hY : k ∈ [15, 22, 37, 46, 59, 69, 79]) (Gr : fGr σ 2 D) (hD : fWD D) (Yr : fYr σ k D S m sd) (Yt : fYt σ k S T) (hW : fWS D S) (hC : fWC D S) (hs : s < dT D 1) (hc : c9 < 100) (ha : mal D S s = true) (h : ∀ σ', fSm (fYA k) σ σ' → fYf σ' k D (mss ldr D c9 s (S, T, sd)).1 (mss ldr D c9 s (S, T, sd)).2.1 (mss ldr D c9 s (S, T, sd)).2.2 → Q (.inl none) σ') : fEv g (d + 3) mX8_split 0 (fent [.ref k, .int (nI s), .int (nI c9), .ref (k + 6)] 8) [] σ Q := by
  have yl := fyl hY
  have Gs := Ms.ground (k := 2) (by decide)
  have Ys := Ms.yard hY
  obtain ⟨⟨g0, g1, g2, g3, g4, g5⟩, ⟨gn, gK⟩, ⟨gr0, gr1, gr2, gr3, gr4⟩⟩ := id Gs
  obtain ⟨⟨y0, y1, y2, y3, y4, y5, y6⟩, ⟨yn, yK⟩, ⟨yr0, yr1, yr2, yr3, yr4, yr5, yr6⟩⟩ := id Ys
  obtain ⟨t0, t1, t2, t3, t4, t5, t6⟩ := id hD.1
  have np := hW.n hD
  obtain ⟨s0, s1, s2, s3, s4, s5, s6⟩ := hD.2.2.1 s hs
  have sb := hD.s2 hs
  obtain ⟨p, hpc, hp, hz, hi⟩ := mal_pc ha
  have hlt := hC.lt hs hz
  have h18 : S 120 < 18 := by have := hW.1; omega
  have nd := mneed_le D S s
  show fEv g (d + 3) mX8_split 0 [some (.ref k), some (.int (nI s)), some (.int (nI c9)), some (.ref (k + 6)), none, none, none, none] [] σ Q
  refine e_aload_n dX8_split_0 rfl rfl ?_
  refine e_iload_n dX8_split_1 rfl rfl ?_
  refine e_callV (k := k) [.int (nI s)] dX8_split_2 cc_X8_pieceUnder lk_RX8_97 im_X8_pieceUnder se_X8_pieceUnder (by decide) y0 (show k < fnx σ by omega) rfl (Nat.le_of_ble_eq_true rfl) (Nat.le_of_ble_eq_true rfl) ?_
  refine t_X8_pieceUnder Gs Gr hD Ys Yr hW (by omega) (fK_i ?_)
  show fEv g _ mX8_split 5 [some (.ref k), some (.int (nI s)), some (.int (nI c9)), some (.ref (k + 6)), none, none, none, none] [.int (mo (mpc D S s))] σ Q
  refine e_int (nI p) (by rw [hpc]; rfl) ?_
  refine e_istore (L1 := [some (.ref k), some (.int (nI s)), some (.int (nI c9)), some (.ref (k + 6)), some (.int (nI p)), none, none, none]) dX8_split_5 (by decide) rfl ?_
  refine e_iload dX8_split_7 rfl ?_
  refine e_iconst (-1) dX8_split_9 (by decide) ?_
  refine e_icmp_eq 31 dX8_split_10 (by decide) (fun c => absurd c (nI_m1 (by omega))) (fun _ => ?_)
  refine e_aload_n dX8_split_13 rfl rfl ?_
  refine e_getI dX8_split_14 fl_RX8_15 y0 (show k < fnx σ by omega) rfl ?_
  refine e_int (nI (S 120)) Yr.1.1 ?_
  refine e_bipush (nI 18) dX8_split_17 (by decide) ?_
  refine e_icmp_ge 31 dX8_split_19 (by decide) (fun c => absurd ((nI_le' (by omega) (by omega)).mp c) (by omega)) (fun _ => ?_)
  refine e_aload_n dX8_split_22 rfl rfl ?_
  refine e_getI dX8_split_23 fl_RX8_47 y0 (show k < fnx σ by omega) rfl ?_
  refine e_int (nI (S 152)) Yr.1.2.2.2.2.1 ?_
  refine e_bipush (nI 12) dX8_split_26 (by decide) ?_
  refine e_icmp_lt 32 dX8_split_28 (by decide) (fun _ => ?_) (fun c => absurd ((nI_lt' (by omega) (by omega)).mpr (by omega)) c)
  refine e_aload_n dX8_split_32 rfl rfl ?_
  refine e_getR (q := 2) dX8_split_33 fl_RX8_56 y0 (show k < fnx σ by omega) rfl yr0 (by unfold fscr; omega) ?_
  refine e_getR (q := 2 + 2) dX8_split_36 fl_RX8_71 g0 (show 2 < fnx σ by omega) rfl gr1 (by unfold fscr; omega) ?_
  refine e_iload_n dX8_split_39 rfl rfl ?_
  refine e_iconst (nI 5) dX8_split_40 (by decide) ?_
  refine e_imul dX8_split_41 ?_
  refine e_int (nI (s * 5)) (pk_mul s 5) ?_
  refine e_iconst (nI 2) dX8_split_42 (by decide) ?_
  refine e_iadd dX8_split_43 ?_
  refine e_int (nI (s * 5 + 2)) (nI_add (s * 5) 2) ?_
  refine e_iaload (s * 5 + 2) dX8_split_44 g2 (show 2 + 2 < fnx σ by omega) rfl (by omega) (by decide) ?_
  refine e_int (nI (dS D s 2)) (Gr.2.2.1 s (by omega) 2 (by decide)) ?_
  refine e_istore (L1 := [some (.ref k), some (.int (nI s)), some (.int (nI c9)), some (.ref (k + 6)), some (.int (nI p)), some (.int (nI (dS D s 2))), none, none]) dX8_split_45 (by decide) rfl ?_
  refine e_iconst (nI 0) dX8_split_47 (by decide) ?_
  refine e_istore (L1 := [some (.ref k), some (.int (nI s)), some (.int (nI c9)), some (.ref (k + 6)), some (.int (nI p)), some (.int (nI (dS D s 2))), some (.int (nI 0)), none]) dX8_split_48 (by decide) rfl ?_
  refine e_aload_n dX8_split_50 rfl rfl ?_
  refine e_getR (q := 2) dX8_split_51 fl_RX8_56 y0 (show k < fnx σ by omega) rfl yr0 (by unfold fscr; omega) ?_
  refine e_iload_n dX8_split_54 rfl rfl ?_
  refine e_callV (k := 2) [.int (nI s)] dX8_split_55 cc_X3_isAcrossGrain lk_RX8_89 im_X3_isAcrossGrain se_X3_isAcrossGrain (by decide) g0 (show 2 < fnx σ by omega) rfl (Nat.le_of_ble_eq_true rfl) (Nat.le_of_ble_eq_true rfl) ?_
  refine t_X3_isAcrossGrain Gs Gr hD (by omega) (fK_i ?_)
  show fEv g _ mX8_split 58 [some (.ref k), some (.int (nI s)), some (.int (nI c9)), some (.ref (k + 6)), some (.int (nI p)), some (.int (nI (dS D s 2))), some (.int (nI 0)), none] [.int (nI (bn (macr D s)))] σ Q
  refine e_if_eq 100 dX8_split_58 (by decide) (fun c58 => ?_) (fun c58 => ?_)
  · have c58 := bn0 c58
    have hst : mstr D S s c9 = false := by unfold mstr; first | (rw [c58]; rfl) | (rw [c58, decide_eq_false (show ¬ c9 < mneed D S s + 2 by omega)]; rfl)
    have hm : mss ldr D c9 s (S, T, sd) = (mspl D S s (dS D s 2), mnt D S T s (dS D s 2) c9, sd) := if_neg (by show ¬ mstr D S s c9 = true; rw [hst]; exact Bool.false_ne_true)
    rw [hm] at h
    exact l_X8_split100 (aw := nI 0) (ln := dS D s 2) Ms hY Gr hD Yr Yt hW hC hs hc hpc hz (nI_add _ 0) (by omega) hi (by rw [if_pos hi]; exact h)
  · have c58 := bn1 c58
    refine e_iload_n dX8_split_61 rfl rfl ?_
    refine e_aload_n dX8_split_62 rfl rfl ?_
    refine e_iload_n dX8_split_63 rfl rfl ?_
    refine e_callV (k := k) [.int (nI s)] dX8_split_64 cc_X8_needOf lk_RX8_134 im_X8_needOf se_X8_needOf (by decide) y0 (show k < fnx σ by omega) rfl (Nat.le_of_ble_eq_true rfl) (Nat.le_of_ble_eq_true rfl) ?_
    refine t_X8_needOf Gs Gr hD Ys Yr hW (by omega) (fK_i ?_)
    show fEv g _ mX8_split 67 [some (.ref k), some (.int (nI s)), some (.int (nI c9)), some (.ref (k + 6)), some (.int (nI p)), some (.int (nI (dS D s 2))), some (.int (nI 0)), none] [.int (nI (mneed D S s)), .int (nI c9)] σ Q
    refine e_iconst (nI 2) dX8_split_67 (by decide) ?_
    refine e_iadd dX8_split_68 ?_
    refine e_int (nI (mneed D S s + 2)) (nI_add (mneed D S s) 2) ?_
    refine e_icmp_ge 100 dX8_split_69 (by decide) (fun c69 => ?_) (fun c69 => ?_)
    · rw [nI_le' (by omega) (by omega)] at c69
      have hst : mstr D S s c9 = false := by unfold mstr; first | (rw [c58]; rfl) | (rw [c58, decide_eq_false (show ¬ c9 < mneed D S s + 2 by omega)]; rfl)
      have hm : mss ldr D c9 s (S, T, sd) = (mspl D S s (dS D s 2), mnt D S T s (dS D s 2) c9, sd) := if_neg (by show ¬ mstr D S s c9 = true; rw [hst]; exact Bool.false_ne_true)
      rw [hm] at h
      exact l_X8_split100 (aw := nI 0) (ln := dS D s 2) Ms hY Gr hD Yr Yt hW hC hs hc hpc hz (nI_add _ 0) (by omega) hi (by rw [if_pos hi]; exact h)
    · rw [nI_le' (by omega) (by omega)] at c69
      refine e_aload_n dX8_split_72 rfl rfl ?_
      refine e_callA (k := k + 6) [] dX8_split_73 cc_X4_quarter (by decide) ⟨by decide, by decide⟩ ml_RX8_156 qd_sm qd_dc im_X4_quarter qd_s4 (by decide) y6 (show k + 6 < fnx σ by omega) rfl (Nat.le_of_ble_eq_true rfl) (Nat.le_of_ble_eq_true rfl) ?_
      refine t_X4_quarter y6 (show k + 6 < fnx σ by omega) Yr.1.2.2.2.2.2.2.2 ?_
      show fEv g _ mX8_split 76 [some (.ref k), some (.int (nI s)), some (.int (nI c9)), some (.ref (k + 6)), some (.int (nI p)), some (.int (nI (dS D s 2))), some (.int (nI 0)), none] [.int (nI (d4 sd))] (fsI σ (k + 6) 0 (sdn sd)) Q
      have Yr1 := Yr.sdx (sdn sd)
      have Yt1 : fYt (fsI σ (k + 6) 0 (sdn sd)) k S T := Yt.cg (fI_ne (by omega)) (fI_ne (by omega)) rfl rfl
      have Sm1 : fSm (fYA k) σ (fsI σ (k + 6) 0 (sdn sd)) := fSm_I ⟨by omega, by omega⟩
      generalize fsI σ (k + 6) 0 (sdn sd) = σ1 at Yr1 Yt1 Sm1 ⊢
      have Ms1 := Ms.sm (Sm1)
      have Gs1 := Ms1.ground (k := 2) (by decide)
      have Ys1 := Ms1.yard hY
      have Gr1 := Gr.y Sm1 hY
      have en1 : fnx σ1 = fnx σ := Sm1.n
      have vl := d4_lt sd
      refine e_istore (L1 := [some (.ref k), some (.int (nI s)), some (.int (nI c9)), some (.ref (k + 6)), some (.int (nI p)), some (.int (nI (dS D s 2))), some (.int (nI 0)), some (.int (nI (d4 sd)))]) dX8_split_76 (by decide) rfl ?_
      refine e_iload dX8_split_78 rfl ?_
      refine e_if_ne 87 dX8_split_80 (by decide) (fun c80 => ?_) (fun c80 => ?_)
      · rw [nI_z (by omega)] at c80
        refine e_iload dX8_split_87 rfl ?_
        refine e_iconst (nI 1) dX8_split_89 (by decide) ?_
        refine e_icmp_ne 97 dX8_split_90 (by decide) (fun c90 => ?_) (fun c90 => ?_)
        · rw [nI_inj (by omega) (by omega)] at c90
          refine e_iconst (nI 0) dX8_split_97 (by decide) ?_
          refine e_istore (L1 := [some (.ref k), some (.int (nI s)), some (.int (nI c9)), some (.ref (k + 6)), some (.int (nI p)), some (.int (nI (dS D s 2))), some (.int (nI 0)), some (.int (nI (d4 sd)))]) dX8_split_98 (by decide) rfl ?_
          have hst : mstr D S s c9 = true := by unfold mstr; rw [c58, decide_eq_true (show c9 < mneed D S s + 2 by omega)]; rfl
          have hv : mdir D s (d4 sd) = dS D s 2 := by unfold mdir; rw [if_neg (by omega), if_neg (by omega)]
          have hm : mss ldr D c9 s (S, T, sd) = (mspl D S s (mln D S s (d4 sd)), mnt D S T s (mln D S s (d4 sd)) c9, (ldr sd).2) := if_pos hst
          have hml : mln D S s (d4 sd) = if mins D S s p (dS D s 2) = true then dS D s 2 else dS D s 2 := by unfold mln; rw [hpc, hv]; rfl
          rw [hm, hml] at h
          exact l_X8_split100 (aw := nI 0) (ln := dS D s 2) Ms1 hY Gr1 hD Yr1 Yt1 hW hC hs hc hpc hz (nI_add _ 0) (by omega) hi (fun σ2 Sm2 Yf2 => h σ2 (Sm1.tr Sm2) Yf2)
        · rw [nI_inj (by omega) (by omega)] at c90
          refine e_iconst (nI 1) dX8_split_93 (by decide) ?_
          refine e_goto 98 dX8_split_94 (by decide) ?_
          refine e_istore (L1 := [some (.ref k), some (.int (nI s)), some (.int (nI c9)), some (.ref (k + 6)), some (.int (nI p)), some (.int (nI (dS D s 2))), some (.int (nI 1)), some (.int (nI (d4 sd)))]) dX8_split_98 (by decide) rfl ?_
          have hst : mstr D S s c9 = true := by unfold mstr; rw [c58, decide_eq_true (show c9 < mneed D S s + 2 by omega)]; rfl
          have hv : mdir D s (d4 sd) = dS D s 2 + 1 := by unfold mdir; rw [if_neg (by omega), if_pos (by omega)]
          have hm : mss ldr D c9 s (S, T, sd) = (mspl D S s (mln D S s (d4 sd)), mnt D S T s (mln D S s (d4 sd)) c9, (ldr sd).2) := if_pos hst
          have hml : mln D S s (d4 sd) = if mins D S s p (dS D s 2 + 1) = true then dS D s 2 + 1 else dS D s 2 := by unfold mln; rw [hpc, hv]; rfl
          rw [hm, hml] at h
          exact l_X8_split100 (aw := nI 1) (ln := dS D s 2 + 1) Ms1 hY Gr1 hD Yr1 Yt1 hW hC hs hc hpc hz (nI_add _ 1) (by omega) hi (fun σ2 Sm2 Yf2 => h σ2 (Sm1.tr Sm2) Yf2)
      · rw [nI_z (by omega)] at c80
        refine e_iconst (-1) dX8_split_83 (by decide) ?_
        refine e_goto 98 dX8_split_84 (by decide) ?_
        refine e_istore (L1 := [some (.ref k), some (.int (nI s)), some (.int (nI c9)), some (.ref (k + 6)), some (.int (nI p)), some (.int (nI (dS D s 2))), some (.int ((-1))), some (.int (nI (d4 sd)))]) dX8_split_98 (by decide) rfl ?_
        have hst : mstr D S s c9 = true := by unfold mstr; rw [c58, decide_eq_true (show c9 < mneed D S s + 2 by omega)]; rfl
        have hv : mdir D s (d4 sd) = dS D s 2 - 1 := by unfold mdir; rw [if_pos (by omega)]
        have hm : mss ldr D c9 s (S, T, sd) = (mspl D S s (mln D S s (d4 sd)), mnt D S T s (mln D S s (d4 sd)) c9, (ldr sd).2) := if_pos hst
        have hml : mln D S s (d4 sd) = if mins D S s p (dS D s 2 - 1) = true then dS D s 2 - 1 else dS D s 2 := by unfold mln; rw [hpc, hv]; rfl
        rw [hm, hml] at h
        exact l_X8_split100 (aw := (-1)) (ln := dS D s 2 - 1) Ms1 hY Gr1 hD Yr1 Yt1 hW hC hs hc hpc hz (hl_m (by omega)) (by omega) hi (fun σ2 Sm2 Yf2 => h σ2 (Sm1.tr Sm2) Yf2)
set_option maxRecDepth 20000 in
theorem t_X8_splitW {g : fGP} {d : Nat} {σ : fAH} {Q : fRes → fAH → Prop} {k m : Nat} {D : fSD} {S : Nat → Nat} {T : Nat → Int32} {sd : Int32} {s c9 w : Nat} {z : fZW} (Ms : fMs g σ) (hY : k ∈ [15, 22, 37, 46, 59, 69, 79]) (Gr : fGr σ 2 D) (hD : fWD D) (Yr : fYr σ k D S m sd) (Yt : fYt σ k S T) (hW : fWS D S) (hC : fWC D S) (hw : w ∈ [44, 53]) (Wr : fWr σ w z) (hs : s < dT D 1) (hc : c9 < 100) (ha : mal D S s = true) (h : ∀ σ', fSm (fun a => fYA k a ∨ fWA w a) σ σ' → fYf σ' k D (mss wdr D c9 s (S, T, z)).1 (mss wdr D c9 s (S, T, z)).2.1 sd → fWr σ' w (mss wdr D c9 s (S, T, z)).2.2 → Q (.inl none) σ') : fEv g (d + 3) mX8_split 0 (fent [.ref k, .int (nI s), .int (nI c9), .ref w] 8) [] σ Q := by
  have yl := fyl hY
  have Gs := Ms.ground (k := 2) (by decide)
  have Ys := Ms.yard hY
  obtain ⟨⟨g0, g1, g2, g3, g4, g5⟩, ⟨gn, gK⟩, ⟨gr0, gr1, gr2, gr3, gr4⟩⟩ := id Gs
  obtain ⟨⟨y0, y1, y2, y3, y4, y5, y6⟩, ⟨yn, yK⟩, ⟨yr0, yr1, yr2, yr3, yr4, yr5, yr6⟩⟩ := id Ys
  obtain ⟨t0, t1, t2, t3, t4, t5, t6⟩ := id hD.1
  have np := hW.n hD
  obtain ⟨s0, s1, s2, s3, s4, s5, s6⟩ := hD.2.2.1 s hs
  have sb := hD.s2 hs
  obtain ⟨p, hpc, hp, hz, hi⟩ := mal_pc ha
  have hlt := hC.lt hs hz
  have h18 : S 120 < 18 := by have := hW.1; omega
  have nd := mneed_le D S s
  have wl := wyl hw hY
  have wn := ywl hw hY
  have ww := wll hw
  obtain ⟨⟨wb, wc⟩, ⟨wn9, wK⟩, wr⟩ := id (Ms.ways hw)
  show fEv g (d + 3) mX8_split 0 [some (.ref k), some (.int (nI s)), some (.int (nI c9)), some (.ref w), none, none, none, none] [] σ Q
  refine e_aload_n dX8_split_0 rfl rfl ?_
  refine e_iload_n dX8_split_1 rfl rfl ?_
  refine e_callV (k := k) [.int (nI s)] dX8_split_2 cc_X8_pieceUnder lk_RX8_97 im_X8_pieceUnder se_X8_pieceUnder (by decide) y0 (show k < fnx σ by omega) rfl (Nat.le_of_ble_eq_true rfl) (Nat.le_of_ble_eq_true rfl) ?_
  refine t_X8_pieceUnder Gs Gr hD Ys Yr hW (by omega) (fK_i ?_)
  show fEv g _ mX8_split 5 [some (.ref k), some (.int (nI s)), some (.int (nI c9)), some (.ref w), none, none, none, none] [.int (mo (mpc D S s))] σ Q
  refine e_int (nI p) (by rw [hpc]; rfl) ?_
  refine e_istore (L1 := [some (.ref k), some (.int (nI s)), some (.int (nI c9)), some (.ref w), some (.int (nI p)), none, none, none]) dX8_split_5 (by decide) rfl ?_
  refine e_iload dX8_split_7 rfl ?_
  refine e_iconst (-1) dX8_split_9 (by decide) ?_
  refine e_icmp_eq 31 dX8_split_10 (by decide) (fun c => absurd c (nI_m1 (by omega))) (fun _ => ?_)
  refine e_aload_n dX8_split_13 rfl rfl ?_
  refine e_getI dX8_split_14 fl_RX8_15 y0 (show k < fnx σ by omega) rfl ?_
  refine e_int (nI (S 120)) Yr.1.1 ?_
  refine e_bipush (nI 18) dX8_split_17 (by decide) ?_
  refine e_icmp_ge 31 dX8_split_19 (by decide) (fun c => absurd ((nI_le' (by omega) (by omega)).mp c) (by omega)) (fun _ => ?_)
  refine e_aload_n dX8_split_22 rfl rfl ?_
  refine e_getI dX8_split_23 fl_RX8_47 y0 (show k < fnx σ by omega) rfl ?_
  refine e_int (nI (S 152)) Yr.1.2.2.2.2.1 ?_
  refine e_bipush (nI 12) dX8_split_26 (by decide) ?_
  refine e_icmp_lt 32 dX8_split_28 (by decide) (fun _ => ?_) (fun c => absurd ((nI_lt' (by omega) (by omega)).mpr (by omega)) c)
  refine e_aload_n dX8_split_32 rfl rfl ?_
  refine e_getR (q := 2) dX8_split_33 fl_RX8_56 y0 (show k < fnx σ by omega) rfl yr0 (by unfold fscr; omega) ?_
  refine e_getR (q := 2 + 2) dX8_split_36 fl_RX8_71 g0 (show 2 < fnx σ by omega) rfl gr1 (by unfold fscr; omega) ?_
  refine e_iload_n dX8_split_39 rfl rfl ?_
  refine e_iconst (nI 5) dX8_split_40 (by decide) ?_
  refine e_imul dX8_split_41 ?_
  refine e_int (nI (s * 5)) (pk_mul s 5) ?_
  refine e_iconst (nI 2) dX8_split_42 (by decide) ?_
  refine e_iadd dX8_split_43 ?_
  refine e_int (nI (s * 5 + 2)) (nI_add (s * 5) 2) ?_
  refine e_iaload (s * 5 + 2) dX8_split_44 g2 (show 2 + 2 < fnx σ by omega) rfl (by omega) (by decide) ?_
  refine e_int (nI (dS D s 2)) (Gr.2.2.1 s (by omega) 2 (by decide)) ?_
  refine e_istore (L1 := [some (.ref k), some (.int (nI s)), some (.int (nI c9)), some (.ref w), some (.int (nI p)), some (.int (nI (dS D s 2))), none, none]) dX8_split_45 (by decide) rfl ?_
  refine e_iconst (nI 0) dX8_split_47 (by decide) ?_
  refine e_istore (L1 := [some (.ref k), some (.int (nI s)), some (.int (nI c9)), some (.ref w), some (.int (nI p)), some (.int (nI (dS D s 2))), some (.int (nI 0)), none]) dX8_split_48 (by decide) rfl ?_
  refine e_aload_n dX8_split_50 rfl rfl ?_
  refine e_getR (q := 2) dX8_split_51 fl_RX8_56 y0 (show k < fnx σ by omega) rfl yr0 (by unfold fscr; omega) ?_
  refine e_iload_n dX8_split_54 rfl rfl ?_
  refine e_callV (k := 2) [.int (nI s)] dX8_split_55 cc_X3_isAcrossGrain lk_RX8_89 im_X3_isAcrossGrain se_X3_isAcrossGrain (by decide) g0 (show 2 < fnx σ by omega) rfl (Nat.le_of_ble_eq_true rfl) (Nat.le_of_ble_eq_true rfl) ?_
  refine t_X3_isAcrossGrain Gs Gr hD (by omega) (fK_i ?_)
  show fEv g _ mX8_split 58 [some (.ref k), some (.int (nI s)), some (.int (nI c9)), some (.ref w), some (.int (nI p)), some (.int (nI (dS D s 2))), some (.int (nI 0)), none] [.int (nI (bn (macr D s)))] σ Q
  refine e_if_eq 100 dX8_split_58 (by decide) (fun c58 => ?_) (fun c58 => ?_)
  · have c58 := bn0 c58
    have hst : mstr D S s c9 = false := by unfold mstr; first | (rw [c58]; rfl) | (rw [c58, decide_eq_false (show ¬ c9 < mneed D S s + 2 by omega)]; rfl)
    have hm : mss wdr D c9 s (S, T, z) = (mspl D S s (dS D s 2), mnt D S T s (dS D s 2) c9, z) := if_neg (by show ¬ mstr D S s c9 = true; rw [hst]; exact Bool.false_ne_true)
    rw [hm] at h
    exact l_X8_split100 (aw := nI 0) (ln := dS D s 2) Ms hY Gr hD Yr Yt hW hC hs hc hpc hz (nI_add _ 0) (by omega) hi (by rw [if_pos hi]; exact fun σ2 Sm2 Yf2 => h σ2 (Sm2.to (fun _ q => Or.inl q)) Yf2 (Wr.sm Sm2 wn.1 wn.2))
  · have c58 := bn1 c58
    refine e_iload_n dX8_split_61 rfl rfl ?_
    refine e_aload_n dX8_split_62 rfl rfl ?_
    refine e_iload_n dX8_split_63 rfl rfl ?_
    refine e_callV (k := k) [.int (nI s)] dX8_split_64 cc_X8_needOf lk_RX8_134 im_X8_needOf se_X8_needOf (by decide) y0 (show k < fnx σ by omega) rfl (Nat.le_of_ble_eq_true rfl) (Nat.le_of_ble_eq_true rfl) ?_
    refine t_X8_needOf Gs Gr hD Ys Yr hW (by omega) (fK_i ?_)
    show fEv g _ mX8_split 67 [some (.ref k), some (.int (nI s)), some (.int (nI c9)), some (.ref w), some (.int (nI p)), some (.int (nI (dS D s 2))), some (.int (nI 0)), none] [.int (nI (mneed D S s)), .int (nI c9)] σ Q
    refine e_iconst (nI 2) dX8_split_67 (by decide) ?_
    refine e_iadd dX8_split_68 ?_
    refine e_int (nI (mneed D S s + 2)) (nI_add (mneed D S s) 2) ?_
    refine e_icmp_ge 100 dX8_split_69 (by decide) (fun c69 => ?_) (fun c69 => ?_)
    · rw [nI_le' (by omega) (by omega)] at c69
      have hst : mstr D S s c9 = false := by unfold mstr; first | (rw [c58]; rfl) | (rw [c58, decide_eq_false (show ¬ c9 < mneed D S s + 2 by omega)]; rfl)
      have hm : mss wdr D c9 s (S, T, z) = (mspl D S s (dS D s 2), mnt D S T s (dS D s 2) c9, z) := if_neg (by show ¬ mstr D S s c9 = true; rw [hst]; exact Bool.false_ne_true)
      rw [hm] at h
      exact l_X8_split100 (aw := nI 0) (ln := dS D s 2) Ms hY Gr hD Yr Yt hW hC hs hc hpc hz (nI_add _ 0) (by omega) hi (by rw [if_pos hi]; exact fun σ2 Sm2 Yf2 => h σ2 (Sm2.to (fun _ q => Or.inl q)) Yf2 (Wr.sm Sm2 wn.1 wn.2))
    · rw [nI_le' (by omega) (by omega)] at c69
      refine e_aload_n dX8_split_72 rfl rfl ?_
      refine e_callA (k := w) [] dX8_split_73 cc_X7_quarter (by decide) ⟨by decide, by decide⟩ ml_RX8_156 qd_sm qd_dc im_X7_quarter qd_s7 (by decide) (Ms.ways hw).1.1 (show w < fnx σ by omega) rfl (Nat.le_of_ble_eq_true rfl) (Nat.le_of_ble_eq_true rfl) ?_
      refine t_X7_quarter Ms hw Wr (fun σ1 Sm1 Wr1 => ?_)
      show fEv g _ mX8_split 76 [some (.ref k), some (.int (nI s)), some (.int (nI c9)), some (.ref w), some (.int (nI p)), some (.int (nI (dS D s 2))), some (.int (nI 0)), none] [.int (nI ((wdr z).1))] σ1 Q
      have Ms1 := Ms.sm Sm1
      have Gs1 := Ms1.ground (k := 2) (by decide)
      have Ys1 := Ms1.yard hY
      have en1 : fnx σ1 = fnx σ := Sm1.n
      have Gr1 := Gr.sm Sm1 (fun i hi => by unfold fWA; omega)
      have Yr1 := Yr.sm Sm1 (fun i hi => wl i hi)
      have Yt1 := Yt.sm Sm1 (fun i hi => wl i hi)
      have vl := wdr_lt Wr
      refine e_istore (L1 := [some (.ref k), some (.int (nI s)), some (.int (nI c9)), some (.ref w), some (.int (nI p)), some (.int (nI (dS D s 2))), some (.int (nI 0)), some (.int (nI ((wdr z).1)))]) dX8_split_76 (by decide) rfl ?_
      refine e_iload dX8_split_78 rfl ?_
      refine e_if_ne 87 dX8_split_80 (by decide) (fun c80 => ?_) (fun c80 => ?_)
      · rw [nI_z (by omega)] at c80
        refine e_iload dX8_split_87 rfl ?_
        refine e_iconst (nI 1) dX8_split_89 (by decide) ?_
        refine e_icmp_ne 97 dX8_split_90 (by decide) (fun c90 => ?_) (fun c90 => ?_)
        · rw [nI_inj (by omega) (by omega)] at c90
          refine e_iconst (nI 0) dX8_split_97 (by decide) ?_
          refine e_istore (L1 := [some (.ref k), some (.int (nI s)), some (.int (nI c9)), some (.ref w), some (.int (nI p)), some (.int (nI (dS D s 2))), some (.int (nI 0)), some (.int (nI ((wdr z).1)))]) dX8_split_98 (by decide) rfl ?_
          have hst : mstr D S s c9 = true := by unfold mstr; rw [c58, decide_eq_true (show c9 < mneed D S s + 2 by omega)]; rfl
          have hv : mdir D s ((wdr z).1) = dS D s 2 := by unfold mdir; rw [if_neg (by omega), if_neg (by omega)]
          have hm : mss wdr D c9 s (S, T, z) = (mspl D S s (mln D S s ((wdr z).1)), mnt D S T s (mln D S s ((wdr z).1)) c9, (wdr z).2) := if_pos hst
          have hml : mln D S s ((wdr z).1) = if mins D S s p (dS D s 2) = true then dS D s 2 else dS D s 2 := by unfold mln; rw [hpc, hv]; rfl
          rw [hm, hml] at h
          exact l_X8_split100 (aw := nI 0) (ln := dS D s 2) Ms1 hY Gr1 hD Yr1 Yt1 hW hC hs hc hpc hz (nI_add _ 0) (by omega) hi (fun σ2 Sm2 Yf2 => h σ2 ((Sm1.to (fun _ q => Or.inr q)).tr (Sm2.to (fun _ q => Or.inl q))) Yf2 (Wr1.sm Sm2 wn.1 wn.2))
        · rw [nI_inj (by omega) (by omega)] at c90
          refine e_iconst (nI 1) dX8_split_93 (by decide) ?_
          refine e_goto 98 dX8_split_94 (by decide) ?_
          refine e_istore (L1 := [some (.ref k), some (.int (nI s)), some (.int (nI c9)), some (.ref w), some (.int (nI p)), some (.int (nI (dS D s 2))), some (.int (nI 1)), some (.int (nI ((wdr z).1)))]) dX8_split_98 (by decide) rfl ?_
          have hst : mstr D S s c9 = true := by unfold mstr; rw [c58, decide_eq_true (show c9 < mneed D S s + 2 by omega)]; rfl
          have hv : mdir D s ((wdr z).1) = dS D s 2 + 1 := by unfold mdir; rw [if_neg (by omega), if_pos (by omega)]
          have hm : mss wdr D c9 s (S, T, z) = (mspl D S s (mln D S s ((wdr z).1)), mnt D S T s (mln D S s ((wdr z).1)) c9, (wdr z).2) := if_pos hst
          have hml : mln D S s ((wdr z).1) = if mins D S s p (dS D s 2 + 1) = true then dS D s 2 + 1 else dS D s 2 := by unfold mln; rw [hpc, hv]; rfl
          rw [hm, hml] at h
          exact l_X8_split100 (aw := nI 1) (ln := dS D s 2 + 1) Ms1 hY Gr1 hD Yr1 Yt1 hW hC hs hc hpc hz (nI_add _ 1) (by omega) hi (fun σ2 Sm2 Yf2 => h σ2 ((Sm1.to (fun _ q => Or.inr q)).tr (Sm2.to (fun _ q => Or.inl q))) Yf2 (Wr1.sm Sm2 wn.1 wn.2))
      · rw [nI_z (by omega)] at c80
        refine e_iconst (-1) dX8_split_83 (by decide) ?_
        refine e_goto 98 dX8_split_84 (by decide) ?_
        refine e_istore (L1 := [some (.ref k), some (.int (nI s)), some (.int (nI c9)), some (.ref w), some (.int (nI p)), some (.int (nI (dS D s 2))), some (.int ((-1))), some (.int (nI ((wdr z).1)))]) dX8_split_98 (by decide) rfl ?_
        have hst : mstr D S s c9 = true := by unfold mstr; rw [c58, decide_eq_true (show c9 < mneed D S s + 2 by omega)]; rfl
        have hv : mdir D s ((wdr z).1) = dS D s 2 - 1 := by unfold mdir; rw [if_pos (by omega)]
        have hm : mss wdr D c9 s (S, T, z) = (mspl D S s (mln D S s ((wdr z).1)), mnt D S T s (mln D S s ((wdr z).1)) c9, (wdr z).2) := if_pos hst
        have hml : mln D S s ((wdr z).1) = if mins D S s p (dS D s 2 - 1) = true then dS D s 2 - 1 else dS D s 2 := by unfold mln; rw [hpc, hv]; rfl
        rw [hm, hml] at h
        exact l_X8_split100 (aw := (-1)) (ln := dS D s 2 - 1) Ms1 hY Gr1 hD Yr1 Yt1 hW hC hs hc hpc hz (hl_m (by omega)) (by omega) hi (fun σ2 Sm2 Yf2 => h σ2 ((Sm1.to (fun _ q => Or.inr q)).tr (Sm2.to (fun _ q => Or.inl q))) Yf2 (Wr1.sm Sm2 wn.1 wn.2))
