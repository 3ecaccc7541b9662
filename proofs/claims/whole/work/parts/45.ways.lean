theorem mR_st {Z : Type} {dr : Z → Nat × Z} {D : fSD} {S0 : Nat → Nat} {fill cold k : Nat} (hD : fWD D) (hn : S0 155 < 30) (hk : k < dT D 1) {S : Nat → Nat} {T : Nat → Int32} {z : Z} (h : mR D S0 S) : mR D S0 (mst dr D fill cold k (S, T, z)).1 := by
  cases hd : mdrw D S fill cold k
  · obtain ⟨T', e⟩ := mst_n dr D fill cold k S T z hd
    rw [e]
    show mR D S0 (if _ then _ else _)
    split
    · exact (mR_q hD hn hk h).1
    · exact h
  · obtain ⟨T', e⟩ := mst_d dr D fill cold k S T z hd
    rw [e]
    exact (mR_d _ hD hn hk h hd).1
theorem mR_frz {Z : Type} {dr : Z → Nat × Z} {D : fSD} {S0 : Nat → Nat} {fill cold : Nat} (hD : fWD D) (hn : S0 155 < 30) : ∀ (n k : Nat) (x : fX Z), k + n = dT D 1 → mR D S0 x.1 → mR D S0 (mfrz dr D fill cold n k x).1
  | 0, _, _, _, h => h
  | n + 1, k, x, e, h => mR_frz hD hn n (k + 1) _ (by omega) (mR_st (S := x.1) (T := x.2.1) (z := x.2.2) hD hn (by omega) h)
def bcn (x : Int32) : Int32 :=
  let a := x - ((x.toUInt32 >>> ((nI 1).toUInt32 &&& Int32.toUInt32 31)).toInt32 &&& 1431655765)
  let b := (a &&& 858993459) + ((a.toUInt32 >>> ((nI 2).toUInt32 &&& Int32.toUInt32 31)).toInt32 &&& 858993459)
  let c := (b + (b.toUInt32 >>> ((nI 4).toUInt32 &&& Int32.toUInt32 31)).toInt32) &&& 252645135
  let d := c + (c.toUInt32 >>> ((nI 8).toUInt32 &&& Int32.toUInt32 31)).toInt32
  let e := d + (d.toUInt32 >>> ((nI 16).toUInt32 &&& Int32.toUInt32 31)).toInt32
  e &&& nI 63
/-- the same over numbers -/
def bcN (x : Nat) : Nat :=
  let a := x - (x / 2 &&& 1431655765)
  let b := (a &&& 858993459) + (a / 4 &&& 858993459)
  let c := (b + b / 16) &&& 252645135
  let d := c + c / 256
  let e := d + d / 65536
  e &&& 63
theorem fWr0 {σ : fAH} {w : Nat} {z : fZW} (h : fWr σ w z) : ∃ z, fWr σ w z := ⟨z, h⟩
set_option maxRecDepth 20000 in
theorem t_X7_begin {g : fGP} {d : Nat} {σ : fAH} {Q : fRes → fAH → Prop} {w : Nat} {z : fZW} (Ms : fMs g σ) (hw : w ∈ [44, 53]) (Wr : fWr σ w z) (h : ∀ σ', fSm (fWA w) σ σ' → fWr σ' w (0, 0, z.2.2) → Q (.inl none) σ') : fEv g d mX7_begin 0 (fent [.ref w] 1) [] σ Q := by
  obtain ⟨⟨wb, wc⟩, ⟨wn9, wK⟩, wr⟩ := id (Ms.ways hw)
  have w12 := Wr.2.2.1
  have w13 := Wr.2.2.2.1
  have w14 := Wr.2.2.2.2
  show fEv g d mX7_begin 0 [some (.ref w)] [] σ Q
  refine e_aload_n dX7_begin_0 rfl rfl ?_
  refine e_iconst (nI 0) dX7_begin_1 (by decide) ?_
  refine e_putI dX7_begin_2 fl_RX7_15 wb (show w < fnx σ by omega) rfl rfl ?_
  refine e_aload_n dX7_begin_5 rfl rfl ?_
  refine e_iconst (nI 0) dX7_begin_6 (by decide) ?_
  refine e_putI dX7_begin_7 fl_RX7_19 wb (show w < fnx σ by omega) rfl rfl ?_
  exact e_return dX7_begin_10 rfl (h _ ((fSm_I (Or.inl rfl)).tr (fSm_I (Or.inl rfl))) ⟨⟨by rw [fI_I, if_pos ⟨rfl, rfl⟩], by rw [fI_I, if_neg (by omega), fI_I, if_pos ⟨rfl, rfl⟩]⟩, fun i hi => by rw [fI_I, if_neg (by omega), fI_I, if_neg (by omega)]; exact Wr.2.1 i hi, Nat.zero_le _, Nat.zero_le _, Wr.2.2.2.2⟩)
set_option maxRecDepth 20000 in
theorem l_X7_weight {g : fGP} {d : Nat} {σ : fAH} {Q : fRes → fAH → Prop} {w : Nat} {z : fZW} (Ms : fMs g σ) (hw : w ∈ [44, 53]) (Wr : fWr σ w z) : ∀ (n i : Nat) (a : Nat), i + n = 6 → Q (.inl (some (.long (nL (a * wwt z n i))))) σ → fEv g (d) mX7_weight 4 [some (.ref w), some (.long (nL a)), none, some (.int (nI i))] [] σ Q := by
  obtain ⟨⟨wb, wc⟩, ⟨wn9, wK⟩, wr⟩ := id (Ms.ways hw)
  have w12 := Wr.2.2.1
  have w13 := Wr.2.2.2.1
  have w14 := Wr.2.2.2.2
  intro n
  induction n with
  | zero =>
    intro i a hin  h
    refine e_iload_n dX7_weight_4 rfl rfl ?_
    refine e_bipush (nI 6) dX7_weight_5 (by decide) ?_
    refine e_icmp_ge 49 dX7_weight_7 (by decide) (fun cz => ?_) (fun cz => absurd ((nI_le' (by omega) (by omega)).mpr (by omega)) cz)
    refine e_lload_n dX7_weight_49 rfl rfl ?_
    rw [show wwt z 0 i = 1 from rfl, Nat.mul_one] at h
    exact e_lreturn dX7_weight_50 rfl h
  | succ n ih =>
    intro i a hin  h
    have hi : i < 6 := by omega
    have w15 := w14 i
    refine e_iload_n dX7_weight_4 rfl rfl ?_
    refine e_bipush (nI 6) dX7_weight_5 (by decide) ?_
    refine e_icmp_ge 49 dX7_weight_7 (by decide) (fun cz => absurd ((nI_le' (by omega) (by omega)).mp cz) (by omega)) (fun cz => ?_)
    refine e_iload_n dX7_weight_10 rfl rfl ?_
    refine e_aload_n dX7_weight_11 rfl rfl ?_
    refine e_getI dX7_weight_12 fl_RX7_19 wb (show w < fnx σ by omega) rfl ?_
    refine e_int (nI z.1) Wr.1.1 ?_
    refine e_icmp_lt 27 dX7_weight_15 (by decide) (fun c15 => ?_) (fun c15 => ?_)
    · rw [nI_lt' (by omega) (by omega)] at c15
      refine e_aload_n dX7_weight_27 rfl rfl ?_
      refine e_getR (q := w + 1) dX7_weight_28 fl_RX7_9 wb (show w < fnx σ by omega) rfl wr (by unfold fscr; omega) ?_
      refine e_iload_n dX7_weight_31 rfl rfl ?_
      refine e_iaload i dX7_weight_32 wc (show w + 1 < fnx σ by omega) rfl (by omega) (by decide) ?_
      refine e_int (nI (z.2.2 i)) (Wr.2.1 i (by omega)) ?_
      refine e_iconst (nI 2) dX7_weight_33 (by decide) ?_
      refine e_icmp_ne 43 dX7_weight_34 (by decide) (fun c34 => ?_) (fun c34 => ?_)
      · rw [nI_inj (by omega) (by omega)] at c34
        refine e_iinc (v := nI (i + 1)) (L1 := [some (.ref w), some (.long (nL a)), none, some (.int (nI (i + 1)))]) dX7_weight_43 rfl (show nI i + Int32.ofInt 1 = nI (i + 1) from nI_add i 1) (by decide) rfl ?_
        refine e_goto 4 dX7_weight_46 (by decide) ?_
        have hm : wwt z (n + 1) i = 1 * wwt z n (i + 1) := by show (if _ then _ else _) * _ = _; rw [if_neg (by omega), if_neg (by omega)]
        refine ih (i + 1) (a) (by omega) ?_
        rw [hm] at h
        rw [Nat.one_mul] at h
        exact h
      · rw [nI_inj (by omega) (by omega)] at c34
        refine e_lload_n dX7_weight_37 rfl rfl ?_
        refine e_ldc2 (2) dX7_weight_38 kc_RX7_24 ?_
        refine e_long (nL 2) rfl ?_
        refine e_lmul dX7_weight_41 ?_
        refine e_long (nL (a * 2)) (nL_mul a 2) ?_
        refine e_lstore_n (L1 := [some (.ref w), some (.long (nL (a * 2))), none, some (.int (nI i))]) dX7_weight_42 rfl (by decide) rfl ?_
        refine e_iinc (v := nI (i + 1)) (L1 := [some (.ref w), some (.long (nL (a * 2))), none, some (.int (nI (i + 1)))]) dX7_weight_43 rfl (show nI i + Int32.ofInt 1 = nI (i + 1) from nI_add i 1) (by decide) rfl ?_
        refine e_goto 4 dX7_weight_46 (by decide) ?_
        have hm : wwt z (n + 1) i = 2 * wwt z n (i + 1) := by show (if _ then _ else _) * _ = _; rw [if_neg (by omega), if_pos (by omega)]
        refine ih (i + 1) (a * 2) (by omega) ?_
        rw [hm] at h
        rw [← Nat.mul_assoc] at h
        exact h
    · rw [nI_lt' (by omega) (by omega)] at c15
      refine e_lload_n dX7_weight_18 rfl rfl ?_
      refine e_ldc2 (4) dX7_weight_19 kc_RX7_22 ?_
      refine e_long (nL 4) rfl ?_
      refine e_lmul dX7_weight_22 ?_
      refine e_long (nL (a * 4)) (nL_mul a 4) ?_
      refine e_lstore_n (L1 := [some (.ref w), some (.long (nL (a * 4))), none, some (.int (nI i))]) dX7_weight_23 rfl (by decide) rfl ?_
      refine e_goto 43 dX7_weight_24 (by decide) ?_
      refine e_iinc (v := nI (i + 1)) (L1 := [some (.ref w), some (.long (nL (a * 4))), none, some (.int (nI (i + 1)))]) dX7_weight_43 rfl (show nI i + Int32.ofInt 1 = nI (i + 1) from nI_add i 1) (by decide) rfl ?_
      refine e_goto 4 dX7_weight_46 (by decide) ?_
      have hm : wwt z (n + 1) i = 4 * wwt z n (i + 1) := by show (if _ then _ else _) * _ = _; rw [if_pos (by omega)]
      refine ih (i + 1) (a * 4) (by omega) ?_
      rw [hm] at h
      rw [← Nat.mul_assoc] at h
      exact h
set_option maxRecDepth 20000 in
theorem t_X7_weight {g : fGP} {d : Nat} {σ : fAH} {Q : fRes → fAH → Prop} {w : Nat} {z : fZW} (Ms : fMs g σ) (hw : w ∈ [44, 53]) (Wr : fWr σ w z) (h : Q (.inl (some (.long (nL (wwt z 6 0))))) σ) : fEv g d mX7_weight 0 (fent [.ref w] 4) [] σ Q := by
  show fEv g d mX7_weight 0 [some (.ref w), none, none, none] [] σ Q
  refine e_lconst 1 dX7_weight_0 (by decide) ?_
  refine e_long (nL 1) rfl ?_
  refine e_lstore_n (L1 := [some (.ref w), some (.long (nL 1)), none, none]) dX7_weight_1 rfl (by decide) rfl ?_
  refine e_iconst (nI 0) dX7_weight_2 (by decide) ?_
  refine e_istore_n (L1 := [some (.ref w), some (.long (nL 1)), none, some (.int (nI 0))]) dX7_weight_3 rfl (by decide) rfl ?_
  exact l_X7_weight Ms hw Wr 6 0 1 (by omega) (by rw [Nat.one_mul]; exact h)
set_option maxRecDepth 20000 in
theorem l_X7_adv40 {g : fGP} {d : Nat} {σ : fAH} {Q : fRes → fAH → Prop} {w : Nat} {z : fZW} (Ms : fMs g σ) (hw : w ∈ [44, 53]) (Wr : fWr σ w z) (za : z.1 = 0) (zp : wpop z.2.2 z.2.1 = z.2.1) (zl : z.2.1 = 0 ∨ z.2.2 (z.2.1 - 1) < 2) (h : ∀ σ', fSm (fWA w) σ σ' → fWr σ' w (wadv z).1 → Q (.inl (some (.int (nI (bn (wadv z).2))))) σ') : fEv g d mX7_advance 40 [some (.ref w)] [] σ Q := by
  obtain ⟨⟨wb, wc⟩, ⟨wn9, wK⟩, wr⟩ := id (Ms.ways hw)
  have w12 := Wr.2.2.1
  have w13 := Wr.2.2.2.1
  have w14 := Wr.2.2.2.2
  refine e_aload_n dX7_advance_40 rfl rfl ?_
  refine e_getI dX7_advance_41 fl_RX7_15 wb (show w < fnx σ by omega) rfl ?_
  refine e_int (nI z.2.1) Wr.1.2 ?_
  refine e_iconst (nI 1) dX7_advance_44 (by decide) ?_
  refine e_icmp_ge 50 dX7_advance_45 (by decide) (fun c45 => ?_) (fun c45 => ?_)
  · rw [nI_le' (by omega) (by omega)] at c45
    refine e_aload_n dX7_advance_50 rfl rfl ?_
    refine e_getR (q := w + 1) dX7_advance_51 fl_RX7_9 wb (show w < fnx σ by omega) rfl wr (by unfold fscr; omega) ?_
    refine e_aload_n dX7_advance_54 rfl rfl ?_
    refine e_getI dX7_advance_55 fl_RX7_15 wb (show w < fnx σ by omega) rfl ?_
    refine e_int (nI z.2.1) Wr.1.2 ?_
    refine e_iconst (nI 1) dX7_advance_58 (by decide) ?_
    refine e_isub dX7_advance_59 ?_
    refine e_int (nI (z.2.1 - 1)) (pk_sub (by omega)) ?_
    refine e_dup2 dX7_advance_60 rfl rfl ?_
    refine e_iaload (z.2.1 - 1) dX7_advance_61 wc (show w + 1 < fnx σ by omega) rfl (by omega) (by decide) ?_
    refine e_int (nI (z.2.2 (z.2.1 - 1))) (Wr.2.1 (z.2.1 - 1) (by omega)) ?_
    refine e_iconst (nI 1) dX7_advance_62 (by decide) ?_
    refine e_iadd dX7_advance_63 ?_
    refine e_int (nI (z.2.2 (z.2.1 - 1) + 1)) (nI_add (z.2.2 (z.2.1 - 1)) 1) ?_
    refine e_iastore (z.2.1 - 1) dX7_advance_64 wc (show w + 1 < fnx σ by omega) rfl (by omega) (by decide) ?_
    refine e_iconst (nI 1) dX7_advance_65 (by decide) ?_
    have hm : wadv z = ((0, z.2.1, mup z.2.2 (z.2.1 - 1) (z.2.2 (z.2.1 - 1) + 1)), true) := by unfold wadv; rw [zp, if_neg (by omega)]
    rw [hm] at h
    refine e_ireturn .boolean dX7_advance_66 rfl (by decide) (h _ (fSm_I (Or.inr rfl)) ⟨⟨?_, ?_⟩, fun i hi => ?_, Nat.zero_le _, w13, fun i => ?_⟩)
    · rw [fI_I, if_neg (by omega)]; exact Wr.1.1.trans (by rw [za])
    · rw [fI_I, if_neg (by omega)]; exact Wr.1.2
    · show _ = nI (mup z.2.2 (z.2.1 - 1) (z.2.2 (z.2.1 - 1) + 1) i)
      unfold mup
      by_cases e : i = z.2.1 - 1
      · rw [fI_I, if_pos ⟨rfl, e⟩, if_pos e]
      · rw [fI_I, if_neg (by omega), if_neg e]; exact Wr.2.1 i hi
    · show mup z.2.2 (z.2.1 - 1) (z.2.2 (z.2.1 - 1) + 1) i < 100
      unfold mup
      have w15 := w14 i
      split <;> omega
  · rw [nI_le' (by omega) (by omega)] at c45
    have zs : z.2.1 = 0 := by omega
    rw [zs] at zp
    refine e_iconst (nI 0) dX7_advance_48 (by decide) ?_
    have hm : wadv z = ((0, 0, z.2.2), false) := by unfold wadv; rw [zs, zp]; exact if_pos rfl
    rw [hm] at h
    exact e_ireturn .boolean dX7_advance_49 rfl (by decide) (h _ fSm.rfl' ⟨⟨Wr.1.1.trans (by rw [za]), Wr.1.2.trans (by rw [zs])⟩, Wr.2.1, Nat.zero_le _, Nat.zero_le _, w14⟩)
set_option maxRecDepth 20000 in
theorem l_X7_adv {g : fGP} {d : Nat} {Q : fRes → fAH → Prop} {w : Nat} (hw : w ∈ [44, 53]) : ∀ (s : Nat) (z : fZW) (σ : fAH), z.2.1 = s → fMs g σ → fWr σ w z → z.1 = 0 → (∀ σ', fSm (fWA w) σ σ' → fWr σ' w (wadv z).1 → Q (.inl (some (.int (nI (bn (wadv z).2))))) σ') → fEv g d mX7_advance 5 [some (.ref w)] [] σ Q := by
  intro s
  induction s with
  | zero =>
    intro z σ zs Ms Wr za h
    obtain ⟨⟨wb, wc⟩, ⟨wn9, wK⟩, wr⟩ := id (Ms.ways hw)
    have w12 := Wr.2.2.1
    have w13 := Wr.2.2.2.1
    have w14 := Wr.2.2.2.2
    refine e_aload_n dX7_advance_5 rfl rfl ?_
    refine e_getI dX7_advance_6 fl_RX7_15 wb (show w < fnx σ by omega) rfl ?_
    refine e_int (nI z.2.1) Wr.1.2 ?_
    refine e_if_le 40 dX7_advance_9 (by decide) (fun _ => ?_) (fun q => absurd ((nI_zle (by omega)).mpr (by omega)) q)
    exact l_X7_adv40 Ms hw Wr za (by rw [zs]; rfl) (Or.inl zs) h
  | succ s ih =>
    intro z σ zs Ms Wr za h
    obtain ⟨⟨wb, wc⟩, ⟨wn9, wK⟩, wr⟩ := id (Ms.ways hw)
    have w12 := Wr.2.2.1
    have w13 := Wr.2.2.2.1
    have w14 := Wr.2.2.2.2
    have w15 := w14 (z.2.1 - 1)
    refine e_aload_n dX7_advance_5 rfl rfl ?_
    refine e_getI dX7_advance_6 fl_RX7_15 wb (show w < fnx σ by omega) rfl ?_
    refine e_int (nI z.2.1) Wr.1.2 ?_
    refine e_if_le 40 dX7_advance_9 (by decide) (fun q => absurd ((nI_zle (by omega)).mp q) (by omega)) (fun _ => ?_)
    refine e_aload_n dX7_advance_12 rfl rfl ?_
    refine e_getR (q := w + 1) dX7_advance_13 fl_RX7_9 wb (show w < fnx σ by omega) rfl wr (by unfold fscr; omega) ?_
    refine e_aload_n dX7_advance_16 rfl rfl ?_
    refine e_getI dX7_advance_17 fl_RX7_15 wb (show w < fnx σ by omega) rfl ?_
    refine e_int (nI z.2.1) Wr.1.2 ?_
    refine e_iconst (nI 1) dX7_advance_20 (by decide) ?_
    refine e_isub dX7_advance_21 ?_
    refine e_int (nI (z.2.1 - 1)) (pk_sub (by omega)) ?_
    refine e_iaload (z.2.1 - 1) dX7_advance_22 wc (show w + 1 < fnx σ by omega) rfl (by omega) (by decide) ?_
    refine e_int (nI (z.2.2 (z.2.1 - 1))) (Wr.2.1 (z.2.1 - 1) (by omega)) ?_
    refine e_iconst (nI 2) dX7_advance_23 (by decide) ?_
    refine e_icmp_lt 40 dX7_advance_24 (by decide) (fun c24 => ?_) (fun c24 => ?_)
    · rw [nI_lt' (by omega) (by omega)] at c24
      exact l_X7_adv40 Ms hw Wr za (by rw [zs]; exact wpop_lt (by rw [zs, Nat.add_sub_cancel] at c24; omega)) (Or.inr (by omega)) h
    · rw [nI_lt' (by omega) (by omega)] at c24
      refine e_aload_n dX7_advance_27 rfl rfl ?_
      refine e_dup dX7_advance_28 rfl ?_
      refine e_getI dX7_advance_29 fl_RX7_15 wb (show w < fnx σ by omega) rfl ?_
      refine e_int (nI z.2.1) Wr.1.2 ?_
      refine e_iconst (nI 1) dX7_advance_32 (by decide) ?_
      refine e_isub dX7_advance_33 ?_
      refine e_int (nI (z.2.1 - 1)) (pk_sub (by omega)) ?_
      refine e_putI dX7_advance_34 fl_RX7_15 wb (show w < fnx σ by omega) rfl rfl ?_
      refine e_goto 5 dX7_advance_37 (by decide) ?_
      have zp2 : wpop z.2.2 z.2.1 = wpop z.2.2 (z.2.1 - 1) := by rw [zs]; exact wpop_2 (by rw [zs, Nat.add_sub_cancel] at c24; omega)
      have he : wadv (0, z.2.1 - 1, z.2.2) = wadv z := by unfold wadv; rw [zp2]
      refine ih (0, z.2.1 - 1, z.2.2) (fsI σ w 1 (nI (z.2.1 - 1))) (by show z.2.1 - 1 = s; omega) (Ms.sm (A := fWA w) (fSm_I (Or.inl rfl))) ⟨⟨?_, ?_⟩, fun i hi => ?_, Nat.zero_le _, ?_, w14⟩ rfl (by rw [he]; exact fun σ' Sm' Wr' => h σ' ((fSm_I (Or.inl rfl)).tr Sm') Wr')
      · rw [fI_I, if_neg (by omega)]; exact Wr.1.1.trans (by rw [za])
      · rw [fI_I, if_pos ⟨rfl, rfl⟩]
      · rw [fI_I, if_neg (by omega)]; exact Wr.2.1 i hi
      · show z.2.1 - 1 ≤ 12
        omega
set_option maxRecDepth 20000 in
theorem t_X7_advance {g : fGP} {d : Nat} {σ : fAH} {Q : fRes → fAH → Prop} {w : Nat} {z : fZW} (Ms : fMs g σ) (hw : w ∈ [44, 53]) (Wr : fWr σ w z) (h : ∀ σ', fSm (fWA w) σ σ' → fWr σ' w (wadv z).1 → Q (.inl (some (.int (nI (bn (wadv z).2))))) σ') : fEv g d mX7_advance 0 (fent [.ref w] 1) [] σ Q := by
  obtain ⟨⟨wb, wc⟩, ⟨wn9, wK⟩, wr⟩ := id (Ms.ways hw)
  have w12 := Wr.2.2.1
  have w13 := Wr.2.2.2.1
  have w14 := Wr.2.2.2.2
  show fEv g d mX7_advance 0 [some (.ref w)] [] σ Q
  refine e_aload_n dX7_advance_0 rfl rfl ?_
  refine e_iconst (nI 0) dX7_advance_1 (by decide) ?_
  refine e_putI dX7_advance_2 fl_RX7_19 wb (show w < fnx σ by omega) rfl rfl ?_
  refine l_X7_adv hw z.2.1 (0, z.2.1, z.2.2) (fsI σ w 2 (nI 0)) rfl (Ms.sm (A := fWA w) (fSm_I (Or.inl rfl))) ⟨⟨by rw [fI_I, if_pos ⟨rfl, rfl⟩], by rw [fI_I, if_neg (by omega)]; exact Wr.1.2⟩, fun i hi => by rw [fI_I, if_neg (by omega)]; exact Wr.2.1 i hi, Nat.zero_le _, w13, w14⟩ rfl (fun σ' Sm' Wr' => h σ' ((fSm_I (Or.inl rfl)).tr Sm') Wr')
