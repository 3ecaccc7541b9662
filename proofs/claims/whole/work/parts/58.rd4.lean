def fRdA : Nat → Prop := fun a => 8 ≤ a ∧ a < 15
theorem fPs.sm {σ σ' : fAH} {o f n : Nat} {s : fP} (h : fPs σ o f n s) (e : ∀ j, fI σ' o j = fI σ o j) : fPs σ' o f n s := by
  cases s with
  | inl x =>
    obtain ⟨h1, h2, h3, h4, h5, a, h6, h7⟩ : fI σ o 5 = nI x.1 ∧ fI σ o 6 = nI x.2 ∧ 1 ≤ x.1 ∧ x.1 ≤ 3 ∧ x.2 ≤ n ∧ ∃ a, a ≤ n ∧ fI σ o f = nI a := h
    exact ⟨(e 5).trans h1, (e 6).trans h2, h3, h4, h5, a, h6, (e f).trans h7⟩
  | inr a =>
    have h : a ≤ n ∧ fI σ o f = nI a ∧ fI σ o 5 = nI 0 ∧ fI σ o 6 = -1 := h
    exact ⟨h.1, (e f).trans h.2.1, (e 5).trans h.2.2.1, (e 6).trans h.2.2.2⟩
theorem mwc_lt {B : Nat → Nat} {a e w : Nat} (h : mwc B a e = some w) : w < 7 := by
  unfold mwc at h
  repeat' split at h
  all_goals first | (cases h; decide) | cases h
theorem hl_n {hi : Nat} (hh : hi < 1000) : ∀ v, v < 100000 → (nI v ≤ nI hi ↔ v < hi + 1) := fun v hv => by
  rw [nI_le' (by omega) (by omega)]
  omega
theorem hl_s {x : Nat} (h1 : x < 1000) : ∀ v, v < 100000 → (nI v ≤ nI x - nI 1 ↔ v < x) := fun v hv => by
  by_cases h : 1 ≤ x
  · rw [pk_sub h, nI_le' (by omega) (by omega)]
    omega
  · have e : x = 0 := by omega
    subst e
    rw [show nI 0 - nI 1 = -1 by decide]
    constructor
    · intro q
      have := (nI_zge (a := v) (by omega)).mpr (by omega)
      exact absurd (Int32.le_trans this q) (by decide)
    · intro q
      omega
theorem fGr.S3 {σ : fAH} {D : fSD} {v : Nat} (h : fGr σ 9 D) : fGr (fsI σ 9 9 (nI v)) 9 (dSt D 3 v) := by
  obtain ⟨⟨h0, h1, h2, h3, h4, h5, h6⟩, h7⟩ := h
  exact ⟨⟨h0, h1, h2, h3, by rw [fI_I, if_pos ⟨rfl, rfl⟩]; rfl, h5, h6⟩, h7⟩
theorem fGr.S4 {σ : fAH} {D : fSD} {v : Nat} (h : fGr σ 9 D) : fGr (fsI σ 9 10 (nI v)) 9 (dSt D 4 v) := by
  obtain ⟨⟨h0, h1, h2, h3, h4, h5, h6⟩, h7⟩ := h
  exact ⟨⟨h0, h1, h2, h3, h4, by rw [fI_I, if_pos ⟨rfl, rfl⟩]; rfl, h6⟩, h7⟩
theorem fGr.S5 {σ : fAH} {D : fSD} {v : Nat} (h : fGr σ 9 D) : fGr (fsI σ 9 11 (nI v)) 9 (dSt D 5 v) := by
  obtain ⟨⟨h0, h1, h2, h3, h4, h5, h6⟩, h7⟩ := h
  exact ⟨⟨h0, h1, h2, h3, h4, h5, by rw [fI_I, if_pos ⟨rfl, rfl⟩]; rfl⟩, h7⟩
set_option maxRecDepth 20000 in
theorem t_X5_readBlock {g : fGP} {d : Nat} {σ : fAH} {Q : fRes → fAH → Prop} {B : Nat → Nat} {n : Nat} {D : fSD} {s : fP} {c9 : Nat} (Ms : fMs g σ) (hB : ∀ i, i < 600 → fI σ 1 i = sb (B i) ∧ B i < 256) (hn : fI σ 8 2 = nI n) (hn6 : n ≤ 600) (hc : fI σ 8 4 = nI c9) (Gr : fGr σ 9 D) (hD : fWD D) (hs : fPs σ 8 3 n s) (hfl : dT D 0 < 6) (h : ∀ σ', fSm fRdA σ σ' → fPs σ' 8 3 n (mns B n 0 D s).1 → (∀ e, (mns B n 0 D s).1 = .inr e → fGr σ' 9 (mns B n 0 D s).2) → fI σ' 8 2 = nI n → fI σ' 8 4 = nI c9 → Q (.inl none) σ') : fEv g (d + 2) mX5_readBlock 0 (fent [.ref 8] 4) [] σ Q := by
  obtain ⟨t0, t1, t2, t3, t4, t5, t6⟩ := id hD.1
  show fEv g (d + 2) mX5_readBlock 0 [some (.ref 8), none, none, none] [] σ Q
  refine e_aload_n dX5_readBlock_0 rfl rfl ?_
  refine e_iconst (nI 2) dX5_readBlock_1 (by decide) ?_
  refine e_bipush (nI 12) dX5_readBlock_2 (by decide) ?_
  refine e_callV (k := 8) [.int (nI 2), .int (nI 12)] dX5_readBlock_4 cc_X5_readNumber lk_RX5_122 im_X5_readNumber se_X5_readNumber (by decide) (Ms.s 8 rfl) (Ms.n (by decide)) rfl (Nat.le_of_ble_eq_true rfl) (Nat.le_of_ble_eq_true rfl) ?_
  refine t_X5_readNumber (B := B) (n := n) (s := s) (lo := 2) (hi1 := 13) Ms hB hn hn6 hs (by decide) (fun _ _ => by omega) (fun _ _ => hl_n (by decide)) (fun σ1 Smx1 hs1 hk1 => ?_)
  show fEv g _ mX5_readBlock 7 [some (.ref 8), none, none, none] [.int (nI (mnv B n 2 13 2 s))] σ1 Q
  have Sm1 : fSm fRdA σ σ1 := (Smx1.to (fun a (q : a = 8) => (by omega : 8 ≤ a ∧ a < 15)))
  have Ms1 := Ms.sm Sm1
  have hB1 : ∀ i, i < 600 → fI σ1 1 i = sb (B i) ∧ B i < 256 := fun i hi => ⟨(Sm1.i (by unfold fRdA; omega) i).trans (hB i hi).1, (hB i hi).2⟩
  have hn1 := (hk1 2 (by decide) (by decide) (by decide)).trans hn
  have hc1 := (hk1 4 (by decide) (by decide) (by decide)).trans hc
  have Gr1 := Gr.sm Smx1 (fun i hi (q : 9 + i = 8) => by omega)
  refine e_istore_n (L1 := [some (.ref 8), some (.int (nI (mnv B n 2 13 2 s))), none, none]) dX5_readBlock_7 rfl (by decide) rfl ?_
  refine e_aload_n dX5_readBlock_8 rfl rfl ?_
  refine e_iconst (nI 2) dX5_readBlock_9 (by decide) ?_
  refine e_bipush (nI 12) dX5_readBlock_10 (by decide) ?_
  refine e_callV (k := 8) [.int (nI 2), .int (nI 12)] dX5_readBlock_12 cc_X5_readNumber lk_RX5_122 im_X5_readNumber se_X5_readNumber (by decide) (Ms1.s 8 rfl) (Ms1.n (by decide)) rfl (Nat.le_of_ble_eq_true rfl) (Nat.le_of_ble_eq_true rfl) ?_
  refine t_X5_readNumber (B := B) (n := n) (s := mnum B n 2 13 s) (lo := 2) (hi1 := 13) Ms1 hB1 hn1 hn6 hs1 (by decide) (fun _ _ => by omega) (fun _ _ => hl_n (by decide)) (fun σ2 Smx2 hs2 hk2 => ?_)
  show fEv g _ mX5_readBlock 15 [some (.ref 8), some (.int (nI (mnv B n 2 13 2 s))), none, none] [.int (nI (mnv B n 2 13 2 (mnum B n 2 13 s)))] σ2 Q
  have Sm2 : fSm fRdA σ σ2 := Sm1.tr (Smx2.to (fun a (q : a = 8) => (by omega : 8 ≤ a ∧ a < 15)))
  have Ms2 := Ms.sm Sm2
  have hB2 : ∀ i, i < 600 → fI σ2 1 i = sb (B i) ∧ B i < 256 := fun i hi => ⟨(Sm2.i (by unfold fRdA; omega) i).trans (hB i hi).1, (hB i hi).2⟩
  have hn2 := (hk2 2 (by decide) (by decide) (by decide)).trans hn1
  have hc2 := (hk2 4 (by decide) (by decide) (by decide)).trans hc1
  have Gr2 := Gr1.sm Smx2 (fun i hi (q : 9 + i = 8) => by omega)
  refine e_istore_n (L1 := [some (.ref 8), some (.int (nI (mnv B n 2 13 2 s))), some (.int (nI (mnv B n 2 13 2 (mnum B n 2 13 s)))), none]) dX5_readBlock_15 rfl (by decide) rfl ?_
  refine e_aload_n dX5_readBlock_16 rfl rfl ?_
  refine e_iconst (nI 0) dX5_readBlock_17 (by decide) ?_
  refine e_iconst (nI 1) dX5_readBlock_18 (by decide) ?_
  refine e_callV (k := 8) [.int (nI 0), .int (nI 1)] dX5_readBlock_19 cc_X5_readNumber lk_RX5_122 im_X5_readNumber se_X5_readNumber (by decide) (Ms2.s 8 rfl) (Ms2.n (by decide)) rfl (Nat.le_of_ble_eq_true rfl) (Nat.le_of_ble_eq_true rfl) ?_
  refine t_X5_readNumber (B := B) (n := n) (s := mnum B n 2 13 (mnum B n 2 13 s)) (lo := 0) (hi1 := 2) Ms2 hB2 hn2 hn6 hs2 (by decide) (fun _ _ => by omega) (fun _ _ => hl_n (by decide)) (fun σ3 Smx3 hs3 hk3 => ?_)
  show fEv g _ mX5_readBlock 22 [some (.ref 8), some (.int (nI (mnv B n 2 13 2 s))), some (.int (nI (mnv B n 2 13 2 (mnum B n 2 13 s)))), none] [.int (nI (mnv B n 0 2 0 (mnum B n 2 13 (mnum B n 2 13 s))))] σ3 Q
  have Sm3 : fSm fRdA σ σ3 := Sm2.tr (Smx3.to (fun a (q : a = 8) => (by omega : 8 ≤ a ∧ a < 15)))
  have Ms3 := Ms.sm Sm3
  have hB3 : ∀ i, i < 600 → fI σ3 1 i = sb (B i) ∧ B i < 256 := fun i hi => ⟨(Sm3.i (by unfold fRdA; omega) i).trans (hB i hi).1, (hB i hi).2⟩
  have hn3 := (hk3 2 (by decide) (by decide) (by decide)).trans hn2
  have hc3 := (hk3 4 (by decide) (by decide) (by decide)).trans hc2
  have Gr3 := Gr2.sm Smx3 (fun i hi (q : 9 + i = 8) => by omega)
  refine e_istore_n (L1 := [some (.ref 8), some (.int (nI (mnv B n 2 13 2 s))), some (.int (nI (mnv B n 2 13 2 (mnum B n 2 13 s)))), some (.int (nI (mnv B n 0 2 0 (mnum B n 2 13 (mnum B n 2 13 s)))))]) dX5_readBlock_22 rfl (by decide) rfl ?_
  have e0 : (mns B n 0 D s).1 = mnum B n 0 2 (mnum B n 2 13 (mnum B n 2 13 s)) := rfl
  cases q9 : mnum B n 0 2 (mnum B n 2 13 (mnum B n 2 13 s)) with
  | inl x =>
    rw [q9] at hs3 e0
    have hs3 : fI σ3 8 5 = nI x.1 ∧ fI σ3 8 6 = nI x.2 ∧ 1 ≤ x.1 ∧ x.1 ≤ 3 ∧ x.2 ≤ n ∧ ∃ a9, a9 ≤ n ∧ fI σ3 8 3 = nI a9 := hs3
    rw [e0] at h
    refine e_aload_n dX5_readBlock_23 rfl rfl ?_
    refine e_getI dX5_readBlock_24 fl_RX5_28 (Ms3.s 8 rfl) (Ms3.n (by decide)) rfl ?_
    refine e_int (nI x.1) hs3.1 ?_
    refine e_if_ne 40 dX5_readBlock_27 (by decide) (fun _ => ?_) (fun c => absurd ((nI_z (by omega)).mp c) (by omega))
    exact e_return dX5_readBlock_40 rfl (h _ Sm3 hs3 (fun e q => by cases q) hn3 hc3)
  | inr e =>
    rw [q9] at hs3 e0
    have hz3 : fI σ3 8 5 = nI 0 := (show e ≤ n ∧ fI σ3 8 3 = nI e ∧ fI σ3 8 5 = nI 0 ∧ fI σ3 8 6 = -1 from hs3).2.2.1
    obtain ⟨a3, r3, -, w3, l3, u3⟩ := mnum_ok q9
    have v3 := (w3 0).trans (w3 0).symm
    have b3 : 0 ≤ mnv B n 0 2 0 (mnum B n 2 13 (mnum B n 2 13 s)) ∧ mnv B n 0 2 0 (mnum B n 2 13 (mnum B n 2 13 s)) < 2 := by rw [w3 0]; exact ⟨l3, u3⟩
    obtain ⟨a2, r2, -, w2, l2, u2⟩ := mnum_ok r3
    have v2 := (w2 2).trans (w2 0).symm
    have b2 : 2 ≤ mnv B n 2 13 2 (mnum B n 2 13 s) ∧ mnv B n 2 13 2 (mnum B n 2 13 s) < 13 := by rw [w2 2]; exact ⟨l2, u2⟩
    obtain ⟨a1, r1, -, w1, l1, u1⟩ := mnum_ok r2
    have v1 := (w1 2).trans (w1 0).symm
    have b1 : 2 ≤ mnv B n 2 13 2 s ∧ mnv B n 2 13 2 s < 13 := by rw [w1 2]; exact ⟨l1, u1⟩
    refine e_aload_n dX5_readBlock_23 rfl rfl ?_
    refine e_getI dX5_readBlock_24 fl_RX5_28 (Ms3.s 8 rfl) (Ms3.n (by decide)) rfl ?_
    refine e_int (nI 0) hz3 ?_
    refine e_if_ne 40 dX5_readBlock_27 (by decide) (fun c => absurd rfl c) (fun _ => ?_)
    refine e_aload_n dX5_readBlock_30 rfl rfl ?_
    refine e_getR (q := 9) dX5_readBlock_31 fl_RX5_12 (Ms3.s 8 rfl) (Ms3.n (by decide)) rfl (Ms3.r 8 1 rfl) (by unfold fscr; omega) ?_
    refine e_iload_n dX5_readBlock_34 rfl rfl ?_
    refine e_iload_n dX5_readBlock_35 rfl rfl ?_
    refine e_iload_n dX5_readBlock_36 rfl rfl ?_
    refine e_callV (k := 9) [.int (nI (mnv B n 2 13 2 s)), .int (nI (mnv B n 2 13 2 (mnum B n 2 13 s))), .int (nI (mnv B n 0 2 0 (mnum B n 2 13 (mnum B n 2 13 s))))] dX5_readBlock_37 cc_X3_addBlock lk_RX5_131 im_X3_addBlock se_X3_addBlock (by decide) (Ms3.s 9 rfl) (Ms3.n (by decide)) rfl (Nat.le_of_ble_eq_true rfl) (Nat.le_of_ble_eq_true rfl) ?_
    refine t_X3_addBlock Ms3 Gr3 hfl (fun σ4 Smx4 Gr4 => ?_)
    show fEv g _ mX5_readBlock 40 [some (.ref 8), some (.int (nI (mnv B n 2 13 2 s))), some (.int (nI (mnv B n 2 13 2 (mnum B n 2 13 s)))), some (.int (nI (mnv B n 0 2 0 (mnum B n 2 13 (mnum B n 2 13 s)))))] [] σ4 Q
    have Sm4 : fSm fRdA σ σ4 := Sm3.tr (Smx4.to (fun a (q : 9 ≤ a ∧ a < 15) => (by omega : 8 ≤ a ∧ a < 15)))
    have Ms4 := Ms.sm Sm4
    have hB4 : ∀ i, i < 600 → fI σ4 1 i = sb (B i) ∧ B i < 256 := fun i hi => ⟨(Sm4.i (by unfold fRdA; omega) i).trans (hB i hi).1, (hB i hi).2⟩
    have hn4 := (Smx4.i (by omega) 2).trans hn3
    have hc4 := (Smx4.i (by omega) 4).trans hc3
    rw [v2, v1] at Gr4
    exact e_return dX5_readBlock_40 rfl (h _ Sm4 (by rw [e0]; exact hs3.sm (fun q => Smx4.i (by omega) q)) (fun _ _ => Gr4) hn4 hc4)
set_option maxRecDepth 20000 in
theorem t_X5_readOrder {g : fGP} {d : Nat} {σ : fAH} {Q : fRes → fAH → Prop} {B : Nat → Nat} {n : Nat} {D : fSD} {s : fP} {c9 : Nat} (Ms : fMs g σ) (hB : ∀ i, i < 600 → fI σ 1 i = sb (B i) ∧ B i < 256) (hn : fI σ 8 2 = nI n) (hn6 : n ≤ 600) (hc : fI σ 8 4 = nI c9) (Gr : fGr σ 9 D) (hD : fWD D) (hs : fPs σ 8 3 n s) (hfl : dT D 2 < 6) (h : ∀ σ', fSm fRdA σ σ' → fPs σ' 8 3 n (mns B n 2 D s).1 → (∀ e, (mns B n 2 D s).1 = .inr e → fGr σ' 9 (mns B n 2 D s).2) → fI σ' 8 2 = nI n → fI σ' 8 4 = nI c9 → Q (.inl none) σ') : fEv g (d + 2) mX5_readOrder 0 (fent [.ref 8] 6) [] σ Q := by
  obtain ⟨t0, t1, t2, t3, t4, t5, t6⟩ := id hD.1
  show fEv g (d + 2) mX5_readOrder 0 [some (.ref 8), none, none, none, none, none] [] σ Q
  refine e_aload_n dX5_readOrder_0 rfl rfl ?_
  refine e_iconst (nI 1) dX5_readOrder_1 (by decide) ?_
  refine e_bipush (nI 12) dX5_readOrder_2 (by decide) ?_
  refine e_callV (k := 8) [.int (nI 1), .int (nI 12)] dX5_readOrder_4 cc_X5_readNumber lk_RX5_122 im_X5_readNumber se_X5_readNumber (by decide) (Ms.s 8 rfl) (Ms.n (by decide)) rfl (Nat.le_of_ble_eq_true rfl) (Nat.le_of_ble_eq_true rfl) ?_
  refine t_X5_readNumber (B := B) (n := n) (s := s) (lo := 1) (hi1 := 13) Ms hB hn hn6 hs (by decide) (fun _ _ => by omega) (fun _ _ => hl_n (by decide)) (fun σ1 Smx1 hs1 hk1 => ?_)
  show fEv g _ mX5_readOrder 7 [some (.ref 8), none, none, none, none, none] [.int (nI (mnv B n 1 13 1 s))] σ1 Q
  have Sm1 : fSm fRdA σ σ1 := (Smx1.to (fun a (q : a = 8) => (by omega : 8 ≤ a ∧ a < 15)))
  have Ms1 := Ms.sm Sm1
  have hB1 : ∀ i, i < 600 → fI σ1 1 i = sb (B i) ∧ B i < 256 := fun i hi => ⟨(Sm1.i (by unfold fRdA; omega) i).trans (hB i hi).1, (hB i hi).2⟩
  have hn1 := (hk1 2 (by decide) (by decide) (by decide)).trans hn
  have hc1 := (hk1 4 (by decide) (by decide) (by decide)).trans hc
  have Gr1 := Gr.sm Smx1 (fun i hi (q : 9 + i = 8) => by omega)
  refine e_istore_n (L1 := [some (.ref 8), some (.int (nI (mnv B n 1 13 1 s))), none, none, none, none]) dX5_readOrder_7 rfl (by decide) rfl ?_
  refine e_aload_n dX5_readOrder_8 rfl rfl ?_
  refine e_iconst (nI 1) dX5_readOrder_9 (by decide) ?_
  refine e_bipush (nI 12) dX5_readOrder_10 (by decide) ?_
  refine e_callV (k := 8) [.int (nI 1), .int (nI 12)] dX5_readOrder_12 cc_X5_readNumber lk_RX5_122 im_X5_readNumber se_X5_readNumber (by decide) (Ms1.s 8 rfl) (Ms1.n (by decide)) rfl (Nat.le_of_ble_eq_true rfl) (Nat.le_of_ble_eq_true rfl) ?_
  refine t_X5_readNumber (B := B) (n := n) (s := mnum B n 1 13 s) (lo := 1) (hi1 := 13) Ms1 hB1 hn1 hn6 hs1 (by decide) (fun _ _ => by omega) (fun _ _ => hl_n (by decide)) (fun σ2 Smx2 hs2 hk2 => ?_)
  show fEv g _ mX5_readOrder 15 [some (.ref 8), some (.int (nI (mnv B n 1 13 1 s))), none, none, none, none] [.int (nI (mnv B n 1 13 1 (mnum B n 1 13 s)))] σ2 Q
  have Sm2 : fSm fRdA σ σ2 := Sm1.tr (Smx2.to (fun a (q : a = 8) => (by omega : 8 ≤ a ∧ a < 15)))
  have Ms2 := Ms.sm Sm2
  have hB2 : ∀ i, i < 600 → fI σ2 1 i = sb (B i) ∧ B i < 256 := fun i hi => ⟨(Sm2.i (by unfold fRdA; omega) i).trans (hB i hi).1, (hB i hi).2⟩
  have hn2 := (hk2 2 (by decide) (by decide) (by decide)).trans hn1
  have hc2 := (hk2 4 (by decide) (by decide) (by decide)).trans hc1
  have Gr2 := Gr1.sm Smx2 (fun i hi (q : 9 + i = 8) => by omega)
  refine e_istore_n (L1 := [some (.ref 8), some (.int (nI (mnv B n 1 13 1 s))), some (.int (nI (mnv B n 1 13 1 (mnum B n 1 13 s)))), none, none, none]) dX5_readOrder_15 rfl (by decide) rfl ?_
  refine e_aload_n dX5_readOrder_16 rfl rfl ?_
  refine e_iconst (nI 1) dX5_readOrder_17 (by decide) ?_
  refine e_bipush (nI 9) dX5_readOrder_18 (by decide) ?_
  refine e_callV (k := 8) [.int (nI 1), .int (nI 9)] dX5_readOrder_20 cc_X5_readNumber lk_RX5_122 im_X5_readNumber se_X5_readNumber (by decide) (Ms2.s 8 rfl) (Ms2.n (by decide)) rfl (Nat.le_of_ble_eq_true rfl) (Nat.le_of_ble_eq_true rfl) ?_
  refine t_X5_readNumber (B := B) (n := n) (s := mnum B n 1 13 (mnum B n 1 13 s)) (lo := 1) (hi1 := 10) Ms2 hB2 hn2 hn6 hs2 (by decide) (fun _ _ => by omega) (fun _ _ => hl_n (by decide)) (fun σ3 Smx3 hs3 hk3 => ?_)
  show fEv g _ mX5_readOrder 23 [some (.ref 8), some (.int (nI (mnv B n 1 13 1 s))), some (.int (nI (mnv B n 1 13 1 (mnum B n 1 13 s)))), none, none, none] [.int (nI (mnv B n 1 10 1 (mnum B n 1 13 (mnum B n 1 13 s))))] σ3 Q
  have Sm3 : fSm fRdA σ σ3 := Sm2.tr (Smx3.to (fun a (q : a = 8) => (by omega : 8 ≤ a ∧ a < 15)))
  have Ms3 := Ms.sm Sm3
  have hB3 : ∀ i, i < 600 → fI σ3 1 i = sb (B i) ∧ B i < 256 := fun i hi => ⟨(Sm3.i (by unfold fRdA; omega) i).trans (hB i hi).1, (hB i hi).2⟩
  have hn3 := (hk3 2 (by decide) (by decide) (by decide)).trans hn2
  have hc3 := (hk3 4 (by decide) (by decide) (by decide)).trans hc2
  have Gr3 := Gr2.sm Smx3 (fun i hi (q : 9 + i = 8) => by omega)
  refine e_istore_n (L1 := [some (.ref 8), some (.int (nI (mnv B n 1 13 1 s))), some (.int (nI (mnv B n 1 13 1 (mnum B n 1 13 s)))), some (.int (nI (mnv B n 1 10 1 (mnum B n 1 13 (mnum B n 1 13 s))))), none, none]) dX5_readOrder_23 rfl (by decide) rfl ?_
  refine e_aload_n dX5_readOrder_24 rfl rfl ?_
  refine e_iconst (nI 0) dX5_readOrder_25 (by decide) ?_
  refine e_bipush (nI 29) dX5_readOrder_26 (by decide) ?_
  refine e_callV (k := 8) [.int (nI 0), .int (nI 29)] dX5_readOrder_28 cc_X5_readNumber lk_RX5_122 im_X5_readNumber se_X5_readNumber (by decide) (Ms3.s 8 rfl) (Ms3.n (by decide)) rfl (Nat.le_of_ble_eq_true rfl) (Nat.le_of_ble_eq_true rfl) ?_
  refine t_X5_readNumber (B := B) (n := n) (s := mnum B n 1 10 (mnum B n 1 13 (mnum B n 1 13 s))) (lo := 0) (hi1 := 30) Ms3 hB3 hn3 hn6 hs3 (by decide) (fun _ _ => by omega) (fun _ _ => hl_n (by decide)) (fun σ4 Smx4 hs4 hk4 => ?_)
  show fEv g _ mX5_readOrder 31 [some (.ref 8), some (.int (nI (mnv B n 1 13 1 s))), some (.int (nI (mnv B n 1 13 1 (mnum B n 1 13 s)))), some (.int (nI (mnv B n 1 10 1 (mnum B n 1 13 (mnum B n 1 13 s))))), none, none] [.int (nI (mnv B n 0 30 0 (mnum B n 1 10 (mnum B n 1 13 (mnum B n 1 13 s)))))] σ4 Q
  have Sm4 : fSm fRdA σ σ4 := Sm3.tr (Smx4.to (fun a (q : a = 8) => (by omega : 8 ≤ a ∧ a < 15)))
  have Ms4 := Ms.sm Sm4
  have hB4 : ∀ i, i < 600 → fI σ4 1 i = sb (B i) ∧ B i < 256 := fun i hi => ⟨(Sm4.i (by unfold fRdA; omega) i).trans (hB i hi).1, (hB i hi).2⟩
  have hn4 := (hk4 2 (by decide) (by decide) (by decide)).trans hn3
  have hc4 := (hk4 4 (by decide) (by decide) (by decide)).trans hc3
  have Gr4 := Gr3.sm Smx4 (fun i hi (q : 9 + i = 8) => by omega)
  refine e_istore (L1 := [some (.ref 8), some (.int (nI (mnv B n 1 13 1 s))), some (.int (nI (mnv B n 1 13 1 (mnum B n 1 13 s)))), some (.int (nI (mnv B n 1 10 1 (mnum B n 1 13 (mnum B n 1 13 s))))), some (.int (nI (mnv B n 0 30 0 (mnum B n 1 10 (mnum B n 1 13 (mnum B n 1 13 s)))))), none]) dX5_readOrder_31 (by decide) rfl ?_
  refine e_aload_n dX5_readOrder_33 rfl rfl ?_
  refine e_iconst (nI 1) dX5_readOrder_34 (by decide) ?_
  refine e_bipush (nI 99) dX5_readOrder_35 (by decide) ?_
  refine e_callV (k := 8) [.int (nI 1), .int (nI 99)] dX5_readOrder_37 cc_X5_readNumber lk_RX5_122 im_X5_readNumber se_X5_readNumber (by decide) (Ms4.s 8 rfl) (Ms4.n (by decide)) rfl (Nat.le_of_ble_eq_true rfl) (Nat.le_of_ble_eq_true rfl) ?_
  refine t_X5_readNumber (B := B) (n := n) (s := mnum B n 0 30 (mnum B n 1 10 (mnum B n 1 13 (mnum B n 1 13 s)))) (lo := 1) (hi1 := 100) Ms4 hB4 hn4 hn6 hs4 (by decide) (fun _ _ => by omega) (fun _ _ => hl_n (by decide)) (fun σ5 Smx5 hs5 hk5 => ?_)
  show fEv g _ mX5_readOrder 40 [some (.ref 8), some (.int (nI (mnv B n 1 13 1 s))), some (.int (nI (mnv B n 1 13 1 (mnum B n 1 13 s)))), some (.int (nI (mnv B n 1 10 1 (mnum B n 1 13 (mnum B n 1 13 s))))), some (.int (nI (mnv B n 0 30 0 (mnum B n 1 10 (mnum B n 1 13 (mnum B n 1 13 s)))))), none] [.int (nI (mnv B n 1 100 1 (mnum B n 0 30 (mnum B n 1 10 (mnum B n 1 13 (mnum B n 1 13 s))))))] σ5 Q
  have Sm5 : fSm fRdA σ σ5 := Sm4.tr (Smx5.to (fun a (q : a = 8) => (by omega : 8 ≤ a ∧ a < 15)))
  have Ms5 := Ms.sm Sm5
  have hB5 : ∀ i, i < 600 → fI σ5 1 i = sb (B i) ∧ B i < 256 := fun i hi => ⟨(Sm5.i (by unfold fRdA; omega) i).trans (hB i hi).1, (hB i hi).2⟩
  have hn5 := (hk5 2 (by decide) (by decide) (by decide)).trans hn4
  have hc5 := (hk5 4 (by decide) (by decide) (by decide)).trans hc4
  have Gr5 := Gr4.sm Smx5 (fun i hi (q : 9 + i = 8) => by omega)
  refine e_istore (L1 := [some (.ref 8), some (.int (nI (mnv B n 1 13 1 s))), some (.int (nI (mnv B n 1 13 1 (mnum B n 1 13 s)))), some (.int (nI (mnv B n 1 10 1 (mnum B n 1 13 (mnum B n 1 13 s))))), some (.int (nI (mnv B n 0 30 0 (mnum B n 1 10 (mnum B n 1 13 (mnum B n 1 13 s)))))), some (.int (nI (mnv B n 1 100 1 (mnum B n 0 30 (mnum B n 1 10 (mnum B n 1 13 (mnum B n 1 13 s)))))))]) dX5_readOrder_40 (by decide) rfl ?_
  have e0 : (mns B n 2 D s).1 = mnum B n 1 100 (mnum B n 0 30 (mnum B n 1 10 (mnum B n 1 13 (mnum B n 1 13 s)))) := rfl
  cases q9 : mnum B n 1 100 (mnum B n 0 30 (mnum B n 1 10 (mnum B n 1 13 (mnum B n 1 13 s)))) with
  | inl x =>
    rw [q9] at hs5 e0
    have hs5 : fI σ5 8 5 = nI x.1 ∧ fI σ5 8 6 = nI x.2 ∧ 1 ≤ x.1 ∧ x.1 ≤ 3 ∧ x.2 ≤ n ∧ ∃ a9, a9 ≤ n ∧ fI σ5 8 3 = nI a9 := hs5
    rw [e0] at h
    refine e_aload_n dX5_readOrder_42 rfl rfl ?_
    refine e_getI dX5_readOrder_43 fl_RX5_28 (Ms5.s 8 rfl) (Ms5.n (by decide)) rfl ?_
    refine e_int (nI x.1) hs5.1 ?_
    refine e_if_ne 63 dX5_readOrder_46 (by decide) (fun _ => ?_) (fun c => absurd ((nI_z (by omega)).mp c) (by omega))
    exact e_return dX5_readOrder_63 rfl (h _ Sm5 hs5 (fun e q => by cases q) hn5 hc5)
  | inr e =>
    rw [q9] at hs5 e0
    have hz5 : fI σ5 8 5 = nI 0 := (show e ≤ n ∧ fI σ5 8 3 = nI e ∧ fI σ5 8 5 = nI 0 ∧ fI σ5 8 6 = -1 from hs5).2.2.1
    obtain ⟨a5, r5, -, w5, l5, u5⟩ := mnum_ok q9
    have v5 := (w5 1).trans (w5 0).symm
    have b5 : 1 ≤ mnv B n 1 100 1 (mnum B n 0 30 (mnum B n 1 10 (mnum B n 1 13 (mnum B n 1 13 s)))) ∧ mnv B n 1 100 1 (mnum B n 0 30 (mnum B n 1 10 (mnum B n 1 13 (mnum B n 1 13 s)))) < 100 := by rw [w5 1]; exact ⟨l5, u5⟩
    obtain ⟨a4, r4, -, w4, l4, u4⟩ := mnum_ok r5
    have v4 := (w4 0).trans (w4 0).symm
    have b4 : 0 ≤ mnv B n 0 30 0 (mnum B n 1 10 (mnum B n 1 13 (mnum B n 1 13 s))) ∧ mnv B n 0 30 0 (mnum B n 1 10 (mnum B n 1 13 (mnum B n 1 13 s))) < 30 := by rw [w4 0]; exact ⟨l4, u4⟩
    obtain ⟨a3, r3, -, w3, l3, u3⟩ := mnum_ok r4
    have v3 := (w3 1).trans (w3 0).symm
    have b3 : 1 ≤ mnv B n 1 10 1 (mnum B n 1 13 (mnum B n 1 13 s)) ∧ mnv B n 1 10 1 (mnum B n 1 13 (mnum B n 1 13 s)) < 10 := by rw [w3 1]; exact ⟨l3, u3⟩
    obtain ⟨a2, r2, -, w2, l2, u2⟩ := mnum_ok r3
    have v2 := (w2 1).trans (w2 0).symm
    have b2 : 1 ≤ mnv B n 1 13 1 (mnum B n 1 13 s) ∧ mnv B n 1 13 1 (mnum B n 1 13 s) < 13 := by rw [w2 1]; exact ⟨l2, u2⟩
    obtain ⟨a1, r1, -, w1, l1, u1⟩ := mnum_ok r2
    have v1 := (w1 1).trans (w1 0).symm
    have b1 : 1 ≤ mnv B n 1 13 1 s ∧ mnv B n 1 13 1 s < 13 := by rw [w1 1]; exact ⟨l1, u1⟩
    refine e_aload_n dX5_readOrder_42 rfl rfl ?_
    refine e_getI dX5_readOrder_43 fl_RX5_28 (Ms5.s 8 rfl) (Ms5.n (by decide)) rfl ?_
    refine e_int (nI 0) hz5 ?_
    refine e_if_ne 63 dX5_readOrder_46 (by decide) (fun c => absurd rfl c) (fun _ => ?_)
    refine e_aload_n dX5_readOrder_49 rfl rfl ?_
    refine e_getR (q := 9) dX5_readOrder_50 fl_RX5_12 (Ms5.s 8 rfl) (Ms5.n (by decide)) rfl (Ms5.r 8 1 rfl) (by unfold fscr; omega) ?_
    refine e_iload_n dX5_readOrder_53 rfl rfl ?_
    refine e_iload_n dX5_readOrder_54 rfl rfl ?_
    refine e_iload_n dX5_readOrder_55 rfl rfl ?_
    refine e_iload dX5_readOrder_56 rfl ?_
    refine e_iload dX5_readOrder_58 rfl ?_
    refine e_callV (k := 9) [.int (nI (mnv B n 1 13 1 s)), .int (nI (mnv B n 1 13 1 (mnum B n 1 13 s))), .int (nI (mnv B n 1 10 1 (mnum B n 1 13 (mnum B n 1 13 s)))), .int (nI (mnv B n 0 30 0 (mnum B n 1 10 (mnum B n 1 13 (mnum B n 1 13 s))))), .int (nI (mnv B n 1 100 1 (mnum B n 0 30 (mnum B n 1 10 (mnum B n 1 13 (mnum B n 1 13 s))))))] dX5_readOrder_60 cc_X3_addOrder lk_RX5_143 im_X3_addOrder se_X3_addOrder (by decide) (Ms5.s 9 rfl) (Ms5.n (by decide)) rfl (Nat.le_of_ble_eq_true rfl) (Nat.le_of_ble_eq_true rfl) ?_
    refine t_X3_addOrder Ms5 Gr5 hfl (fun σ6 Smx6 Gr6 => ?_)
    show fEv g _ mX5_readOrder 63 [some (.ref 8), some (.int (nI (mnv B n 1 13 1 s))), some (.int (nI (mnv B n 1 13 1 (mnum B n 1 13 s)))), some (.int (nI (mnv B n 1 10 1 (mnum B n 1 13 (mnum B n 1 13 s))))), some (.int (nI (mnv B n 0 30 0 (mnum B n 1 10 (mnum B n 1 13 (mnum B n 1 13 s)))))), some (.int (nI (mnv B n 1 100 1 (mnum B n 0 30 (mnum B n 1 10 (mnum B n 1 13 (mnum B n 1 13 s)))))))] [] σ6 Q
    have Sm6 : fSm fRdA σ σ6 := Sm5.tr (Smx6.to (fun a (q : 9 ≤ a ∧ a < 15) => (by omega : 8 ≤ a ∧ a < 15)))
    have Ms6 := Ms.sm Sm6
    have hB6 : ∀ i, i < 600 → fI σ6 1 i = sb (B i) ∧ B i < 256 := fun i hi => ⟨(Sm6.i (by unfold fRdA; omega) i).trans (hB i hi).1, (hB i hi).2⟩
    have hn6 := (Smx6.i (by omega) 2).trans hn5
    have hc6 := (Smx6.i (by omega) 4).trans hc5
    rw [v5, v3, v2, v1] at Gr6
    exact e_return dX5_readOrder_63 rfl (h _ Sm6 (by rw [e0]; exact hs5.sm (fun q => Smx6.i (by omega) q)) (fun _ _ => Gr6) hn6 hc6)
set_option maxRecDepth 20000 in
theorem t_X5_readOdds {g : fGP} {d : Nat} {σ : fAH} {Q : fRes → fAH → Prop} {B : Nat → Nat} {n : Nat} {D : fSD} {s : fP} {c9 : Nat} (Ms : fMs g σ) (hB : ∀ i, i < 600 → fI σ 1 i = sb (B i) ∧ B i < 256) (hn : fI σ 8 2 = nI n) (hn6 : n ≤ 600) (hc : fI σ 8 4 = nI c9) (Gr : fGr σ 9 D) (hD : fWD D) (hs : fPs σ 8 3 n s) (hfl : dT D 6 < 24) (h : ∀ σ', fSm fRdA σ σ' → fPs σ' 8 3 n (mns B n 6 D s).1 → (∀ e, (mns B n 6 D s).1 = .inr e → fGr σ' 9 (mns B n 6 D s).2) → fI σ' 8 2 = nI n → fI σ' 8 4 = nI c9 → Q (.inl none) σ') : fEv g (d + 2) mX5_readOdds 0 (fent [.ref 8] 4) [] σ Q := by
  obtain ⟨t0, t1, t2, t3, t4, t5, t6⟩ := id hD.1
  show fEv g (d + 2) mX5_readOdds 0 [some (.ref 8), none, none, none] [] σ Q
  refine e_aload_n dX5_readOdds_0 rfl rfl ?_
  refine e_iconst (nI 0) dX5_readOdds_1 (by decide) ?_
  refine e_bipush (nI 29) dX5_readOdds_2 (by decide) ?_
  refine e_callV (k := 8) [.int (nI 0), .int (nI 29)] dX5_readOdds_4 cc_X5_readNumber lk_RX5_122 im_X5_readNumber se_X5_readNumber (by decide) (Ms.s 8 rfl) (Ms.n (by decide)) rfl (Nat.le_of_ble_eq_true rfl) (Nat.le_of_ble_eq_true rfl) ?_
  refine t_X5_readNumber (B := B) (n := n) (s := s) (lo := 0) (hi1 := 30) Ms hB hn hn6 hs (by decide) (fun _ _ => by omega) (fun _ _ => hl_n (by decide)) (fun σ1 Smx1 hs1 hk1 => ?_)
  show fEv g _ mX5_readOdds 7 [some (.ref 8), none, none, none] [.int (nI (mnv B n 0 30 0 s))] σ1 Q
  have Sm1 : fSm fRdA σ σ1 := (Smx1.to (fun a (q : a = 8) => (by omega : 8 ≤ a ∧ a < 15)))
  have Ms1 := Ms.sm Sm1
  have hB1 : ∀ i, i < 600 → fI σ1 1 i = sb (B i) ∧ B i < 256 := fun i hi => ⟨(Sm1.i (by unfold fRdA; omega) i).trans (hB i hi).1, (hB i hi).2⟩
  have hn1 := (hk1 2 (by decide) (by decide) (by decide)).trans hn
  have hc1 := (hk1 4 (by decide) (by decide) (by decide)).trans hc
  have Gr1 := Gr.sm Smx1 (fun i hi (q : 9 + i = 8) => by omega)
  refine e_istore_n (L1 := [some (.ref 8), some (.int (nI (mnv B n 0 30 0 s))), none, none]) dX5_readOdds_7 rfl (by decide) rfl ?_
  refine e_aload_n dX5_readOdds_8 rfl rfl ?_
  refine e_iconst (nI 1) dX5_readOdds_9 (by decide) ?_
  refine e_bipush (nI 9) dX5_readOdds_10 (by decide) ?_
  refine e_callV (k := 8) [.int (nI 1), .int (nI 9)] dX5_readOdds_12 cc_X5_readNumber lk_RX5_122 im_X5_readNumber se_X5_readNumber (by decide) (Ms1.s 8 rfl) (Ms1.n (by decide)) rfl (Nat.le_of_ble_eq_true rfl) (Nat.le_of_ble_eq_true rfl) ?_
  refine t_X5_readNumber (B := B) (n := n) (s := mnum B n 0 30 s) (lo := 1) (hi1 := 10) Ms1 hB1 hn1 hn6 hs1 (by decide) (fun _ _ => by omega) (fun _ _ => hl_n (by decide)) (fun σ2 Smx2 hs2 hk2 => ?_)
  show fEv g _ mX5_readOdds 15 [some (.ref 8), some (.int (nI (mnv B n 0 30 0 s))), none, none] [.int (nI (mnv B n 1 10 1 (mnum B n 0 30 s)))] σ2 Q
  have Sm2 : fSm fRdA σ σ2 := Sm1.tr (Smx2.to (fun a (q : a = 8) => (by omega : 8 ≤ a ∧ a < 15)))
  have Ms2 := Ms.sm Sm2
  have hB2 : ∀ i, i < 600 → fI σ2 1 i = sb (B i) ∧ B i < 256 := fun i hi => ⟨(Sm2.i (by unfold fRdA; omega) i).trans (hB i hi).1, (hB i hi).2⟩
  have hn2 := (hk2 2 (by decide) (by decide) (by decide)).trans hn1
  have hc2 := (hk2 4 (by decide) (by decide) (by decide)).trans hc1
  have Gr2 := Gr1.sm Smx2 (fun i hi (q : 9 + i = 8) => by omega)
  refine e_istore_n (L1 := [some (.ref 8), some (.int (nI (mnv B n 0 30 0 s))), some (.int (nI (mnv B n 1 10 1 (mnum B n 0 30 s)))), none]) dX5_readOdds_15 rfl (by decide) rfl ?_
  have vb : mnv B n 0 30 0 s < 30 := by rcases mnv_b (B := B) (n := n) (lo := 0) (hi := 30) (d := 0) (s := s) with q | q <;> omega
  refine e_aload_n dX5_readOdds_16 rfl rfl ?_
  refine e_iconst (nI 1) dX5_readOdds_17 (by decide) ?_
  refine e_aload_n dX5_readOdds_18 rfl rfl ?_
  refine e_getR (q := 9) dX5_readOdds_19 fl_RX5_12 (Ms2.s 8 rfl) (Ms2.n (by decide)) rfl (Ms2.r 8 1 rfl) (by unfold fscr; omega) ?_
  refine e_getR (q := 14) dX5_readOdds_22 fl_RX5_146 (Ms2.s 9 rfl) (Ms2.n (by decide)) rfl (Ms2.r 9 4 rfl) (by unfold fscr; omega) ?_
  refine e_iload_n dX5_readOdds_25 rfl rfl ?_
  refine e_bipush (nI 10) dX5_readOdds_26 (by decide) ?_
  refine e_imul dX5_readOdds_28 ?_
  refine e_int (nI ((mnv B n 0 30 0 s) * 10)) (pk_mul (mnv B n 0 30 0 s) 10) ?_
  refine e_iaload ((mnv B n 0 30 0 s) * 10) dX5_readOdds_29 (Ms2.s 14 rfl) (Ms2.n (by decide)) rfl (by omega) (by decide) ?_
  have hl9 : ∀ a, mnum B n 1 10 (mnum B n 0 30 s) = .inr a → ∀ v, v < 100000 → (nI v ≤ fI σ2 14 ((mnv B n 0 30 0 s) * 10) ↔ v < 9 - mall D (mnv B n 0 30 0 s)) := by
    intro a q v hv
    obtain ⟨a2, r2, -, w2, l2, u2⟩ := mnum_ok q
    obtain ⟨a1, r1, -, w1, l1, u1⟩ := mnum_ok r2
    have hv0 : mnv B n 0 30 0 s < 30 := by rw [w1 0]; exact u1
    have ml := hD.2.2.2.2.2 (mnv B n 0 30 0 s)
    rw [show fI σ2 14 ((mnv B n 0 30 0 s) * 10) = nI (8 - mall D (mnv B n 0 30 0 s)) from (Gr2.2.2.2.2.2 _ hv0).1, nI_le' (by omega) (by omega)]
    omega
  refine e_callV (k := 8) [.int (nI 1), .int (fI σ2 14 ((mnv B n 0 30 0 s) * 10))] dX5_readOdds_30 cc_X5_readNumber lk_RX5_122 im_X5_readNumber se_X5_readNumber (by decide) (Ms2.s 8 rfl) (Ms2.n (by decide)) rfl (Nat.le_of_ble_eq_true rfl) (Nat.le_of_ble_eq_true rfl) ?_
  refine t_X5_readNumber (B := B) (n := n) (s := mnum B n 1 10 (mnum B n 0 30 s)) (lo := 1) (hi1 := 9 - mall D (mnv B n 0 30 0 s)) Ms2 hB2 hn2 hn6 hs2 (by decide) (fun _ _ => by omega) hl9 (fun σ3 Smx3 hs3 hk3 => ?_)
  show fEv g _ mX5_readOdds 33 [some (.ref 8), some (.int (nI (mnv B n 0 30 0 s))), some (.int (nI (mnv B n 1 10 1 (mnum B n 0 30 s)))), none] [.int (nI (mnv B n 1 (9 - mall D (mnv B n 0 30 0 s)) 1 (mnum B n 1 10 (mnum B n 0 30 s))))] σ3 Q
  have Sm3 : fSm fRdA σ σ3 := Sm2.tr (Smx3.to (fun a (q : a = 8) => (by omega : 8 ≤ a ∧ a < 15)))
  have Ms3 := Ms.sm Sm3
  have hB3 : ∀ i, i < 600 → fI σ3 1 i = sb (B i) ∧ B i < 256 := fun i hi => ⟨(Sm3.i (by unfold fRdA; omega) i).trans (hB i hi).1, (hB i hi).2⟩
  have hn3 := (hk3 2 (by decide) (by decide) (by decide)).trans hn2
  have hc3 := (hk3 4 (by decide) (by decide) (by decide)).trans hc2
  have Gr3 := Gr2.sm Smx3 (fun i hi (q : 9 + i = 8) => by omega)
  refine e_istore_n (L1 := [some (.ref 8), some (.int (nI (mnv B n 0 30 0 s))), some (.int (nI (mnv B n 1 10 1 (mnum B n 0 30 s)))), some (.int (nI (mnv B n 1 (9 - mall D (mnv B n 0 30 0 s)) 1 (mnum B n 1 10 (mnum B n 0 30 s)))))]) dX5_readOdds_33 rfl (by decide) rfl ?_
  have e0 : (mns B n 6 D s).1 = mnum B n 1 (9 - mall D (mnv B n 0 30 0 s)) (mnum B n 1 10 (mnum B n 0 30 s)) := rfl
  cases q9 : mnum B n 1 (9 - mall D (mnv B n 0 30 0 s)) (mnum B n 1 10 (mnum B n 0 30 s)) with
  | inl x =>
    rw [q9] at hs3 e0
    have hs3 : fI σ3 8 5 = nI x.1 ∧ fI σ3 8 6 = nI x.2 ∧ 1 ≤ x.1 ∧ x.1 ≤ 3 ∧ x.2 ≤ n ∧ ∃ a9, a9 ≤ n ∧ fI σ3 8 3 = nI a9 := hs3
    rw [e0] at h
    refine e_aload_n dX5_readOdds_34 rfl rfl ?_
    refine e_getI dX5_readOdds_35 fl_RX5_28 (Ms3.s 8 rfl) (Ms3.n (by decide)) rfl ?_
    refine e_int (nI x.1) hs3.1 ?_
    refine e_if_ne 51 dX5_readOdds_38 (by decide) (fun _ => ?_) (fun c => absurd ((nI_z (by omega)).mp c) (by omega))
    exact e_return dX5_readOdds_51 rfl (h _ Sm3 hs3 (fun e q => by cases q) hn3 hc3)
  | inr e =>
    rw [q9] at hs3 e0
    have hz3 : fI σ3 8 5 = nI 0 := (show e ≤ n ∧ fI σ3 8 3 = nI e ∧ fI σ3 8 5 = nI 0 ∧ fI σ3 8 6 = -1 from hs3).2.2.1
    obtain ⟨a3, r3, -, w3, l3, u3⟩ := mnum_ok q9
    have v3 := (w3 1).trans (w3 0).symm
    have b3 : 1 ≤ mnv B n 1 (9 - mall D (mnv B n 0 30 0 s)) 1 (mnum B n 1 10 (mnum B n 0 30 s)) ∧ mnv B n 1 (9 - mall D (mnv B n 0 30 0 s)) 1 (mnum B n 1 10 (mnum B n 0 30 s)) < 9 - mall D (mnv B n 0 30 0 s) := by rw [w3 1]; exact ⟨l3, u3⟩
    obtain ⟨a2, r2, -, w2, l2, u2⟩ := mnum_ok r3
    have v2 := (w2 1).trans (w2 0).symm
    have b2 : 1 ≤ mnv B n 1 10 1 (mnum B n 0 30 s) ∧ mnv B n 1 10 1 (mnum B n 0 30 s) < 10 := by rw [w2 1]; exact ⟨l2, u2⟩
    obtain ⟨a1, r1, -, w1, l1, u1⟩ := mnum_ok r2
    have v1 := (w1 0).trans (w1 0).symm
    have b1 : 0 ≤ mnv B n 0 30 0 s ∧ mnv B n 0 30 0 s < 30 := by rw [w1 0]; exact ⟨l1, u1⟩
    refine e_aload_n dX5_readOdds_34 rfl rfl ?_
    refine e_getI dX5_readOdds_35 fl_RX5_28 (Ms3.s 8 rfl) (Ms3.n (by decide)) rfl ?_
    refine e_int (nI 0) hz3 ?_
    refine e_if_ne 51 dX5_readOdds_38 (by decide) (fun c => absurd rfl c) (fun _ => ?_)
    refine e_aload_n dX5_readOdds_41 rfl rfl ?_
    refine e_getR (q := 9) dX5_readOdds_42 fl_RX5_12 (Ms3.s 8 rfl) (Ms3.n (by decide)) rfl (Ms3.r 8 1 rfl) (by unfold fscr; omega) ?_
    refine e_iload_n dX5_readOdds_45 rfl rfl ?_
    refine e_iload_n dX5_readOdds_46 rfl rfl ?_
    refine e_iload_n dX5_readOdds_47 rfl rfl ?_
    refine e_callV (k := 9) [.int (nI (mnv B n 0 30 0 s)), .int (nI (mnv B n 1 10 1 (mnum B n 0 30 s))), .int (nI (mnv B n 1 (9 - mall D (mnv B n 0 30 0 s)) 1 (mnum B n 1 10 (mnum B n 0 30 s))))] dX5_readOdds_48 cc_X3_addOdds lk_RX5_149 im_X3_addOdds se_X3_addOdds (by decide) (Ms3.s 9 rfl) (Ms3.n (by decide)) rfl (Nat.le_of_ble_eq_true rfl) (Nat.le_of_ble_eq_true rfl) ?_
    refine t_X3_addOdds Ms3 Gr3 hfl (by omega) (by omega) (by omega) (fun σ4 Smx4 Gr4 => ?_)
    show fEv g _ mX5_readOdds 51 [some (.ref 8), some (.int (nI (mnv B n 0 30 0 s))), some (.int (nI (mnv B n 1 10 1 (mnum B n 0 30 s)))), some (.int (nI (mnv B n 1 (9 - mall D (mnv B n 0 30 0 s)) 1 (mnum B n 1 10 (mnum B n 0 30 s)))))] [] σ4 Q
    have Sm4 : fSm fRdA σ σ4 := Sm3.tr (Smx4.to (fun a (q : 9 ≤ a ∧ a < 15) => (by omega : 8 ≤ a ∧ a < 15)))
    have Ms4 := Ms.sm Sm4
    have hB4 : ∀ i, i < 600 → fI σ4 1 i = sb (B i) ∧ B i < 256 := fun i hi => ⟨(Sm4.i (by unfold fRdA; omega) i).trans (hB i hi).1, (hB i hi).2⟩
    have hn4 := (Smx4.i (by omega) 2).trans hn3
    have hc4 := (Smx4.i (by omega) 4).trans hc3
    rw [v3, v2] at Gr4
    exact e_return dX5_readOdds_51 rfl (h _ Sm4 (by rw [e0]; exact hs3.sm (fun q => Smx4.i (by omega) q)) (fun _ _ => Gr4) hn4 hc4)
set_option maxRecDepth 20000 in
theorem t_X5_readSlot {g : fGP} {d : Nat} {σ : fAH} {Q : fRes → fAH → Prop} {B : Nat → Nat} {n : Nat} {D : fSD} {s : fP} {c9 : Nat} (Ms : fMs g σ) (hB : ∀ i, i < 600 → fI σ 1 i = sb (B i) ∧ B i < 256) (hn : fI σ 8 2 = nI n) (hn6 : n ≤ 600) (hc : fI σ 8 4 = nI c9) (Gr : fGr σ 9 D) (hD : fWD D) (hs : fPs σ 8 3 n s) (hfl : dT D 1 < 12) (h : ∀ σ', fSm fRdA σ σ' → fPs σ' 8 3 n (mns B n 1 D s).1 → (∀ e, (mns B n 1 D s).1 = .inr e → fGr σ' 9 (mns B n 1 D s).2) → fI σ' 8 2 = nI n → fI σ' 8 4 = nI c9 → Q (.inl none) σ') : fEv g (d + 2) mX5_readSlot 0 (fent [.ref 8] 8) [] σ Q := by
  obtain ⟨t0, t1, t2, t3, t4, t5, t6⟩ := id hD.1
  show fEv g (d + 2) mX5_readSlot 0 [some (.ref 8), none, none, none, none, none, none, none] [] σ Q
  refine e_aload_n dX5_readSlot_0 rfl rfl ?_
  refine e_iconst (nI 0) dX5_readSlot_1 (by decide) ?_
  refine e_aload_n dX5_readSlot_2 rfl rfl ?_
  refine e_getR (q := 9) dX5_readSlot_3 fl_RX5_12 (Ms.s 8 rfl) (Ms.n (by decide)) rfl (Ms.r 8 1 rfl) (by unfold fscr; omega) ?_
  refine e_getI dX5_readSlot_6 fl_RX5_98 (Ms.s 9 rfl) (Ms.n (by decide)) rfl ?_
  refine e_int (nI (dT D 0)) Gr.1.1 ?_
  refine e_iconst (nI 1) dX5_readSlot_9 (by decide) ?_
  refine e_isub dX5_readSlot_10 ?_
  refine e_callV (k := 8) [.int (nI 0), .int ((nI (dT D 0)) - (nI 1))] dX5_readSlot_11 cc_X5_readNumber lk_RX5_122 im_X5_readNumber se_X5_readNumber (by decide) (Ms.s 8 rfl) (Ms.n (by decide)) rfl (Nat.le_of_ble_eq_true rfl) (Nat.le_of_ble_eq_true rfl) ?_
  refine t_X5_readNumber (B := B) (n := n) (s := s) (lo := 0) (hi1 := dT D 0) Ms hB hn hn6 hs (by decide) (fun _ _ => by omega) (fun _ _ => hl_s (by omega)) (fun σ1 Smx1 hs1 hk1 => ?_)
  show fEv g _ mX5_readSlot 14 [some (.ref 8), none, none, none, none, none, none, none] [.int (nI (mnv B n 0 (dT D 0) 0 s))] σ1 Q
  have Sm1 : fSm fRdA σ σ1 := (Smx1.to (fun a (q : a = 8) => (by omega : 8 ≤ a ∧ a < 15)))
  have Ms1 := Ms.sm Sm1
  have hB1 : ∀ i, i < 600 → fI σ1 1 i = sb (B i) ∧ B i < 256 := fun i hi => ⟨(Sm1.i (by unfold fRdA; omega) i).trans (hB i hi).1, (hB i hi).2⟩
  have hn1 := (hk1 2 (by decide) (by decide) (by decide)).trans hn
  have hc1 := (hk1 4 (by decide) (by decide) (by decide)).trans hc
  have Gr1 := Gr.sm Smx1 (fun i hi (q : 9 + i = 8) => by omega)
  refine e_istore_n (L1 := [some (.ref 8), some (.int (nI (mnv B n 0 (dT D 0) 0 s))), none, none, none, none, none, none]) dX5_readSlot_14 rfl (by decide) rfl ?_
  refine e_aload_n dX5_readSlot_15 rfl rfl ?_
  refine e_iconst (nI 0) dX5_readSlot_16 (by decide) ?_
  refine e_iconst (nI 1) dX5_readSlot_17 (by decide) ?_
  refine e_callV (k := 8) [.int (nI 0), .int (nI 1)] dX5_readSlot_18 cc_X5_readNumber lk_RX5_122 im_X5_readNumber se_X5_readNumber (by decide) (Ms1.s 8 rfl) (Ms1.n (by decide)) rfl (Nat.le_of_ble_eq_true rfl) (Nat.le_of_ble_eq_true rfl) ?_
  refine t_X5_readNumber (B := B) (n := n) (s := mnum B n 0 (dT D 0) s) (lo := 0) (hi1 := 2) Ms1 hB1 hn1 hn6 hs1 (by decide) (fun _ _ => by omega) (fun _ _ => hl_n (by decide)) (fun σ2 Smx2 hs2 hk2 => ?_)
  show fEv g _ mX5_readSlot 21 [some (.ref 8), some (.int (nI (mnv B n 0 (dT D 0) 0 s))), none, none, none, none, none, none] [.int (nI (mnv B n 0 2 0 (mnum B n 0 (dT D 0) s)))] σ2 Q
  have Sm2 : fSm fRdA σ σ2 := Sm1.tr (Smx2.to (fun a (q : a = 8) => (by omega : 8 ≤ a ∧ a < 15)))
  have Ms2 := Ms.sm Sm2
  have hB2 : ∀ i, i < 600 → fI σ2 1 i = sb (B i) ∧ B i < 256 := fun i hi => ⟨(Sm2.i (by unfold fRdA; omega) i).trans (hB i hi).1, (hB i hi).2⟩
  have hn2 := (hk2 2 (by decide) (by decide) (by decide)).trans hn1
  have hc2 := (hk2 4 (by decide) (by decide) (by decide)).trans hc1
  have Gr2 := Gr1.sm Smx2 (fun i hi (q : 9 + i = 8) => by omega)
  refine e_istore_n (L1 := [some (.ref 8), some (.int (nI (mnv B n 0 (dT D 0) 0 s))), some (.int (nI (mnv B n 0 2 0 (mnum B n 0 (dT D 0) s)))), none, none, none, none, none]) dX5_readSlot_21 rfl (by decide) rfl ?_
  have vb : mnv B n 0 (dT D 0) 0 s < 6 := by rcases mnv_b (B := B) (n := n) (lo := 0) (hi := dT D 0) (d := 0) (s := s) with q | q <;> omega
  have vb1 : mnv B n 0 2 0 (mnum B n 0 (dT D 0) s) < 2 := by rcases mnv_b (B := B) (n := n) (lo := 0) (hi := 2) (d := 0) (s := mnum B n 0 (dT D 0) s) with q | q <;> omega
  refine e_aload_n dX5_readSlot_22 rfl rfl ?_
  refine e_getR (q := 9) dX5_readSlot_23 fl_RX5_12 (Ms2.s 8 rfl) (Ms2.n (by decide)) rfl (Ms2.r 8 1 rfl) (by unfold fscr; omega) ?_
  refine e_getR (q := 10) dX5_readSlot_26 fl_RX5_135 (Ms2.s 9 rfl) (Ms2.n (by decide)) rfl (Ms2.r 9 0 rfl) (by unfold fscr; omega) ?_
  refine e_iload_n dX5_readSlot_29 rfl rfl ?_
  refine e_iconst (nI 3) dX5_readSlot_30 (by decide) ?_
  refine e_imul dX5_readSlot_31 ?_
  refine e_int (nI ((mnv B n 0 (dT D 0) 0 s) * 3)) (pk_mul (mnv B n 0 (dT D 0) 0 s) 3) ?_
  refine e_iconst (nI 0) dX5_readSlot_32 (by decide) ?_
  refine e_iadd dX5_readSlot_33 ?_
  refine e_int (nI ((mnv B n 0 (dT D 0) 0 s) * 3)) (nI_add ((mnv B n 0 (dT D 0) 0 s) * 3) 0) ?_
  refine e_iaload ((mnv B n 0 (dT D 0) 0 s) * 3) dX5_readSlot_34 (Ms2.s 10 rfl) (Ms2.n (by decide)) rfl (by omega) (by decide) ?_
  refine e_istore_n (L1 := [some (.ref 8), some (.int (nI (mnv B n 0 (dT D 0) 0 s))), some (.int (nI (mnv B n 0 2 0 (mnum B n 0 (dT D 0) s)))), some (.int (fI σ2 10 ((mnv B n 0 (dT D 0) 0 s) * 3))), none, none, none, none]) dX5_readSlot_35 rfl (by decide) rfl ?_
  refine e_aload_n dX5_readSlot_36 rfl rfl ?_
  refine e_getR (q := 9) dX5_readSlot_37 fl_RX5_12 (Ms2.s 8 rfl) (Ms2.n (by decide)) rfl (Ms2.r 8 1 rfl) (by unfold fscr; omega) ?_
  refine e_getR (q := 10) dX5_readSlot_40 fl_RX5_135 (Ms2.s 9 rfl) (Ms2.n (by decide)) rfl (Ms2.r 9 0 rfl) (by unfold fscr; omega) ?_
  refine e_iload_n dX5_readSlot_43 rfl rfl ?_
  refine e_iconst (nI 3) dX5_readSlot_44 (by decide) ?_
  refine e_imul dX5_readSlot_45 ?_
  refine e_int (nI ((mnv B n 0 (dT D 0) 0 s) * 3)) (pk_mul (mnv B n 0 (dT D 0) 0 s) 3) ?_
  refine e_iconst (nI 1) dX5_readSlot_46 (by decide) ?_
  refine e_iadd dX5_readSlot_47 ?_
  refine e_int (nI ((mnv B n 0 (dT D 0) 0 s) * 3 + 1)) (nI_add ((mnv B n 0 (dT D 0) 0 s) * 3) 1) ?_
  refine e_iaload ((mnv B n 0 (dT D 0) 0 s) * 3 + 1) dX5_readSlot_48 (Ms2.s 10 rfl) (Ms2.n (by decide)) rfl (by omega) (by decide) ?_
  refine e_istore (L1 := [some (.ref 8), some (.int (nI (mnv B n 0 (dT D 0) 0 s))), some (.int (nI (mnv B n 0 2 0 (mnum B n 0 (dT D 0) s)))), some (.int (fI σ2 10 ((mnv B n 0 (dT D 0) 0 s) * 3))), some (.int (fI σ2 10 ((mnv B n 0 (dT D 0) 0 s) * 3 + 1))), none, none, none]) dX5_readSlot_49 (by decide) rfl ?_
  refine e_aload_n dX5_readSlot_51 rfl rfl ?_
  refine e_iconst (nI 1) dX5_readSlot_52 (by decide) ?_
  refine e_iload_n dX5_readSlot_53 rfl rfl ?_
  refine e_if_ne 61 dX5_readSlot_54 (by decide) (fun c54 => ?_) (fun c54 => ?_)
  · rw [nI_z (by omega)] at c54
    refine e_iload dX5_readSlot_61 rfl ?_
    refine e_iconst (nI 1) dX5_readSlot_63 (by decide) ?_
    refine e_isub dX5_readSlot_64 ?_
    have hl3 : ∀ a, mnum B n 0 2 (mnum B n 0 (dT D 0) s) = .inr a → ∀ v, v < 100000 → (nI v ≤ (fI σ2 10 ((mnv B n 0 (dT D 0) 0 s) * 3 + 1)) - (nI 1) ↔ v < dB D (mnv B n 0 (dT D 0) 0 s) (mnv B n 0 2 0 (mnum B n 0 (dT D 0) s))) := by
      intro a q v hv
      obtain ⟨a2, r2, -, w2, l2, u2⟩ := mnum_ok q
      obtain ⟨a1, r1, -, w1, l1, u1⟩ := mnum_ok r2
      have hv0 : mnv B n 0 (dT D 0) 0 s < dT D 0 := by rw [w1 0]; exact u1
      have hv1 : mnv B n 0 2 0 (mnum B n 0 (dT D 0) s) < 2 := by rw [w2 0]; exact u2
      have bb := hD.2.1 _ hv0
      have ew : (mnv B n 0 2 0 (mnum B n 0 (dT D 0) s)) = 1 := by omega
      rw [ew, show (fI σ2 10 ((mnv B n 0 (dT D 0) 0 s) * 3 + 1)) = nI (dB D (mnv B n 0 (dT D 0) 0 s) 1) from Gr2.2.1 _ hv0 1 (by decide)]
      exact hl_s (by omega) v hv
    have hh3 : ∀ a, mnum B n 0 2 (mnum B n 0 (dT D 0) s) = .inr a → dB D (mnv B n 0 (dT D 0) 0 s) (mnv B n 0 2 0 (mnum B n 0 (dT D 0) s)) ≤ 1000 := by
      intro a q
      obtain ⟨a2, r2, -, w2, l2, u2⟩ := mnum_ok q
      obtain ⟨a1, r1, -, w1, l1, u1⟩ := mnum_ok r2
      have hv0 : mnv B n 0 (dT D 0) 0 s < dT D 0 := by rw [w1 0]; exact u1
      have hv1 : mnv B n 0 2 0 (mnum B n 0 (dT D 0) s) < 2 := by rw [w2 0]; exact u2
      have bb := hD.2.1 _ hv0
      have ew : (mnv B n 0 2 0 (mnum B n 0 (dT D 0) s)) = 1 := by omega
      rw [ew]
      omega
    refine e_callV (k := 8) [.int (nI 1), .int ((fI σ2 10 ((mnv B n 0 (dT D 0) 0 s) * 3 + 1)) - (nI 1))] dX5_readSlot_65 cc_X5_readNumber lk_RX5_122 im_X5_readNumber se_X5_readNumber (by decide) (Ms2.s 8 rfl) (Ms2.n (by decide)) rfl (Nat.le_of_ble_eq_true rfl) (Nat.le_of_ble_eq_true rfl) ?_
    refine t_X5_readNumber (B := B) (n := n) (s := mnum B n 0 2 (mnum B n 0 (dT D 0) s)) (lo := 1) (hi1 := dB D (mnv B n 0 (dT D 0) 0 s) (mnv B n 0 2 0 (mnum B n 0 (dT D 0) s))) Ms2 hB2 hn2 hn6 hs2 (by decide) hh3 hl3 (fun σ3 Smx3 hs3 hk3 => ?_)
    show fEv g _ mX5_readSlot 68 [some (.ref 8), some (.int (nI (mnv B n 0 (dT D 0) 0 s))), some (.int (nI (mnv B n 0 2 0 (mnum B n 0 (dT D 0) s)))), some (.int (fI σ2 10 ((mnv B n 0 (dT D 0) 0 s) * 3))), some (.int (fI σ2 10 ((mnv B n 0 (dT D 0) 0 s) * 3 + 1))), none, none, none] [.int (nI (mnv B n 1 (dB D (mnv B n 0 (dT D 0) 0 s) (mnv B n 0 2 0 (mnum B n 0 (dT D 0) s))) 1 (mnum B n 0 2 (mnum B n 0 (dT D 0) s))))] σ3 Q
    have Sm3 : fSm fRdA σ σ3 := Sm2.tr (Smx3.to (fun a (q : a = 8) => (by omega : 8 ≤ a ∧ a < 15)))
    have Ms3 := Ms.sm Sm3
    have hB3 : ∀ i, i < 600 → fI σ3 1 i = sb (B i) ∧ B i < 256 := fun i hi => ⟨(Sm3.i (by unfold fRdA; omega) i).trans (hB i hi).1, (hB i hi).2⟩
    have hn3 := (hk3 2 (by decide) (by decide) (by decide)).trans hn2
    have hc3 := (hk3 4 (by decide) (by decide) (by decide)).trans hc2
    have Gr3 := Gr2.sm Smx3 (fun i hi (q : 9 + i = 8) => by omega)
    refine e_istore (L1 := [some (.ref 8), some (.int (nI (mnv B n 0 (dT D 0) 0 s))), some (.int (nI (mnv B n 0 2 0 (mnum B n 0 (dT D 0) s)))), some (.int (fI σ2 10 ((mnv B n 0 (dT D 0) 0 s) * 3))), some (.int (fI σ2 10 ((mnv B n 0 (dT D 0) 0 s) * 3 + 1))), some (.int (nI (mnv B n 1 (dB D (mnv B n 0 (dT D 0) 0 s) (mnv B n 0 2 0 (mnum B n 0 (dT D 0) s))) 1 (mnum B n 0 2 (mnum B n 0 (dT D 0) s))))), none, none]) dX5_readSlot_68 (by decide) rfl ?_
    refine e_aload_n dX5_readSlot_70 rfl rfl ?_
    refine e_iconst (nI 0) dX5_readSlot_71 (by decide) ?_
    refine e_iload_n dX5_readSlot_72 rfl rfl ?_
    refine e_if_ne 81 dX5_readSlot_73 (by decide) (fun _ => ?_) (fun c => absurd ((nI_z (by omega)).mp c) c54)
    refine e_iload_n dX5_readSlot_81 rfl rfl ?_
    refine e_iconst (nI 1) dX5_readSlot_82 (by decide) ?_
    refine e_isub dX5_readSlot_83 ?_
    have hl4 : ∀ a, mnum B n 1 (dB D (mnv B n 0 (dT D 0) 0 s) (mnv B n 0 2 0 (mnum B n 0 (dT D 0) s))) (mnum B n 0 2 (mnum B n 0 (dT D 0) s)) = .inr a → ∀ v, v < 100000 → (nI v ≤ (fI σ2 10 ((mnv B n 0 (dT D 0) 0 s) * 3)) - (nI 1) ↔ v < dB D (mnv B n 0 (dT D 0) 0 s) (1 - mnv B n 0 2 0 (mnum B n 0 (dT D 0) s))) := by
      intro a q v hv
      obtain ⟨a3, r3, -, w3, l3, u3⟩ := mnum_ok q
      obtain ⟨a2, r2, -, w2, l2, u2⟩ := mnum_ok r3
      obtain ⟨a1, r1, -, w1, l1, u1⟩ := mnum_ok r2
      have hv0 : mnv B n 0 (dT D 0) 0 s < dT D 0 := by rw [w1 0]; exact u1
      have hv1 : mnv B n 0 2 0 (mnum B n 0 (dT D 0) s) < 2 := by rw [w2 0]; exact u2
      have bb := hD.2.1 _ hv0
      have ew : (1 - mnv B n 0 2 0 (mnum B n 0 (dT D 0) s)) = 0 := by omega
      rw [ew, show (fI σ2 10 ((mnv B n 0 (dT D 0) 0 s) * 3)) = nI (dB D (mnv B n 0 (dT D 0) 0 s) 0) from Gr2.2.1 _ hv0 0 (by decide)]
      exact hl_s (by omega) v hv
    have hh4 : ∀ a, mnum B n 1 (dB D (mnv B n 0 (dT D 0) 0 s) (mnv B n 0 2 0 (mnum B n 0 (dT D 0) s))) (mnum B n 0 2 (mnum B n 0 (dT D 0) s)) = .inr a → dB D (mnv B n 0 (dT D 0) 0 s) (1 - mnv B n 0 2 0 (mnum B n 0 (dT D 0) s)) ≤ 1000 := by
      intro a q
      obtain ⟨a3, r3, -, w3, l3, u3⟩ := mnum_ok q
      obtain ⟨a2, r2, -, w2, l2, u2⟩ := mnum_ok r3
      obtain ⟨a1, r1, -, w1, l1, u1⟩ := mnum_ok r2
      have hv0 : mnv B n 0 (dT D 0) 0 s < dT D 0 := by rw [w1 0]; exact u1
      have hv1 : mnv B n 0 2 0 (mnum B n 0 (dT D 0) s) < 2 := by rw [w2 0]; exact u2
      have bb := hD.2.1 _ hv0
      have ew : (1 - mnv B n 0 2 0 (mnum B n 0 (dT D 0) s)) = 0 := by omega
      rw [ew]
      omega
    refine e_callV (k := 8) [.int (nI 0), .int ((fI σ2 10 ((mnv B n 0 (dT D 0) 0 s) * 3)) - (nI 1))] dX5_readSlot_84 cc_X5_readNumber lk_RX5_122 im_X5_readNumber se_X5_readNumber (by decide) (Ms3.s 8 rfl) (Ms3.n (by decide)) rfl (Nat.le_of_ble_eq_true rfl) (Nat.le_of_ble_eq_true rfl) ?_
    refine t_X5_readNumber (B := B) (n := n) (s := mnum B n 1 (dB D (mnv B n 0 (dT D 0) 0 s) (mnv B n 0 2 0 (mnum B n 0 (dT D 0) s))) (mnum B n 0 2 (mnum B n 0 (dT D 0) s))) (lo := 0) (hi1 := dB D (mnv B n 0 (dT D 0) 0 s) (1 - mnv B n 0 2 0 (mnum B n 0 (dT D 0) s))) Ms3 hB3 hn3 hn6 hs3 (by decide) hh4 hl4 (fun σ4 Smx4 hs4 hk4 => ?_)
    show fEv g _ mX5_readSlot 87 [some (.ref 8), some (.int (nI (mnv B n 0 (dT D 0) 0 s))), some (.int (nI (mnv B n 0 2 0 (mnum B n 0 (dT D 0) s)))), some (.int (fI σ2 10 ((mnv B n 0 (dT D 0) 0 s) * 3))), some (.int (fI σ2 10 ((mnv B n 0 (dT D 0) 0 s) * 3 + 1))), some (.int (nI (mnv B n 1 (dB D (mnv B n 0 (dT D 0) 0 s) (mnv B n 0 2 0 (mnum B n 0 (dT D 0) s))) 1 (mnum B n 0 2 (mnum B n 0 (dT D 0) s))))), none, none] [.int (nI (mnv B n 0 (dB D (mnv B n 0 (dT D 0) 0 s) (1 - mnv B n 0 2 0 (mnum B n 0 (dT D 0) s))) 0 (mnum B n 1 (dB D (mnv B n 0 (dT D 0) 0 s) (mnv B n 0 2 0 (mnum B n 0 (dT D 0) s))) (mnum B n 0 2 (mnum B n 0 (dT D 0) s)))))] σ4 Q
    have Sm4 : fSm fRdA σ σ4 := Sm3.tr (Smx4.to (fun a (q : a = 8) => (by omega : 8 ≤ a ∧ a < 15)))
    have Ms4 := Ms.sm Sm4
    have hB4 : ∀ i, i < 600 → fI σ4 1 i = sb (B i) ∧ B i < 256 := fun i hi => ⟨(Sm4.i (by unfold fRdA; omega) i).trans (hB i hi).1, (hB i hi).2⟩
    have hn4 := (hk4 2 (by decide) (by decide) (by decide)).trans hn3
    have hc4 := (hk4 4 (by decide) (by decide) (by decide)).trans hc3
    have Gr4 := Gr3.sm Smx4 (fun i hi (q : 9 + i = 8) => by omega)
    refine e_istore (L1 := [some (.ref 8), some (.int (nI (mnv B n 0 (dT D 0) 0 s))), some (.int (nI (mnv B n 0 2 0 (mnum B n 0 (dT D 0) s)))), some (.int (fI σ2 10 ((mnv B n 0 (dT D 0) 0 s) * 3))), some (.int (fI σ2 10 ((mnv B n 0 (dT D 0) 0 s) * 3 + 1))), some (.int (nI (mnv B n 1 (dB D (mnv B n 0 (dT D 0) 0 s) (mnv B n 0 2 0 (mnum B n 0 (dT D 0) s))) 1 (mnum B n 0 2 (mnum B n 0 (dT D 0) s))))), some (.int (nI (mnv B n 0 (dB D (mnv B n 0 (dT D 0) 0 s) (1 - mnv B n 0 2 0 (mnum B n 0 (dT D 0) s))) 0 (mnum B n 1 (dB D (mnv B n 0 (dT D 0) 0 s) (mnv B n 0 2 0 (mnum B n 0 (dT D 0) s))) (mnum B n 0 2 (mnum B n 0 (dT D 0) s)))))), none]) dX5_readSlot_87 (by decide) rfl ?_
    refine e_aload_n dX5_readSlot_89 rfl rfl ?_
    refine e_iconst (nI 1) dX5_readSlot_90 (by decide) ?_
    refine e_bipush (nI 9) dX5_readSlot_91 (by decide) ?_
    refine e_callV (k := 8) [.int (nI 1), .int (nI 9)] dX5_readSlot_93 cc_X5_readNumber lk_RX5_122 im_X5_readNumber se_X5_readNumber (by decide) (Ms4.s 8 rfl) (Ms4.n (by decide)) rfl (Nat.le_of_ble_eq_true rfl) (Nat.le_of_ble_eq_true rfl) ?_
    refine t_X5_readNumber (B := B) (n := n) (s := mnum B n 0 (dB D (mnv B n 0 (dT D 0) 0 s) (1 - mnv B n 0 2 0 (mnum B n 0 (dT D 0) s))) (mnum B n 1 (dB D (mnv B n 0 (dT D 0) 0 s) (mnv B n 0 2 0 (mnum B n 0 (dT D 0) s))) (mnum B n 0 2 (mnum B n 0 (dT D 0) s)))) (lo := 1) (hi1 := 10) Ms4 hB4 hn4 hn6 hs4 (by decide) (fun _ _ => by omega) (fun _ _ => hl_n (by decide)) (fun σ5 Smx5 hs5 hk5 => ?_)
    show fEv g _ mX5_readSlot 96 [some (.ref 8), some (.int (nI (mnv B n 0 (dT D 0) 0 s))), some (.int (nI (mnv B n 0 2 0 (mnum B n 0 (dT D 0) s)))), some (.int (fI σ2 10 ((mnv B n 0 (dT D 0) 0 s) * 3))), some (.int (fI σ2 10 ((mnv B n 0 (dT D 0) 0 s) * 3 + 1))), some (.int (nI (mnv B n 1 (dB D (mnv B n 0 (dT D 0) 0 s) (mnv B n 0 2 0 (mnum B n 0 (dT D 0) s))) 1 (mnum B n 0 2 (mnum B n 0 (dT D 0) s))))), some (.int (nI (mnv B n 0 (dB D (mnv B n 0 (dT D 0) 0 s) (1 - mnv B n 0 2 0 (mnum B n 0 (dT D 0) s))) 0 (mnum B n 1 (dB D (mnv B n 0 (dT D 0) 0 s) (mnv B n 0 2 0 (mnum B n 0 (dT D 0) s))) (mnum B n 0 2 (mnum B n 0 (dT D 0) s)))))), none] [.int (nI (mnv B n 1 10 1 (mnum B n 0 (dB D (mnv B n 0 (dT D 0) 0 s) (1 - mnv B n 0 2 0 (mnum B n 0 (dT D 0) s))) (mnum B n 1 (dB D (mnv B n 0 (dT D 0) 0 s) (mnv B n 0 2 0 (mnum B n 0 (dT D 0) s))) (mnum B n 0 2 (mnum B n 0 (dT D 0) s))))))] σ5 Q
    have Sm5 : fSm fRdA σ σ5 := Sm4.tr (Smx5.to (fun a (q : a = 8) => (by omega : 8 ≤ a ∧ a < 15)))
    have Ms5 := Ms.sm Sm5
    have hB5 : ∀ i, i < 600 → fI σ5 1 i = sb (B i) ∧ B i < 256 := fun i hi => ⟨(Sm5.i (by unfold fRdA; omega) i).trans (hB i hi).1, (hB i hi).2⟩
    have hn5 := (hk5 2 (by decide) (by decide) (by decide)).trans hn4
    have hc5 := (hk5 4 (by decide) (by decide) (by decide)).trans hc4
    have Gr5 := Gr4.sm Smx5 (fun i hi (q : 9 + i = 8) => by omega)
    refine e_istore (L1 := [some (.ref 8), some (.int (nI (mnv B n 0 (dT D 0) 0 s))), some (.int (nI (mnv B n 0 2 0 (mnum B n 0 (dT D 0) s)))), some (.int (fI σ2 10 ((mnv B n 0 (dT D 0) 0 s) * 3))), some (.int (fI σ2 10 ((mnv B n 0 (dT D 0) 0 s) * 3 + 1))), some (.int (nI (mnv B n 1 (dB D (mnv B n 0 (dT D 0) 0 s) (mnv B n 0 2 0 (mnum B n 0 (dT D 0) s))) 1 (mnum B n 0 2 (mnum B n 0 (dT D 0) s))))), some (.int (nI (mnv B n 0 (dB D (mnv B n 0 (dT D 0) 0 s) (1 - mnv B n 0 2 0 (mnum B n 0 (dT D 0) s))) 0 (mnum B n 1 (dB D (mnv B n 0 (dT D 0) 0 s) (mnv B n 0 2 0 (mnum B n 0 (dT D 0) s))) (mnum B n 0 2 (mnum B n 0 (dT D 0) s)))))), some (.int (nI (mnv B n 1 10 1 (mnum B n 0 (dB D (mnv B n 0 (dT D 0) 0 s) (1 - mnv B n 0 2 0 (mnum B n 0 (dT D 0) s))) (mnum B n 1 (dB D (mnv B n 0 (dT D 0) 0 s) (mnv B n 0 2 0 (mnum B n 0 (dT D 0) s))) (mnum B n 0 2 (mnum B n 0 (dT D 0) s)))))))]) dX5_readSlot_96 (by decide) rfl ?_
    have e0 : (mns B n 1 D s).1 = mnum B n 1 10 (mnum B n 0 (dB D (mnv B n 0 (dT D 0) 0 s) (1 - mnv B n 0 2 0 (mnum B n 0 (dT D 0) s))) (mnum B n 1 (dB D (mnv B n 0 (dT D 0) 0 s) (mnv B n 0 2 0 (mnum B n 0 (dT D 0) s))) (mnum B n 0 2 (mnum B n 0 (dT D 0) s)))) := rfl
    cases q9 : mnum B n 1 10 (mnum B n 0 (dB D (mnv B n 0 (dT D 0) 0 s) (1 - mnv B n 0 2 0 (mnum B n 0 (dT D 0) s))) (mnum B n 1 (dB D (mnv B n 0 (dT D 0) 0 s) (mnv B n 0 2 0 (mnum B n 0 (dT D 0) s))) (mnum B n 0 2 (mnum B n 0 (dT D 0) s)))) with
    | inl x =>
      rw [q9] at hs5 e0
      have hs5 : fI σ5 8 5 = nI x.1 ∧ fI σ5 8 6 = nI x.2 ∧ 1 ≤ x.1 ∧ x.1 ≤ 3 ∧ x.2 ≤ n ∧ ∃ a9, a9 ≤ n ∧ fI σ5 8 3 = nI a9 := hs5
      rw [e0] at h
      refine e_aload_n dX5_readSlot_98 rfl rfl ?_
      refine e_getI dX5_readSlot_99 fl_RX5_28 (Ms5.s 8 rfl) (Ms5.n (by decide)) rfl ?_
      refine e_int (nI x.1) hs5.1 ?_
      refine e_if_ne 120 dX5_readSlot_102 (by decide) (fun _ => ?_) (fun c => absurd ((nI_z (by omega)).mp c) (by omega))
      exact e_return dX5_readSlot_120 rfl (h _ Sm5 hs5 (fun e q => by cases q) hn5 hc5)
    | inr e =>
      rw [q9] at hs5 e0
      have hz5 : fI σ5 8 5 = nI 0 := (show e ≤ n ∧ fI σ5 8 3 = nI e ∧ fI σ5 8 5 = nI 0 ∧ fI σ5 8 6 = -1 from hs5).2.2.1
      obtain ⟨a5, r5, -, w5, l5, u5⟩ := mnum_ok q9
      have v5 := (w5 1).trans (w5 0).symm
      have b5 : 1 ≤ mnv B n 1 10 1 (mnum B n 0 (dB D (mnv B n 0 (dT D 0) 0 s) (1 - mnv B n 0 2 0 (mnum B n 0 (dT D 0) s))) (mnum B n 1 (dB D (mnv B n 0 (dT D 0) 0 s) (mnv B n 0 2 0 (mnum B n 0 (dT D 0) s))) (mnum B n 0 2 (mnum B n 0 (dT D 0) s)))) ∧ mnv B n 1 10 1 (mnum B n 0 (dB D (mnv B n 0 (dT D 0) 0 s) (1 - mnv B n 0 2 0 (mnum B n 0 (dT D 0) s))) (mnum B n 1 (dB D (mnv B n 0 (dT D 0) 0 s) (mnv B n 0 2 0 (mnum B n 0 (dT D 0) s))) (mnum B n 0 2 (mnum B n 0 (dT D 0) s)))) < 10 := by rw [w5 1]; exact ⟨l5, u5⟩
      obtain ⟨a4, r4, -, w4, l4, u4⟩ := mnum_ok r5
      have v4 := (w4 0).trans (w4 0).symm
      have b4 : 0 ≤ mnv B n 0 (dB D (mnv B n 0 (dT D 0) 0 s) (1 - mnv B n 0 2 0 (mnum B n 0 (dT D 0) s))) 0 (mnum B n 1 (dB D (mnv B n 0 (dT D 0) 0 s) (mnv B n 0 2 0 (mnum B n 0 (dT D 0) s))) (mnum B n 0 2 (mnum B n 0 (dT D 0) s))) ∧ mnv B n 0 (dB D (mnv B n 0 (dT D 0) 0 s) (1 - mnv B n 0 2 0 (mnum B n 0 (dT D 0) s))) 0 (mnum B n 1 (dB D (mnv B n 0 (dT D 0) 0 s) (mnv B n 0 2 0 (mnum B n 0 (dT D 0) s))) (mnum B n 0 2 (mnum B n 0 (dT D 0) s))) < dB D (mnv B n 0 (dT D 0) 0 s) (1 - mnv B n 0 2 0 (mnum B n 0 (dT D 0) s)) := by rw [w4 0]; exact ⟨l4, u4⟩
      obtain ⟨a3, r3, -, w3, l3, u3⟩ := mnum_ok r4
      have v3 := (w3 1).trans (w3 0).symm
      have b3 : 1 ≤ mnv B n 1 (dB D (mnv B n 0 (dT D 0) 0 s) (mnv B n 0 2 0 (mnum B n 0 (dT D 0) s))) 1 (mnum B n 0 2 (mnum B n 0 (dT D 0) s)) ∧ mnv B n 1 (dB D (mnv B n 0 (dT D 0) 0 s) (mnv B n 0 2 0 (mnum B n 0 (dT D 0) s))) 1 (mnum B n 0 2 (mnum B n 0 (dT D 0) s)) < dB D (mnv B n 0 (dT D 0) 0 s) (mnv B n 0 2 0 (mnum B n 0 (dT D 0) s)) := by rw [w3 1]; exact ⟨l3, u3⟩
      obtain ⟨a2, r2, -, w2, l2, u2⟩ := mnum_ok r3
      have v2 := (w2 0).trans (w2 0).symm
      have b2 : 0 ≤ mnv B n 0 2 0 (mnum B n 0 (dT D 0) s) ∧ mnv B n 0 2 0 (mnum B n 0 (dT D 0) s) < 2 := by rw [w2 0]; exact ⟨l2, u2⟩
      obtain ⟨a1, r1, -, w1, l1, u1⟩ := mnum_ok r2
      have v1 := (w1 0).trans (w1 0).symm
      have b1 : 0 ≤ mnv B n 0 (dT D 0) 0 s ∧ mnv B n 0 (dT D 0) 0 s < dT D 0 := by rw [w1 0]; exact ⟨l1, u1⟩
      refine e_aload_n dX5_readSlot_98 rfl rfl ?_
      refine e_getI dX5_readSlot_99 fl_RX5_28 (Ms5.s 8 rfl) (Ms5.n (by decide)) rfl ?_
      refine e_int (nI 0) hz5 ?_
      refine e_if_ne 120 dX5_readSlot_102 (by decide) (fun c => absurd rfl c) (fun _ => ?_)
      refine e_aload_n dX5_readSlot_105 rfl rfl ?_
      refine e_getR (q := 9) dX5_readSlot_106 fl_RX5_12 (Ms5.s 8 rfl) (Ms5.n (by decide)) rfl (Ms5.r 8 1 rfl) (by unfold fscr; omega) ?_
      refine e_iload_n dX5_readSlot_109 rfl rfl ?_
      refine e_iload_n dX5_readSlot_110 rfl rfl ?_
      refine e_iload dX5_readSlot_111 rfl ?_
      refine e_iload dX5_readSlot_113 rfl ?_
      refine e_iload dX5_readSlot_115 rfl ?_
      refine e_callV (k := 9) [.int (nI (mnv B n 0 (dT D 0) 0 s)), .int (nI (mnv B n 0 2 0 (mnum B n 0 (dT D 0) s))), .int (nI (mnv B n 1 (dB D (mnv B n 0 (dT D 0) 0 s) (mnv B n 0 2 0 (mnum B n 0 (dT D 0) s))) 1 (mnum B n 0 2 (mnum B n 0 (dT D 0) s)))), .int (nI (mnv B n 0 (dB D (mnv B n 0 (dT D 0) 0 s) (1 - mnv B n 0 2 0 (mnum B n 0 (dT D 0) s))) 0 (mnum B n 1 (dB D (mnv B n 0 (dT D 0) 0 s) (mnv B n 0 2 0 (mnum B n 0 (dT D 0) s))) (mnum B n 0 2 (mnum B n 0 (dT D 0) s))))), .int (nI (mnv B n 1 10 1 (mnum B n 0 (dB D (mnv B n 0 (dT D 0) 0 s) (1 - mnv B n 0 2 0 (mnum B n 0 (dT D 0) s))) (mnum B n 1 (dB D (mnv B n 0 (dT D 0) 0 s) (mnv B n 0 2 0 (mnum B n 0 (dT D 0) s))) (mnum B n 0 2 (mnum B n 0 (dT D 0) s))))))] dX5_readSlot_117 cc_X3_addSlot lk_RX5_139 im_X3_addSlot se_X3_addSlot (by decide) (Ms5.s 9 rfl) (Ms5.n (by decide)) rfl (Nat.le_of_ble_eq_true rfl) (Nat.le_of_ble_eq_true rfl) ?_
      refine t_X3_addSlot Ms5 Gr5 hfl (fun σ6 Smx6 Gr6 => ?_)
      show fEv g _ mX5_readSlot 120 [some (.ref 8), some (.int (nI (mnv B n 0 (dT D 0) 0 s))), some (.int (nI (mnv B n 0 2 0 (mnum B n 0 (dT D 0) s)))), some (.int (fI σ2 10 ((mnv B n 0 (dT D 0) 0 s) * 3))), some (.int (fI σ2 10 ((mnv B n 0 (dT D 0) 0 s) * 3 + 1))), some (.int (nI (mnv B n 1 (dB D (mnv B n 0 (dT D 0) 0 s) (mnv B n 0 2 0 (mnum B n 0 (dT D 0) s))) 1 (mnum B n 0 2 (mnum B n 0 (dT D 0) s))))), some (.int (nI (mnv B n 0 (dB D (mnv B n 0 (dT D 0) 0 s) (1 - mnv B n 0 2 0 (mnum B n 0 (dT D 0) s))) 0 (mnum B n 1 (dB D (mnv B n 0 (dT D 0) 0 s) (mnv B n 0 2 0 (mnum B n 0 (dT D 0) s))) (mnum B n 0 2 (mnum B n 0 (dT D 0) s)))))), some (.int (nI (mnv B n 1 10 1 (mnum B n 0 (dB D (mnv B n 0 (dT D 0) 0 s) (1 - mnv B n 0 2 0 (mnum B n 0 (dT D 0) s))) (mnum B n 1 (dB D (mnv B n 0 (dT D 0) 0 s) (mnv B n 0 2 0 (mnum B n 0 (dT D 0) s))) (mnum B n 0 2 (mnum B n 0 (dT D 0) s)))))))] [] σ6 Q
      have Sm6 : fSm fRdA σ σ6 := Sm5.tr (Smx6.to (fun a (q : 9 ≤ a ∧ a < 15) => (by omega : 8 ≤ a ∧ a < 15)))
      have Ms6 := Ms.sm Sm6
      have hB6 : ∀ i, i < 600 → fI σ6 1 i = sb (B i) ∧ B i < 256 := fun i hi => ⟨(Sm6.i (by unfold fRdA; omega) i).trans (hB i hi).1, (hB i hi).2⟩
      have hn6 := (Smx6.i (by omega) 2).trans hn5
      have hc6 := (Smx6.i (by omega) 4).trans hc5
      rw [v5, v3] at Gr6
      exact e_return dX5_readSlot_120 rfl (h _ Sm6 (by rw [e0]; exact hs5.sm (fun q => Smx6.i (by omega) q)) (fun _ _ => Gr6) hn6 hc6)
  · rw [nI_z (by omega)] at c54
    refine e_iload_n dX5_readSlot_57 rfl rfl ?_
    refine e_goto 63 dX5_readSlot_58 (by decide) ?_
    refine e_iconst (nI 1) dX5_readSlot_63 (by decide) ?_
    refine e_isub dX5_readSlot_64 ?_
    have hl3 : ∀ a, mnum B n 0 2 (mnum B n 0 (dT D 0) s) = .inr a → ∀ v, v < 100000 → (nI v ≤ (fI σ2 10 ((mnv B n 0 (dT D 0) 0 s) * 3)) - (nI 1) ↔ v < dB D (mnv B n 0 (dT D 0) 0 s) (mnv B n 0 2 0 (mnum B n 0 (dT D 0) s))) := by
      intro a q v hv
      obtain ⟨a2, r2, -, w2, l2, u2⟩ := mnum_ok q
      obtain ⟨a1, r1, -, w1, l1, u1⟩ := mnum_ok r2
      have hv0 : mnv B n 0 (dT D 0) 0 s < dT D 0 := by rw [w1 0]; exact u1
      have hv1 : mnv B n 0 2 0 (mnum B n 0 (dT D 0) s) < 2 := by rw [w2 0]; exact u2
      have bb := hD.2.1 _ hv0
      have ew : (mnv B n 0 2 0 (mnum B n 0 (dT D 0) s)) = 0 := by omega
      rw [ew, show (fI σ2 10 ((mnv B n 0 (dT D 0) 0 s) * 3)) = nI (dB D (mnv B n 0 (dT D 0) 0 s) 0) from Gr2.2.1 _ hv0 0 (by decide)]
      exact hl_s (by omega) v hv
    have hh3 : ∀ a, mnum B n 0 2 (mnum B n 0 (dT D 0) s) = .inr a → dB D (mnv B n 0 (dT D 0) 0 s) (mnv B n 0 2 0 (mnum B n 0 (dT D 0) s)) ≤ 1000 := by
      intro a q
      obtain ⟨a2, r2, -, w2, l2, u2⟩ := mnum_ok q
      obtain ⟨a1, r1, -, w1, l1, u1⟩ := mnum_ok r2
      have hv0 : mnv B n 0 (dT D 0) 0 s < dT D 0 := by rw [w1 0]; exact u1
      have hv1 : mnv B n 0 2 0 (mnum B n 0 (dT D 0) s) < 2 := by rw [w2 0]; exact u2
      have bb := hD.2.1 _ hv0
      have ew : (mnv B n 0 2 0 (mnum B n 0 (dT D 0) s)) = 0 := by omega
      rw [ew]
      omega
    refine e_callV (k := 8) [.int (nI 1), .int ((fI σ2 10 ((mnv B n 0 (dT D 0) 0 s) * 3)) - (nI 1))] dX5_readSlot_65 cc_X5_readNumber lk_RX5_122 im_X5_readNumber se_X5_readNumber (by decide) (Ms2.s 8 rfl) (Ms2.n (by decide)) rfl (Nat.le_of_ble_eq_true rfl) (Nat.le_of_ble_eq_true rfl) ?_
    refine t_X5_readNumber (B := B) (n := n) (s := mnum B n 0 2 (mnum B n 0 (dT D 0) s)) (lo := 1) (hi1 := dB D (mnv B n 0 (dT D 0) 0 s) (mnv B n 0 2 0 (mnum B n 0 (dT D 0) s))) Ms2 hB2 hn2 hn6 hs2 (by decide) hh3 hl3 (fun σ7 Smx7 hs7 hk7 => ?_)
    show fEv g _ mX5_readSlot 68 [some (.ref 8), some (.int (nI (mnv B n 0 (dT D 0) 0 s))), some (.int (nI (mnv B n 0 2 0 (mnum B n 0 (dT D 0) s)))), some (.int (fI σ2 10 ((mnv B n 0 (dT D 0) 0 s) * 3))), some (.int (fI σ2 10 ((mnv B n 0 (dT D 0) 0 s) * 3 + 1))), none, none, none] [.int (nI (mnv B n 1 (dB D (mnv B n 0 (dT D 0) 0 s) (mnv B n 0 2 0 (mnum B n 0 (dT D 0) s))) 1 (mnum B n 0 2 (mnum B n 0 (dT D 0) s))))] σ7 Q
    have Sm7 : fSm fRdA σ σ7 := Sm2.tr (Smx7.to (fun a (q : a = 8) => (by omega : 8 ≤ a ∧ a < 15)))
    have Ms7 := Ms.sm Sm7
    have hB7 : ∀ i, i < 600 → fI σ7 1 i = sb (B i) ∧ B i < 256 := fun i hi => ⟨(Sm7.i (by unfold fRdA; omega) i).trans (hB i hi).1, (hB i hi).2⟩
    have hn7 := (hk7 2 (by decide) (by decide) (by decide)).trans hn2
    have hc7 := (hk7 4 (by decide) (by decide) (by decide)).trans hc2
    have Gr7 := Gr2.sm Smx7 (fun i hi (q : 9 + i = 8) => by omega)
    refine e_istore (L1 := [some (.ref 8), some (.int (nI (mnv B n 0 (dT D 0) 0 s))), some (.int (nI (mnv B n 0 2 0 (mnum B n 0 (dT D 0) s)))), some (.int (fI σ2 10 ((mnv B n 0 (dT D 0) 0 s) * 3))), some (.int (fI σ2 10 ((mnv B n 0 (dT D 0) 0 s) * 3 + 1))), some (.int (nI (mnv B n 1 (dB D (mnv B n 0 (dT D 0) 0 s) (mnv B n 0 2 0 (mnum B n 0 (dT D 0) s))) 1 (mnum B n 0 2 (mnum B n 0 (dT D 0) s))))), none, none]) dX5_readSlot_68 (by decide) rfl ?_
    refine e_aload_n dX5_readSlot_70 rfl rfl ?_
    refine e_iconst (nI 0) dX5_readSlot_71 (by decide) ?_
    refine e_iload_n dX5_readSlot_72 rfl rfl ?_
    refine e_if_ne 81 dX5_readSlot_73 (by decide) (fun c => absurd ((nI_z (by omega)).mpr c54) c) (fun _ => ?_)
    refine e_iload dX5_readSlot_76 rfl ?_
    refine e_goto 82 dX5_readSlot_78 (by decide) ?_
    refine e_iconst (nI 1) dX5_readSlot_82 (by decide) ?_
    refine e_isub dX5_readSlot_83 ?_
    have hl4 : ∀ a, mnum B n 1 (dB D (mnv B n 0 (dT D 0) 0 s) (mnv B n 0 2 0 (mnum B n 0 (dT D 0) s))) (mnum B n 0 2 (mnum B n 0 (dT D 0) s)) = .inr a → ∀ v, v < 100000 → (nI v ≤ (fI σ2 10 ((mnv B n 0 (dT D 0) 0 s) * 3 + 1)) - (nI 1) ↔ v < dB D (mnv B n 0 (dT D 0) 0 s) (1 - mnv B n 0 2 0 (mnum B n 0 (dT D 0) s))) := by
      intro a q v hv
      obtain ⟨a3, r3, -, w3, l3, u3⟩ := mnum_ok q
      obtain ⟨a2, r2, -, w2, l2, u2⟩ := mnum_ok r3
      obtain ⟨a1, r1, -, w1, l1, u1⟩ := mnum_ok r2
      have hv0 : mnv B n 0 (dT D 0) 0 s < dT D 0 := by rw [w1 0]; exact u1
      have hv1 : mnv B n 0 2 0 (mnum B n 0 (dT D 0) s) < 2 := by rw [w2 0]; exact u2
      have bb := hD.2.1 _ hv0
      have ew : (1 - mnv B n 0 2 0 (mnum B n 0 (dT D 0) s)) = 1 := by omega
      rw [ew, show (fI σ2 10 ((mnv B n 0 (dT D 0) 0 s) * 3 + 1)) = nI (dB D (mnv B n 0 (dT D 0) 0 s) 1) from Gr2.2.1 _ hv0 1 (by decide)]
      exact hl_s (by omega) v hv
    have hh4 : ∀ a, mnum B n 1 (dB D (mnv B n 0 (dT D 0) 0 s) (mnv B n 0 2 0 (mnum B n 0 (dT D 0) s))) (mnum B n 0 2 (mnum B n 0 (dT D 0) s)) = .inr a → dB D (mnv B n 0 (dT D 0) 0 s) (1 - mnv B n 0 2 0 (mnum B n 0 (dT D 0) s)) ≤ 1000 := by
      intro a q
      obtain ⟨a3, r3, -, w3, l3, u3⟩ := mnum_ok q
      obtain ⟨a2, r2, -, w2, l2, u2⟩ := mnum_ok r3
      obtain ⟨a1, r1, -, w1, l1, u1⟩ := mnum_ok r2
      have hv0 : mnv B n 0 (dT D 0) 0 s < dT D 0 := by rw [w1 0]; exact u1
      have hv1 : mnv B n 0 2 0 (mnum B n 0 (dT D 0) s) < 2 := by rw [w2 0]; exact u2
      have bb := hD.2.1 _ hv0
      have ew : (1 - mnv B n 0 2 0 (mnum B n 0 (dT D 0) s)) = 1 := by omega
      rw [ew]
      omega
    refine e_callV (k := 8) [.int (nI 0), .int ((fI σ2 10 ((mnv B n 0 (dT D 0) 0 s) * 3 + 1)) - (nI 1))] dX5_readSlot_84 cc_X5_readNumber lk_RX5_122 im_X5_readNumber se_X5_readNumber (by decide) (Ms7.s 8 rfl) (Ms7.n (by decide)) rfl (Nat.le_of_ble_eq_true rfl) (Nat.le_of_ble_eq_true rfl) ?_
    refine t_X5_readNumber (B := B) (n := n) (s := mnum B n 1 (dB D (mnv B n 0 (dT D 0) 0 s) (mnv B n 0 2 0 (mnum B n 0 (dT D 0) s))) (mnum B n 0 2 (mnum B n 0 (dT D 0) s))) (lo := 0) (hi1 := dB D (mnv B n 0 (dT D 0) 0 s) (1 - mnv B n 0 2 0 (mnum B n 0 (dT D 0) s))) Ms7 hB7 hn7 hn6 hs7 (by decide) hh4 hl4 (fun σ8 Smx8 hs8 hk8 => ?_)
    show fEv g _ mX5_readSlot 87 [some (.ref 8), some (.int (nI (mnv B n 0 (dT D 0) 0 s))), some (.int (nI (mnv B n 0 2 0 (mnum B n 0 (dT D 0) s)))), some (.int (fI σ2 10 ((mnv B n 0 (dT D 0) 0 s) * 3))), some (.int (fI σ2 10 ((mnv B n 0 (dT D 0) 0 s) * 3 + 1))), some (.int (nI (mnv B n 1 (dB D (mnv B n 0 (dT D 0) 0 s) (mnv B n 0 2 0 (mnum B n 0 (dT D 0) s))) 1 (mnum B n 0 2 (mnum B n 0 (dT D 0) s))))), none, none] [.int (nI (mnv B n 0 (dB D (mnv B n 0 (dT D 0) 0 s) (1 - mnv B n 0 2 0 (mnum B n 0 (dT D 0) s))) 0 (mnum B n 1 (dB D (mnv B n 0 (dT D 0) 0 s) (mnv B n 0 2 0 (mnum B n 0 (dT D 0) s))) (mnum B n 0 2 (mnum B n 0 (dT D 0) s)))))] σ8 Q
    have Sm8 : fSm fRdA σ σ8 := Sm7.tr (Smx8.to (fun a (q : a = 8) => (by omega : 8 ≤ a ∧ a < 15)))
    have Ms8 := Ms.sm Sm8
    have hB8 : ∀ i, i < 600 → fI σ8 1 i = sb (B i) ∧ B i < 256 := fun i hi => ⟨(Sm8.i (by unfold fRdA; omega) i).trans (hB i hi).1, (hB i hi).2⟩
    have hn8 := (hk8 2 (by decide) (by decide) (by decide)).trans hn7
    have hc8 := (hk8 4 (by decide) (by decide) (by decide)).trans hc7
    have Gr8 := Gr7.sm Smx8 (fun i hi (q : 9 + i = 8) => by omega)
    refine e_istore (L1 := [some (.ref 8), some (.int (nI (mnv B n 0 (dT D 0) 0 s))), some (.int (nI (mnv B n 0 2 0 (mnum B n 0 (dT D 0) s)))), some (.int (fI σ2 10 ((mnv B n 0 (dT D 0) 0 s) * 3))), some (.int (fI σ2 10 ((mnv B n 0 (dT D 0) 0 s) * 3 + 1))), some (.int (nI (mnv B n 1 (dB D (mnv B n 0 (dT D 0) 0 s) (mnv B n 0 2 0 (mnum B n 0 (dT D 0) s))) 1 (mnum B n 0 2 (mnum B n 0 (dT D 0) s))))), some (.int (nI (mnv B n 0 (dB D (mnv B n 0 (dT D 0) 0 s) (1 - mnv B n 0 2 0 (mnum B n 0 (dT D 0) s))) 0 (mnum B n 1 (dB D (mnv B n 0 (dT D 0) 0 s) (mnv B n 0 2 0 (mnum B n 0 (dT D 0) s))) (mnum B n 0 2 (mnum B n 0 (dT D 0) s)))))), none]) dX5_readSlot_87 (by decide) rfl ?_
    refine e_aload_n dX5_readSlot_89 rfl rfl ?_
    refine e_iconst (nI 1) dX5_readSlot_90 (by decide) ?_
    refine e_bipush (nI 9) dX5_readSlot_91 (by decide) ?_
    refine e_callV (k := 8) [.int (nI 1), .int (nI 9)] dX5_readSlot_93 cc_X5_readNumber lk_RX5_122 im_X5_readNumber se_X5_readNumber (by decide) (Ms8.s 8 rfl) (Ms8.n (by decide)) rfl (Nat.le_of_ble_eq_true rfl) (Nat.le_of_ble_eq_true rfl) ?_
    refine t_X5_readNumber (B := B) (n := n) (s := mnum B n 0 (dB D (mnv B n 0 (dT D 0) 0 s) (1 - mnv B n 0 2 0 (mnum B n 0 (dT D 0) s))) (mnum B n 1 (dB D (mnv B n 0 (dT D 0) 0 s) (mnv B n 0 2 0 (mnum B n 0 (dT D 0) s))) (mnum B n 0 2 (mnum B n 0 (dT D 0) s)))) (lo := 1) (hi1 := 10) Ms8 hB8 hn8 hn6 hs8 (by decide) (fun _ _ => by omega) (fun _ _ => hl_n (by decide)) (fun σ9 Smx9 hs9 hk9 => ?_)
    show fEv g _ mX5_readSlot 96 [some (.ref 8), some (.int (nI (mnv B n 0 (dT D 0) 0 s))), some (.int (nI (mnv B n 0 2 0 (mnum B n 0 (dT D 0) s)))), some (.int (fI σ2 10 ((mnv B n 0 (dT D 0) 0 s) * 3))), some (.int (fI σ2 10 ((mnv B n 0 (dT D 0) 0 s) * 3 + 1))), some (.int (nI (mnv B n 1 (dB D (mnv B n 0 (dT D 0) 0 s) (mnv B n 0 2 0 (mnum B n 0 (dT D 0) s))) 1 (mnum B n 0 2 (mnum B n 0 (dT D 0) s))))), some (.int (nI (mnv B n 0 (dB D (mnv B n 0 (dT D 0) 0 s) (1 - mnv B n 0 2 0 (mnum B n 0 (dT D 0) s))) 0 (mnum B n 1 (dB D (mnv B n 0 (dT D 0) 0 s) (mnv B n 0 2 0 (mnum B n 0 (dT D 0) s))) (mnum B n 0 2 (mnum B n 0 (dT D 0) s)))))), none] [.int (nI (mnv B n 1 10 1 (mnum B n 0 (dB D (mnv B n 0 (dT D 0) 0 s) (1 - mnv B n 0 2 0 (mnum B n 0 (dT D 0) s))) (mnum B n 1 (dB D (mnv B n 0 (dT D 0) 0 s) (mnv B n 0 2 0 (mnum B n 0 (dT D 0) s))) (mnum B n 0 2 (mnum B n 0 (dT D 0) s))))))] σ9 Q
    have Sm9 : fSm fRdA σ σ9 := Sm8.tr (Smx9.to (fun a (q : a = 8) => (by omega : 8 ≤ a ∧ a < 15)))
    have Ms9 := Ms.sm Sm9
    have hB9 : ∀ i, i < 600 → fI σ9 1 i = sb (B i) ∧ B i < 256 := fun i hi => ⟨(Sm9.i (by unfold fRdA; omega) i).trans (hB i hi).1, (hB i hi).2⟩
    have hn9 := (hk9 2 (by decide) (by decide) (by decide)).trans hn8
    have hc9 := (hk9 4 (by decide) (by decide) (by decide)).trans hc8
    have Gr9 := Gr8.sm Smx9 (fun i hi (q : 9 + i = 8) => by omega)
    refine e_istore (L1 := [some (.ref 8), some (.int (nI (mnv B n 0 (dT D 0) 0 s))), some (.int (nI (mnv B n 0 2 0 (mnum B n 0 (dT D 0) s)))), some (.int (fI σ2 10 ((mnv B n 0 (dT D 0) 0 s) * 3))), some (.int (fI σ2 10 ((mnv B n 0 (dT D 0) 0 s) * 3 + 1))), some (.int (nI (mnv B n 1 (dB D (mnv B n 0 (dT D 0) 0 s) (mnv B n 0 2 0 (mnum B n 0 (dT D 0) s))) 1 (mnum B n 0 2 (mnum B n 0 (dT D 0) s))))), some (.int (nI (mnv B n 0 (dB D (mnv B n 0 (dT D 0) 0 s) (1 - mnv B n 0 2 0 (mnum B n 0 (dT D 0) s))) 0 (mnum B n 1 (dB D (mnv B n 0 (dT D 0) 0 s) (mnv B n 0 2 0 (mnum B n 0 (dT D 0) s))) (mnum B n 0 2 (mnum B n 0 (dT D 0) s)))))), some (.int (nI (mnv B n 1 10 1 (mnum B n 0 (dB D (mnv B n 0 (dT D 0) 0 s) (1 - mnv B n 0 2 0 (mnum B n 0 (dT D 0) s))) (mnum B n 1 (dB D (mnv B n 0 (dT D 0) 0 s) (mnv B n 0 2 0 (mnum B n 0 (dT D 0) s))) (mnum B n 0 2 (mnum B n 0 (dT D 0) s)))))))]) dX5_readSlot_96 (by decide) rfl ?_
    have e0 : (mns B n 1 D s).1 = mnum B n 1 10 (mnum B n 0 (dB D (mnv B n 0 (dT D 0) 0 s) (1 - mnv B n 0 2 0 (mnum B n 0 (dT D 0) s))) (mnum B n 1 (dB D (mnv B n 0 (dT D 0) 0 s) (mnv B n 0 2 0 (mnum B n 0 (dT D 0) s))) (mnum B n 0 2 (mnum B n 0 (dT D 0) s)))) := rfl
    cases q9 : mnum B n 1 10 (mnum B n 0 (dB D (mnv B n 0 (dT D 0) 0 s) (1 - mnv B n 0 2 0 (mnum B n 0 (dT D 0) s))) (mnum B n 1 (dB D (mnv B n 0 (dT D 0) 0 s) (mnv B n 0 2 0 (mnum B n 0 (dT D 0) s))) (mnum B n 0 2 (mnum B n 0 (dT D 0) s)))) with
    | inl x =>
      rw [q9] at hs9 e0
      have hs9 : fI σ9 8 5 = nI x.1 ∧ fI σ9 8 6 = nI x.2 ∧ 1 ≤ x.1 ∧ x.1 ≤ 3 ∧ x.2 ≤ n ∧ ∃ a9, a9 ≤ n ∧ fI σ9 8 3 = nI a9 := hs9
      rw [e0] at h
      refine e_aload_n dX5_readSlot_98 rfl rfl ?_
      refine e_getI dX5_readSlot_99 fl_RX5_28 (Ms9.s 8 rfl) (Ms9.n (by decide)) rfl ?_
      refine e_int (nI x.1) hs9.1 ?_
      refine e_if_ne 120 dX5_readSlot_102 (by decide) (fun _ => ?_) (fun c => absurd ((nI_z (by omega)).mp c) (by omega))
      exact e_return dX5_readSlot_120 rfl (h _ Sm9 hs9 (fun e q => by cases q) hn9 hc9)
    | inr e =>
      rw [q9] at hs9 e0
      have hz9 : fI σ9 8 5 = nI 0 := (show e ≤ n ∧ fI σ9 8 3 = nI e ∧ fI σ9 8 5 = nI 0 ∧ fI σ9 8 6 = -1 from hs9).2.2.1
      obtain ⟨a5, r5, -, w5, l5, u5⟩ := mnum_ok q9
      have v5 := (w5 1).trans (w5 0).symm
      have b5 : 1 ≤ mnv B n 1 10 1 (mnum B n 0 (dB D (mnv B n 0 (dT D 0) 0 s) (1 - mnv B n 0 2 0 (mnum B n 0 (dT D 0) s))) (mnum B n 1 (dB D (mnv B n 0 (dT D 0) 0 s) (mnv B n 0 2 0 (mnum B n 0 (dT D 0) s))) (mnum B n 0 2 (mnum B n 0 (dT D 0) s)))) ∧ mnv B n 1 10 1 (mnum B n 0 (dB D (mnv B n 0 (dT D 0) 0 s) (1 - mnv B n 0 2 0 (mnum B n 0 (dT D 0) s))) (mnum B n 1 (dB D (mnv B n 0 (dT D 0) 0 s) (mnv B n 0 2 0 (mnum B n 0 (dT D 0) s))) (mnum B n 0 2 (mnum B n 0 (dT D 0) s)))) < 10 := by rw [w5 1]; exact ⟨l5, u5⟩
      obtain ⟨a4, r4, -, w4, l4, u4⟩ := mnum_ok r5
      have v4 := (w4 0).trans (w4 0).symm
      have b4 : 0 ≤ mnv B n 0 (dB D (mnv B n 0 (dT D 0) 0 s) (1 - mnv B n 0 2 0 (mnum B n 0 (dT D 0) s))) 0 (mnum B n 1 (dB D (mnv B n 0 (dT D 0) 0 s) (mnv B n 0 2 0 (mnum B n 0 (dT D 0) s))) (mnum B n 0 2 (mnum B n 0 (dT D 0) s))) ∧ mnv B n 0 (dB D (mnv B n 0 (dT D 0) 0 s) (1 - mnv B n 0 2 0 (mnum B n 0 (dT D 0) s))) 0 (mnum B n 1 (dB D (mnv B n 0 (dT D 0) 0 s) (mnv B n 0 2 0 (mnum B n 0 (dT D 0) s))) (mnum B n 0 2 (mnum B n 0 (dT D 0) s))) < dB D (mnv B n 0 (dT D 0) 0 s) (1 - mnv B n 0 2 0 (mnum B n 0 (dT D 0) s)) := by rw [w4 0]; exact ⟨l4, u4⟩
      obtain ⟨a3, r3, -, w3, l3, u3⟩ := mnum_ok r4
      have v3 := (w3 1).trans (w3 0).symm
      have b3 : 1 ≤ mnv B n 1 (dB D (mnv B n 0 (dT D 0) 0 s) (mnv B n 0 2 0 (mnum B n 0 (dT D 0) s))) 1 (mnum B n 0 2 (mnum B n 0 (dT D 0) s)) ∧ mnv B n 1 (dB D (mnv B n 0 (dT D 0) 0 s) (mnv B n 0 2 0 (mnum B n 0 (dT D 0) s))) 1 (mnum B n 0 2 (mnum B n 0 (dT D 0) s)) < dB D (mnv B n 0 (dT D 0) 0 s) (mnv B n 0 2 0 (mnum B n 0 (dT D 0) s)) := by rw [w3 1]; exact ⟨l3, u3⟩
      obtain ⟨a2, r2, -, w2, l2, u2⟩ := mnum_ok r3
      have v2 := (w2 0).trans (w2 0).symm
      have b2 : 0 ≤ mnv B n 0 2 0 (mnum B n 0 (dT D 0) s) ∧ mnv B n 0 2 0 (mnum B n 0 (dT D 0) s) < 2 := by rw [w2 0]; exact ⟨l2, u2⟩
      obtain ⟨a1, r1, -, w1, l1, u1⟩ := mnum_ok r2
      have v1 := (w1 0).trans (w1 0).symm
      have b1 : 0 ≤ mnv B n 0 (dT D 0) 0 s ∧ mnv B n 0 (dT D 0) 0 s < dT D 0 := by rw [w1 0]; exact ⟨l1, u1⟩
      refine e_aload_n dX5_readSlot_98 rfl rfl ?_
      refine e_getI dX5_readSlot_99 fl_RX5_28 (Ms9.s 8 rfl) (Ms9.n (by decide)) rfl ?_
      refine e_int (nI 0) hz9 ?_
      refine e_if_ne 120 dX5_readSlot_102 (by decide) (fun c => absurd rfl c) (fun _ => ?_)
      refine e_aload_n dX5_readSlot_105 rfl rfl ?_
      refine e_getR (q := 9) dX5_readSlot_106 fl_RX5_12 (Ms9.s 8 rfl) (Ms9.n (by decide)) rfl (Ms9.r 8 1 rfl) (by unfold fscr; omega) ?_
      refine e_iload_n dX5_readSlot_109 rfl rfl ?_
      refine e_iload_n dX5_readSlot_110 rfl rfl ?_
      refine e_iload dX5_readSlot_111 rfl ?_
      refine e_iload dX5_readSlot_113 rfl ?_
      refine e_iload dX5_readSlot_115 rfl ?_
      refine e_callV (k := 9) [.int (nI (mnv B n 0 (dT D 0) 0 s)), .int (nI (mnv B n 0 2 0 (mnum B n 0 (dT D 0) s))), .int (nI (mnv B n 1 (dB D (mnv B n 0 (dT D 0) 0 s) (mnv B n 0 2 0 (mnum B n 0 (dT D 0) s))) 1 (mnum B n 0 2 (mnum B n 0 (dT D 0) s)))), .int (nI (mnv B n 0 (dB D (mnv B n 0 (dT D 0) 0 s) (1 - mnv B n 0 2 0 (mnum B n 0 (dT D 0) s))) 0 (mnum B n 1 (dB D (mnv B n 0 (dT D 0) 0 s) (mnv B n 0 2 0 (mnum B n 0 (dT D 0) s))) (mnum B n 0 2 (mnum B n 0 (dT D 0) s))))), .int (nI (mnv B n 1 10 1 (mnum B n 0 (dB D (mnv B n 0 (dT D 0) 0 s) (1 - mnv B n 0 2 0 (mnum B n 0 (dT D 0) s))) (mnum B n 1 (dB D (mnv B n 0 (dT D 0) 0 s) (mnv B n 0 2 0 (mnum B n 0 (dT D 0) s))) (mnum B n 0 2 (mnum B n 0 (dT D 0) s))))))] dX5_readSlot_117 cc_X3_addSlot lk_RX5_139 im_X3_addSlot se_X3_addSlot (by decide) (Ms9.s 9 rfl) (Ms9.n (by decide)) rfl (Nat.le_of_ble_eq_true rfl) (Nat.le_of_ble_eq_true rfl) ?_
      refine t_X3_addSlot Ms9 Gr9 hfl (fun σ10 Smx10 Gr10 => ?_)
      show fEv g _ mX5_readSlot 120 [some (.ref 8), some (.int (nI (mnv B n 0 (dT D 0) 0 s))), some (.int (nI (mnv B n 0 2 0 (mnum B n 0 (dT D 0) s)))), some (.int (fI σ2 10 ((mnv B n 0 (dT D 0) 0 s) * 3))), some (.int (fI σ2 10 ((mnv B n 0 (dT D 0) 0 s) * 3 + 1))), some (.int (nI (mnv B n 1 (dB D (mnv B n 0 (dT D 0) 0 s) (mnv B n 0 2 0 (mnum B n 0 (dT D 0) s))) 1 (mnum B n 0 2 (mnum B n 0 (dT D 0) s))))), some (.int (nI (mnv B n 0 (dB D (mnv B n 0 (dT D 0) 0 s) (1 - mnv B n 0 2 0 (mnum B n 0 (dT D 0) s))) 0 (mnum B n 1 (dB D (mnv B n 0 (dT D 0) 0 s) (mnv B n 0 2 0 (mnum B n 0 (dT D 0) s))) (mnum B n 0 2 (mnum B n 0 (dT D 0) s)))))), some (.int (nI (mnv B n 1 10 1 (mnum B n 0 (dB D (mnv B n 0 (dT D 0) 0 s) (1 - mnv B n 0 2 0 (mnum B n 0 (dT D 0) s))) (mnum B n 1 (dB D (mnv B n 0 (dT D 0) 0 s) (mnv B n 0 2 0 (mnum B n 0 (dT D 0) s))) (mnum B n 0 2 (mnum B n 0 (dT D 0) s)))))))] [] σ10 Q
      have Sm10 : fSm fRdA σ σ10 := Sm9.tr (Smx10.to (fun a (q : 9 ≤ a ∧ a < 15) => (by omega : 8 ≤ a ∧ a < 15)))
      have Ms10 := Ms.sm Sm10
      have hB10 : ∀ i, i < 600 → fI σ10 1 i = sb (B i) ∧ B i < 256 := fun i hi => ⟨(Sm10.i (by unfold fRdA; omega) i).trans (hB i hi).1, (hB i hi).2⟩
      have hn10 := (Smx10.i (by omega) 2).trans hn9
      have hc10 := (Smx10.i (by omega) 4).trans hc9
      rw [v5, v3] at Gr10
      exact e_return dX5_readSlot_120 rfl (h _ Sm10 (by rw [e0]; exact hs9.sm (fun q => Smx10.i (by omega) q)) (fun _ _ => Gr10) hn10 hc10)
