def fRqA : Nat → Prop := fun a => a = 89 ∨ a = 91 ∨ (94 ≤ a ∧ a < 100) ∨ (108 ≤ a ∧ a < 120) ∨ (134 ≤ a ∧ a < 140) ∨ (148 ≤ a ∧ a < 172)
/-- what has been read: the reference's rows -/
def fRr (σ : fAH) (D : fSD) : Prop := (∀ i, i < 7 → fI σ 91 i = nI (dT D i)) ∧ (∀ b, b < dT D 0 → ∀ c, c < 3 → fI σ (94 + b) c = nI (dB D b c)) ∧ (∀ b, b < dT D 1 → ∀ c, c < 5 → fI σ (108 + b) c = nI (dS D b c)) ∧ (∀ b, b < dT D 2 → ∀ c, c < 5 → fI σ (134 + b) c = nI (dO D b c)) ∧ (∀ b, b < dT D 6 → ∀ c, c < 3 → fI σ (148 + b) c = nI (dZ D b c))
theorem fRr.sm {A : Nat → Prop} {σ σ1 : fAH} {D : fSD} (h : fRr σ D) (s : fSm A σ σ1) (hD : fWD D) (na : ∀ i, 91 ≤ i → i < 172 → ¬ A i) : fRr σ1 D := by
  obtain ⟨t0, t1, t2, t3, t4, t5, t6⟩ := id hD.1
  obtain ⟨h1, h2, h3, h4, h5⟩ := h
  refine ⟨fun i hi => ?_, fun b hb c hc => ?_, fun b hb c hc => ?_, fun b hb c hc => ?_, fun b hb c hc => ?_⟩
  · rw [s.i (na _ (by omega) (by omega))]; exact h1 i hi
  · rw [s.i (na _ (by omega) (by omega))]; exact h2 b hb c hc
  · rw [s.i (na _ (by omega) (by omega))]; exact h3 b hb c hc
  · rw [s.i (na _ (by omega) (by omega))]; exact h4 b hb c hc
  · rw [s.i (na _ (by omega) (by omega))]; exact h5 b hb c hc
theorem fRr.ne {σ : fAH} {D : fSD} {R j : Nat} {v : Int32} (h : fRr σ D) (hD : fWD D) (hR : R = 94 + dT D 0 ∧ dT D 0 < 6 ∨ R = 108 + dT D 1 ∧ dT D 1 < 12 ∨ R = 134 + dT D 2 ∧ dT D 2 < 6 ∨ R = 148 + dT D 6 ∧ dT D 6 < 24) : fRr (fsI σ R j v) D := by
  obtain ⟨t0, t1, t2, t3, t4, t5, t6⟩ := id hD.1
  obtain ⟨h1, h2, h3, h4, h5⟩ := h
  refine ⟨fun i hi => ?_, fun b hb c hc => ?_, fun b hb c hc => ?_, fun b hb c hc => ?_, fun b hb c hc => ?_⟩
  · rw [fI_ne (by omega)]; exact h1 i hi
  · rw [fI_ne (by omega)]; exact h2 b hb c hc
  · rw [fI_ne (by omega)]; exact h3 b hb c hc
  · rw [fI_ne (by omega)]; exact h4 b hb c hc
  · rw [fI_ne (by omega)]; exact h5 b hb c hc
theorem fRr.St {σ : fAH} {D : fSD} {k v : Nat} (h : fRr σ D) (hD : fWD D) (hk : k = 3 ∨ k = 4 ∨ k = 5) : fRr (fsI σ 91 k (nI v)) (dSt D k v) := by
  obtain ⟨t0, t1, t2, t3, t4, t5, t6⟩ := id hD.1
  obtain ⟨h1, h2, h3, h4, h5⟩ := h
  have e : ∀ i, i ≠ k → dT (dSt D k v) i = dT D i := fun i hi => mup_n _ _ hi
  refine ⟨fun i hi => ?_, fun b hb c hc => ?_, fun b hb c hc => ?_, fun b hb c hc => ?_, fun b hb c hc => ?_⟩
  · by_cases q : i = k
    · subst q; rw [fI_I, if_pos ⟨rfl, rfl⟩]; exact congrArg nI (mup_s _ _ _).symm
    · rw [fI_I, if_neg (by omega), e i q]; exact h1 i hi
  · rw [e 0 (by omega)] at hb; rw [fI_ne (by omega)]; exact h2 b hb c hc
  · rw [e 1 (by omega)] at hb; rw [fI_ne (by omega)]; exact h3 b hb c hc
  · rw [e 2 (by omega)] at hb; rw [fI_ne (by omega)]; exact h4 b hb c hc
  · rw [e 6 (by omega)] at hb; rw [fI_ne (by omega)]; exact h5 b hb c hc
def mmo (k : Nat) : Nat := if k = 0 then 6 else if k = 1 then 12 else if k = 2 then 6 else if k = 6 then 24 else 1000
/-- the sum of the first i odds of a night -/
def mals (D : fSD) (t i : Nat) : Nat := msum (fun i => if dZ D i 0 = t then dZ D i 2 else 0) i
theorem mals_s (D : fSD) (t i : Nat) : mals D t (i + 1) = mals D t i + if dZ D i 0 = t then dZ D i 2 else 0 := rfl
theorem mals_le {D : fSD} (hD : fWD D) (t : Nat) {i : Nat} (hi : i ≤ dT D 6) : mals D t i ≤ 8 := Nat.le_trans (msum_mono hi) (hD.2.2.2.2.2 t)
theorem mnum_c {B : Nat → Nat} {n h : Nat} {s : fP} (hh : h ≤ 9) : mnum B n 1 h s = (match mnum B n 1 9 s with
    | .inl x => .inl x
    | .inr e => if mnv B n 1 9 0 s < h then .inr e else (match s with
      | .inl _ => .inr e
      | .inr a => .inl (2, mbl B n a))) := by
  cases s with
  | inl x => rfl
  | inr a =>
    show (if _ then _ else if _ then _ else _) = _
    unfold mnum mnv
    simp only
    by_cases h1 : mdg B n (mbl B n a) = mbl B n a
    · rw [if_pos h1, if_pos h1]
    · rw [if_neg h1, if_neg h1]
      by_cases h2 : 1 ≤ mV B n a ∧ mV B n a < 9
      · rw [if_pos h2]
        simp only
        rw [if_neg h1, if_pos h2]
        by_cases h3 : mV B n a < h
        · rw [if_pos ⟨h2.1, h3⟩, if_pos h3]
        · rw [if_neg (fun q => h3 q.2), if_neg h3]
      · rw [if_neg h2, if_neg (fun q => h2 ⟨q.1, by omega⟩)]
theorem mnv_c {B : Nat → Nat} {n h e : Nat} {s : fP} (q : mnum B n 1 h s = .inr e) (hh : h ≤ 9) : mnv B n 1 9 0 s = mnv B n 1 h 0 s := by
  obtain ⟨a, rfl, he, w, l, u⟩ := mnum_ok q
  rw [w 0]
  have h1 : ¬ mdg B n (mbl B n a) = mbl B n a := by
    intro h9
    have : mnum B n 1 h (.inr a) = .inl (1, mbl B n a) := if_pos h9
    rw [this] at q
    cases q
  show (if _ then _ else if _ then _ else _) = _
  rw [if_neg h1, if_pos ⟨l, by omega⟩]
set_option maxRecDepth 20000 in
theorem fRr.AB {σ : fAH} {D : fSD} {r : Nat → Nat} (h : fRr σ D) (hD : fWD D) (hl : dT D 0 < 6) (hr : ∀ c, c < 3 → fI σ (94 + dT D 0) c = nI (r c)) : fRr (fsI σ 91 0 (nI (dT D 0 + 1))) (dAB D r) := by
  obtain ⟨t0, t1, t2, t3, t4, t5, t6⟩ := id hD.1
  obtain ⟨h1, h2, h3, h4, h5⟩ := h
  refine ⟨fun i hi => ?_, fun b hb c hc => ?_, fun b hb c hc => ?_, fun b hb c hc => ?_, fun b hb c hc => ?_⟩
  · show _ = nI (mup (dT D) 0 (dT D 0 + 1) i)
    by_cases q : i = 0
    · subst q; rw [fI_I, if_pos ⟨rfl, rfl⟩, mup_s]
    · rw [fI_I, if_neg (by omega), mup_n _ _ q]; exact h1 i hi
  · have hb : b < dT D 0 + 1 := hb
    show _ = nI (dput (dB D) (dT D 0) r b c)
    rw [fI_ne (by omega)]
    by_cases q : b = dT D 0
    · subst q; rw [dput_s]; exact hr c hc
    · rw [dput_n _ _ _ q]; exact h2 b (by omega) c hc
  · rw [fI_ne (by omega)]; exact h3 b hb c hc
  · rw [fI_ne (by omega)]; exact h4 b hb c hc
  · rw [fI_ne (by omega)]; exact h5 b hb c hc
set_option maxRecDepth 20000 in
theorem fRr.AS {σ : fAH} {D : fSD} {r : Nat → Nat} (h : fRr σ D) (hD : fWD D) (hl : dT D 1 < 12) (hr : ∀ c, c < 5 → fI σ (108 + dT D 1) c = nI (r c)) : fRr (fsI σ 91 1 (nI (dT D 1 + 1))) (dAS D r) := by
  obtain ⟨t0, t1, t2, t3, t4, t5, t6⟩ := id hD.1
  obtain ⟨h1, h2, h3, h4, h5⟩ := h
  refine ⟨fun i hi => ?_, fun b hb c hc => ?_, fun b hb c hc => ?_, fun b hb c hc => ?_, fun b hb c hc => ?_⟩
  · show _ = nI (mup (dT D) 1 (dT D 1 + 1) i)
    by_cases q : i = 1
    · subst q; rw [fI_I, if_pos ⟨rfl, rfl⟩, mup_s]
    · rw [fI_I, if_neg (by omega), mup_n _ _ q]; exact h1 i hi
  · rw [fI_ne (by omega)]; exact h2 b hb c hc
  · have hb : b < dT D 1 + 1 := hb
    show _ = nI (dput (dS D) (dT D 1) r b c)
    rw [fI_ne (by omega)]
    by_cases q : b = dT D 1
    · subst q; rw [dput_s]; exact hr c hc
    · rw [dput_n _ _ _ q]; exact h3 b (by omega) c hc
  · rw [fI_ne (by omega)]; exact h4 b hb c hc
  · rw [fI_ne (by omega)]; exact h5 b hb c hc
set_option maxRecDepth 20000 in
theorem fRr.AO {σ : fAH} {D : fSD} {r : Nat → Nat} (h : fRr σ D) (hD : fWD D) (hl : dT D 2 < 6) (hr : ∀ c, c < 5 → fI σ (134 + dT D 2) c = nI (r c)) : fRr (fsI σ 91 2 (nI (dT D 2 + 1))) (dAO D r) := by
  obtain ⟨t0, t1, t2, t3, t4, t5, t6⟩ := id hD.1
  obtain ⟨h1, h2, h3, h4, h5⟩ := h
  refine ⟨fun i hi => ?_, fun b hb c hc => ?_, fun b hb c hc => ?_, fun b hb c hc => ?_, fun b hb c hc => ?_⟩
  · show _ = nI (mup (dT D) 2 (dT D 2 + 1) i)
    by_cases q : i = 2
    · subst q; rw [fI_I, if_pos ⟨rfl, rfl⟩, mup_s]
    · rw [fI_I, if_neg (by omega), mup_n _ _ q]; exact h1 i hi
  · rw [fI_ne (by omega)]; exact h2 b hb c hc
  · rw [fI_ne (by omega)]; exact h3 b hb c hc
  · have hb : b < dT D 2 + 1 := hb
    show _ = nI (dput (dO D) (dT D 2) r b c)
    rw [fI_ne (by omega)]
    by_cases q : b = dT D 2
    · subst q; rw [dput_s]; exact hr c hc
    · rw [dput_n _ _ _ q]; exact h4 b (by omega) c hc
  · rw [fI_ne (by omega)]; exact h5 b hb c hc
set_option maxRecDepth 20000 in
theorem fRr.AZ {σ : fAH} {D : fSD} {r : Nat → Nat} (h : fRr σ D) (hD : fWD D) (hl : dT D 6 < 24) (hr : ∀ c, c < 3 → fI σ (148 + dT D 6) c = nI (r c)) : fRr (fsI σ 91 6 (nI (dT D 6 + 1))) (dAZ D r) := by
  obtain ⟨t0, t1, t2, t3, t4, t5, t6⟩ := id hD.1
  obtain ⟨h1, h2, h3, h4, h5⟩ := h
  refine ⟨fun i hi => ?_, fun b hb c hc => ?_, fun b hb c hc => ?_, fun b hb c hc => ?_, fun b hb c hc => ?_⟩
  · show _ = nI (mup (dT D) 6 (dT D 6 + 1) i)
    by_cases q : i = 6
    · subst q; rw [fI_I, if_pos ⟨rfl, rfl⟩, mup_s]
    · rw [fI_I, if_neg (by omega), mup_n _ _ q]; exact h1 i hi
  · rw [fI_ne (by omega)]; exact h2 b hb c hc
  · rw [fI_ne (by omega)]; exact h3 b hb c hc
  · rw [fI_ne (by omega)]; exact h4 b hb c hc
  · have hb : b < dT D 6 + 1 := hb
    show _ = nI (dput (dZ D) (dT D 6) r b c)
    rw [fI_ne (by omega)]
    by_cases q : b = dT D 6
    · subst q; rw [dput_s]; exact hr c hc
    · rw [dput_n _ _ _ q]; exact h5 b (by omega) c hc
set_option maxRecDepth 20000 in
theorem t_X10_mostOf {g : fGP} {d : Nat} {σ : fAH} {Q : fRes → fAH → Prop} {k : Nat} (hk : k < 100) (h : Q (.inl (some (.int (nI (mmo k))))) σ) : fEv g d mX10_mostOf 0 (fent [.int (nI k)] 1) [] σ Q := by
  show fEv g d mX10_mostOf 0 [some (.int (nI k))] [] σ Q
  refine e_iload_n dX10_mostOf_0 rfl rfl ?_
  refine e_if_ne 9 dX10_mostOf_1 (by decide) (fun c1 => ?_) (fun c1 => ?_)
  · rw [nI_z (by omega)] at c1
    refine e_iload_n dX10_mostOf_9 rfl rfl ?_
    refine e_iconst (nI 1) dX10_mostOf_10 (by decide) ?_
    refine e_icmp_ne 19 dX10_mostOf_11 (by decide) (fun c11 => ?_) (fun c11 => ?_)
    · rw [nI_inj (by omega) (by omega)] at c11
      refine e_iload_n dX10_mostOf_19 rfl rfl ?_
      refine e_iconst (nI 2) dX10_mostOf_20 (by decide) ?_
      refine e_icmp_ne 29 dX10_mostOf_21 (by decide) (fun c21 => ?_) (fun c21 => ?_)
      · rw [nI_inj (by omega) (by omega)] at c21
        refine e_iload_n dX10_mostOf_29 rfl rfl ?_
        refine e_bipush (nI 6) dX10_mostOf_30 (by decide) ?_
        refine e_icmp_ne 40 dX10_mostOf_32 (by decide) (fun c32 => ?_) (fun c32 => ?_)
        · rw [nI_inj (by omega) (by omega)] at c32
          refine e_sipush (nI 1000) dX10_mostOf_40 (by decide) ?_
          have e9 : mmo k = 1000 := by unfold mmo; repeat' split <;> omega
          rw [e9] at h
          exact e_ireturn .int dX10_mostOf_43 rfl rfl h
        · rw [nI_inj (by omega) (by omega)] at c32
          refine e_bipush (nI 24) dX10_mostOf_35 (by decide) ?_
          refine e_goto 43 dX10_mostOf_37 (by decide) ?_
          have e9 : mmo k = 24 := by unfold mmo; repeat' split <;> omega
          rw [e9] at h
          exact e_ireturn .int dX10_mostOf_43 rfl rfl h
      · rw [nI_inj (by omega) (by omega)] at c21
        refine e_bipush (nI 6) dX10_mostOf_24 (by decide) ?_
        refine e_goto 43 dX10_mostOf_26 (by decide) ?_
        have e9 : mmo k = 6 := by unfold mmo; repeat' split <;> omega
        rw [e9] at h
        exact e_ireturn .int dX10_mostOf_43 rfl rfl h
    · rw [nI_inj (by omega) (by omega)] at c11
      refine e_bipush (nI 12) dX10_mostOf_14 (by decide) ?_
      refine e_goto 43 dX10_mostOf_16 (by decide) ?_
      have e9 : mmo k = 12 := by unfold mmo; repeat' split <;> omega
      rw [e9] at h
      exact e_ireturn .int dX10_mostOf_43 rfl rfl h
  · rw [nI_z (by omega)] at c1
    refine e_bipush (nI 6) dX10_mostOf_4 (by decide) ?_
    refine e_goto 43 dX10_mostOf_6 (by decide) ?_
    have e9 : mmo k = 6 := by unfold mmo; repeat' split <;> omega
    rw [e9] at h
    exact e_ireturn .int dX10_mostOf_43 rfl rfl h
set_option maxRecDepth 20000 in
theorem t_X10_readsSlot {g : fGP} {d : Nat} {σ : fAH} {Q : fRes → fAH → Prop} {B : Nat → Nat} {n : Nat} {D : fSD} {s : fP} {c9 : Nat} (Ms : fMs g σ) (hB : ∀ i, i < 600 → fI σ 90 i = nI (B i)) (hb : ∀ i, B i < 256) (hn : fI σ 89 2 = nI n) (hn6 : n ≤ 600) (hc : fI σ 89 7 = nI c9) (Rr : fRr σ D) (hD : fWD D) (hs : fPs σ 89 4 n s) (hfl : dT D 1 < 12) (h : ∀ σ', fSm fRqA σ σ' → fPs σ' 89 4 n (mns B n 1 D s).1 → fRr σ' D → (∀ e, (mns B n 1 D s).1 = .inr e → ∀ c, c < 5 → fI σ' (108 + dT D 1) c = nI ((mr5 (mnv B n 0 (dT D 0) 0 s) (mnv B n 0 2 0 (mnum B n 0 (dT D 0) s)) (mnv B n 1 (dB D (mnv B n 0 (dT D 0) 0 s) (mnv B n 0 2 0 (mnum B n 0 (dT D 0) s))) 0 (mnum B n 0 2 (mnum B n 0 (dT D 0) s))) (mnv B n 0 (dB D (mnv B n 0 (dT D 0) 0 s) (1 - mnv B n 0 2 0 (mnum B n 0 (dT D 0) s))) 0 (mnum B n 1 (dB D (mnv B n 0 (dT D 0) 0 s) (mnv B n 0 2 0 (mnum B n 0 (dT D 0) s))) (mnum B n 0 2 (mnum B n 0 (dT D 0) s)))) (mnv B n 1 10 0 (mnum B n 0 (dB D (mnv B n 0 (dT D 0) 0 s) (1 - mnv B n 0 2 0 (mnum B n 0 (dT D 0) s))) (mnum B n 1 (dB D (mnv B n 0 (dT D 0) 0 s) (mnv B n 0 2 0 (mnum B n 0 (dT D 0) s))) (mnum B n 0 2 (mnum B n 0 (dT D 0) s)))))) c)) → fI σ' 89 2 = nI n → fI σ' 89 7 = nI c9 → (∀ j, j ≠ 4 → j ≠ 5 → j ≠ 6 → fI σ' 89 j = fI σ 89 j) → Q (.inl none) σ') : fEv g (d + 3) mX10_readsSlot 0 (fent [.ref 89, .ref (108 + dT D 1)] 3) [] σ Q := by
  obtain ⟨t0, t1, t2, t3, t4, t5, t6⟩ := id hD.1
  have n600 := hn6
  show fEv g (d + 3) mX10_readsSlot 0 [some (.ref 89), some (.ref (108 + dT D 1)), none] [] σ Q
  refine e_aload_n dX10_readsSlot_0 rfl rfl ?_
  refine e_iconst (nI 0) dX10_readsSlot_1 (by decide) ?_
  refine e_aload_n dX10_readsSlot_2 rfl rfl ?_
  refine e_iconst (nI 0) dX10_readsSlot_3 (by decide) ?_
  refine e_aload_n dX10_readsSlot_4 rfl rfl ?_
  refine e_getR (q := 91) dX10_readsSlot_5 fl_RX10_17 (Ms.s 89 rfl) (Ms.n (by decide)) rfl (Ms.r 89 9 rfl) (by unfold fscr; omega) ?_
  refine e_iconst (nI 0) dX10_readsSlot_8 (by decide) ?_
  refine e_iaload 0 dX10_readsSlot_9 (Ms.s 91 rfl) (Ms.n (by decide)) rfl (by omega) (by decide) ?_
  refine e_int (nI (dT D 0)) (Rr.1 0 (by decide)) ?_
  refine e_iconst (nI 1) dX10_readsSlot_10 (by decide) ?_
  refine e_isub dX10_readsSlot_11 ?_
  refine e_callV (k := 89) [.int (nI 0), .int ((nI (dT D 0)) - (nI 1))] dX10_readsSlot_12 cc_X10_number lk_RX10_134 im_X10_number se_X10_number (by decide) (Ms.s 89 rfl) (Ms.n (by decide)) rfl (Nat.le_of_ble_eq_true rfl) (Nat.le_of_ble_eq_true rfl) ?_
  refine t_X10_number (B := B) (n := n) (s := s) (lo := 0) (hi1 := dT D 0) Ms hB hb hn n600 hs (by decide) (fun _ _ => by omega) (fun _ _ => hr_s (by omega)) (fun σ1 Smx1 hs1 hk1 => ?_)
  show fEv g _ mX10_readsSlot 15 [some (.ref 89), some (.ref (108 + dT D 1)), none] [.int (nI (mnv B n 0 (dT D 0) 0 s)), .int (nI 0), .ref (108 + dT D 1)] σ1 Q
  have Sm1 : fSm fRqA σ σ1 := (Smx1.to (fun a (q : a = 89) => Or.inl q))
  have Ms1 := Ms.sm Sm1
  have hB1 : ∀ i, i < 600 → fI σ1 90 i = nI (B i) := fun i hi => (Sm1.i (by unfold fRqA; omega) i).trans (hB i hi)
  have hn1 := (hk1 2 (by decide) (by decide) (by decide)).trans hn
  have hc1 := (hk1 7 (by decide) (by decide) (by decide)).trans hc
  have ho1 : ∀ j, j ≠ 4 → j ≠ 5 → j ≠ 6 → fI σ1 89 j = fI σ 89 j := fun j h1 h2 h3 => (hk1 j h1 h2 h3)
  have Rr1 := Rr.sm Smx1 hD (fun i h1 h2 (q : i = 89) => by omega)
  refine e_iastore 0 dX10_readsSlot_15 (Ms1.s _ (fsh_readSlot _ (by omega))) (Ms1.n (by omega)) rfl (by omega) (by decide) ?_
  have Smx2 : fSm (fun a => a = 108 + dT D 1) σ1 (fsI σ1 (108 + dT D 1) 0 (nI (mnv B n 0 (dT D 0) 0 s))) := fSm_I rfl
  have Sm2 : fSm fRqA σ (fsI σ1 (108 + dT D 1) 0 (nI (mnv B n 0 (dT D 0) 0 s))) := Sm1.tr (Smx2.to (fun a (q : a = 108 + dT D 1) => (by omega : a = 89 ∨ a = 91 ∨ (94 ≤ a ∧ a < 100) ∨ (108 ≤ a ∧ a < 120) ∨ (134 ≤ a ∧ a < 140) ∨ (148 ≤ a ∧ a < 172))))
  have Ms2 := Ms.sm Sm2
  have hs2 : fPs (fsI σ1 (108 + dT D 1) 0 (nI (mnv B n 0 (dT D 0) 0 s))) 89 4 n (mnum B n 0 (dT D 0) s) := hs1.sm (fun q => by rw [fI_I, if_neg (by omega)])
  have Rr2 : fRr (fsI σ1 (108 + dT D 1) 0 (nI (mnv B n 0 (dT D 0) 0 s))) D := Rr1.ne hD (by omega)
  have hB2 : ∀ i, i < 600 → fI (fsI σ1 (108 + dT D 1) 0 (nI (mnv B n 0 (dT D 0) 0 s))) 90 i = nI (B i) := fun i hi => by rw [fI_I, if_neg (by omega)]; exact hB1 i hi
  have hn2 : fI (fsI σ1 (108 + dT D 1) 0 (nI (mnv B n 0 (dT D 0) 0 s))) 89 2 = nI n := by rw [fI_I, if_neg (by omega)]; exact hn1
  have hc2 : fI (fsI σ1 (108 + dT D 1) 0 (nI (mnv B n 0 (dT D 0) 0 s))) 89 7 = nI c9 := by rw [fI_I, if_neg (by omega)]; exact hc1
  have ho2 : ∀ j, j ≠ 4 → j ≠ 5 → j ≠ 6 → fI (fsI σ1 (108 + dT D 1) 0 (nI (mnv B n 0 (dT D 0) 0 s))) 89 j = fI σ 89 j := fun j h1 h2 h3 => by rw [fI_I, if_neg (by omega)]; exact ho1 j h1 h2 h3
  have u0_2 : fI (fsI σ1 (108 + dT D 1) 0 (nI (mnv B n 0 (dT D 0) 0 s))) (108 + dT D 1) 0 = nI (mnv B n 0 (dT D 0) 0 s) := by rw [fI_I, if_pos ⟨rfl, rfl⟩]
  generalize fsI σ1 (108 + dT D 1) 0 (nI (mnv B n 0 (dT D 0) 0 s)) = σ2 at Smx2 Sm2 Ms2 hs2 Rr2 hB2 hn2 hc2 ho2 u0_2 ⊢
  refine e_aload_n dX10_readsSlot_16 rfl rfl ?_
  refine e_iconst (nI 1) dX10_readsSlot_17 (by decide) ?_
  refine e_aload_n dX10_readsSlot_18 rfl rfl ?_
  refine e_iconst (nI 0) dX10_readsSlot_19 (by decide) ?_
  refine e_iconst (nI 1) dX10_readsSlot_20 (by decide) ?_
  refine e_callV (k := 89) [.int (nI 0), .int (nI 1)] dX10_readsSlot_21 cc_X10_number lk_RX10_134 im_X10_number se_X10_number (by decide) (Ms2.s 89 rfl) (Ms2.n (by decide)) rfl (Nat.le_of_ble_eq_true rfl) (Nat.le_of_ble_eq_true rfl) ?_
  refine t_X10_number (B := B) (n := n) (s := mnum B n 0 (dT D 0) s) (lo := 0) (hi1 := 2) Ms2 hB2 hb hn2 n600 hs2 (by decide) (fun _ _ => by decide) (fun _ _ => hr_n (by decide)) (fun σ3 Smx3 hs3 hk3 => ?_)
  show fEv g _ mX10_readsSlot 24 [some (.ref 89), some (.ref (108 + dT D 1)), none] [.int (nI (mnv B n 0 2 0 (mnum B n 0 (dT D 0) s))), .int (nI 1), .ref (108 + dT D 1)] σ3 Q
  have Sm3 : fSm fRqA σ σ3 := Sm2.tr (Smx3.to (fun a (q : a = 89) => Or.inl q))
  have Ms3 := Ms.sm Sm3
  have hB3 : ∀ i, i < 600 → fI σ3 90 i = nI (B i) := fun i hi => (Sm3.i (by unfold fRqA; omega) i).trans (hB i hi)
  have hn3 := (hk3 2 (by decide) (by decide) (by decide)).trans hn2
  have hc3 := (hk3 7 (by decide) (by decide) (by decide)).trans hc2
  have ho3 : ∀ j, j ≠ 4 → j ≠ 5 → j ≠ 6 → fI σ3 89 j = fI σ 89 j := fun j h1 h2 h3 => (hk3 j h1 h2 h3).trans (ho2 j h1 h2 h3)
  have Rr3 := Rr2.sm Smx3 hD (fun i h1 h2 (q : i = 89) => by omega)
  have u0_3 := (Smx3.i (fun (q : 108 + dT D 1 = 89) => by omega) 0).trans u0_2
  refine e_iastore 1 dX10_readsSlot_24 (Ms3.s _ (fsh_readSlot _ (by omega))) (Ms3.n (by omega)) rfl (by omega) (by decide) ?_
  have Smx4 : fSm (fun a => a = 108 + dT D 1) σ3 (fsI σ3 (108 + dT D 1) 1 (nI (mnv B n 0 2 0 (mnum B n 0 (dT D 0) s)))) := fSm_I rfl
  have Sm4 : fSm fRqA σ (fsI σ3 (108 + dT D 1) 1 (nI (mnv B n 0 2 0 (mnum B n 0 (dT D 0) s)))) := Sm3.tr (Smx4.to (fun a (q : a = 108 + dT D 1) => (by omega : a = 89 ∨ a = 91 ∨ (94 ≤ a ∧ a < 100) ∨ (108 ≤ a ∧ a < 120) ∨ (134 ≤ a ∧ a < 140) ∨ (148 ≤ a ∧ a < 172))))
  have Ms4 := Ms.sm Sm4
  have hs4 : fPs (fsI σ3 (108 + dT D 1) 1 (nI (mnv B n 0 2 0 (mnum B n 0 (dT D 0) s)))) 89 4 n (mnum B n 0 2 (mnum B n 0 (dT D 0) s)) := hs3.sm (fun q => by rw [fI_I, if_neg (by omega)])
  have Rr4 : fRr (fsI σ3 (108 + dT D 1) 1 (nI (mnv B n 0 2 0 (mnum B n 0 (dT D 0) s)))) D := Rr3.ne hD (by omega)
  have hB4 : ∀ i, i < 600 → fI (fsI σ3 (108 + dT D 1) 1 (nI (mnv B n 0 2 0 (mnum B n 0 (dT D 0) s)))) 90 i = nI (B i) := fun i hi => by rw [fI_I, if_neg (by omega)]; exact hB3 i hi
  have hn4 : fI (fsI σ3 (108 + dT D 1) 1 (nI (mnv B n 0 2 0 (mnum B n 0 (dT D 0) s)))) 89 2 = nI n := by rw [fI_I, if_neg (by omega)]; exact hn3
  have hc4 : fI (fsI σ3 (108 + dT D 1) 1 (nI (mnv B n 0 2 0 (mnum B n 0 (dT D 0) s)))) 89 7 = nI c9 := by rw [fI_I, if_neg (by omega)]; exact hc3
  have ho4 : ∀ j, j ≠ 4 → j ≠ 5 → j ≠ 6 → fI (fsI σ3 (108 + dT D 1) 1 (nI (mnv B n 0 2 0 (mnum B n 0 (dT D 0) s)))) 89 j = fI σ 89 j := fun j h1 h2 h3 => by rw [fI_I, if_neg (by omega)]; exact ho3 j h1 h2 h3
  have u0_4 : fI (fsI σ3 (108 + dT D 1) 1 (nI (mnv B n 0 2 0 (mnum B n 0 (dT D 0) s)))) (108 + dT D 1) 0 = nI (mnv B n 0 (dT D 0) 0 s) := by rw [fI_I, if_neg (by omega)]; exact u0_3
  have u1_4 : fI (fsI σ3 (108 + dT D 1) 1 (nI (mnv B n 0 2 0 (mnum B n 0 (dT D 0) s)))) (108 + dT D 1) 1 = nI (mnv B n 0 2 0 (mnum B n 0 (dT D 0) s)) := by rw [fI_I, if_pos ⟨rfl, rfl⟩]
  generalize fsI σ3 (108 + dT D 1) 1 (nI (mnv B n 0 2 0 (mnum B n 0 (dT D 0) s))) = σ4 at Smx4 Sm4 Ms4 hs4 Rr4 hB4 hn4 hc4 ho4 u0_4 u1_4 ⊢
  have vb : mnv B n 0 (dT D 0) 0 s < 6 := by rcases mnv_b (B := B) (n := n) (lo := 0) (hi := dT D 0) (d := 0) (s := s) with q | q <;> omega
  have vb1 : mnv B n 0 2 0 (mnum B n 0 (dT D 0) s) < 2 := by rcases mnv_b (B := B) (n := n) (lo := 0) (hi := 2) (d := 0) (s := mnum B n 0 (dT D 0) s) with q | q <;> omega
  refine e_aload_n dX10_readsSlot_25 rfl rfl ?_
  refine e_getR (q := 93) dX10_readsSlot_26 fl_RX10_25 (Ms4.s 89 rfl) (Ms4.n (by decide)) rfl (Ms4.r 89 11 rfl) (by unfold fscr; omega) ?_
  refine e_aload_n dX10_readsSlot_29 rfl rfl ?_
  refine e_iconst (nI 0) dX10_readsSlot_30 (by decide) ?_
  refine e_iaload 0 dX10_readsSlot_31 (Ms4.s _ (fsh_readSlot _ (by omega))) (Ms4.n (by omega)) rfl (by omega) (by decide) ?_
  refine e_int (nI (mnv B n 0 (dT D 0) 0 s)) u0_4 ?_
  refine e_aaload (q := 94 + (mnv B n 0 (dT D 0) 0 s)) (mnv B n 0 (dT D 0) 0 s) dX10_readsSlot_32 (Ms4.s 93 rfl) (by decide) (Ms4.n (by decide)) rfl (by omega) (by decide) (Ms4.r 93 _ (frf_readBlock _ (by omega))) (by unfold fscr; omega) ?_
  refine e_astore_n (L1 := [some (.ref 89), some (.ref (108 + dT D 1)), some (.ref (94 + (mnv B n 0 (dT D 0) 0 s)))]) dX10_readsSlot_33 rfl (by decide) rfl ?_
  refine e_aload_n dX10_readsSlot_34 rfl rfl ?_
  refine e_iconst (nI 2) dX10_readsSlot_35 (by decide) ?_
  refine e_aload_n dX10_readsSlot_36 rfl rfl ?_
  refine e_iconst (nI 1) dX10_readsSlot_37 (by decide) ?_
  refine e_aload_n dX10_readsSlot_38 rfl rfl ?_
  refine e_aload_n dX10_readsSlot_39 rfl rfl ?_
  refine e_iconst (nI 1) dX10_readsSlot_40 (by decide) ?_
  refine e_iaload 1 dX10_readsSlot_41 (Ms4.s _ (fsh_readSlot _ (by omega))) (Ms4.n (by omega)) rfl (by omega) (by decide) ?_
  refine e_int (nI (mnv B n 0 2 0 (mnum B n 0 (dT D 0) s))) u1_4 ?_
  refine e_iaload (mnv B n 0 2 0 (mnum B n 0 (dT D 0) s)) dX10_readsSlot_42 (Ms4.s _ (fsh_readBlock _ (by omega))) (Ms4.n (by omega)) rfl (by omega) (by decide) ?_
  refine e_iconst (nI 1) dX10_readsSlot_43 (by decide) ?_
  refine e_isub dX10_readsSlot_44 ?_
  have hh3 : ∀ a, mnum B n 0 2 (mnum B n 0 (dT D 0) s) = .inr a → dB D (mnv B n 0 (dT D 0) 0 s) (mnv B n 0 2 0 (mnum B n 0 (dT D 0) s)) ≤ 1000 := by
    intro a q
    obtain ⟨a2, r2, -, w2, l2, b2⟩ := mnum_ok q
    obtain ⟨a1, r1, -, w1, l1, b1⟩ := mnum_ok r2
    have hv0 : mnv B n 0 (dT D 0) 0 s < dT D 0 := by rw [w1 0]; exact b1
    have hv1 : mnv B n 0 2 0 (mnum B n 0 (dT D 0) s) < 2 := by rw [w2 0]; exact b2
    have bb := hD.2.1 _ hv0
    have db : dB D (mnv B n 0 (dT D 0) 0 s) (mnv B n 0 2 0 (mnum B n 0 (dT D 0) s)) ≤ 12 := by
      rcases (show (mnv B n 0 2 0 (mnum B n 0 (dT D 0) s)) = 0 ∨ (mnv B n 0 2 0 (mnum B n 0 (dT D 0) s)) = 1 by omega) with ew | ew
      · rw [ew]; omega
      · rw [ew]; omega
    omega
  have hl3 : ∀ a, mnum B n 0 2 (mnum B n 0 (dT D 0) s) = .inr a → ∀ v, v < 200000 → (nI v ≤ (fI σ4 (94 + (mnv B n 0 (dT D 0) 0 s)) (mnv B n 0 2 0 (mnum B n 0 (dT D 0) s))) - (nI 1) ↔ v < dB D (mnv B n 0 (dT D 0) 0 s) (mnv B n 0 2 0 (mnum B n 0 (dT D 0) s))) := by
    intro a q
    obtain ⟨a2, r2, -, w2, l2, b2⟩ := mnum_ok q
    obtain ⟨a1, r1, -, w1, l1, b1⟩ := mnum_ok r2
    have hv0 : mnv B n 0 (dT D 0) 0 s < dT D 0 := by rw [w1 0]; exact b1
    have hv1 : mnv B n 0 2 0 (mnum B n 0 (dT D 0) s) < 2 := by rw [w2 0]; exact b2
    have bb := hD.2.1 _ hv0
    have db : dB D (mnv B n 0 (dT D 0) 0 s) (mnv B n 0 2 0 (mnum B n 0 (dT D 0) s)) ≤ 12 := by
      rcases (show (mnv B n 0 2 0 (mnum B n 0 (dT D 0) s)) = 0 ∨ (mnv B n 0 2 0 (mnum B n 0 (dT D 0) s)) = 1 by omega) with ew | ew
      · rw [ew]; omega
      · rw [ew]; omega
    rw [show (fI σ4 (94 + (mnv B n 0 (dT D 0) 0 s)) (mnv B n 0 2 0 (mnum B n 0 (dT D 0) s))) = nI (dB D (mnv B n 0 (dT D 0) 0 s) (mnv B n 0 2 0 (mnum B n 0 (dT D 0) s))) from Rr4.2.1 _ hv0 _ (by omega)]
    exact hr_s (by omega)
  refine e_callV (k := 89) [.int (nI 1), .int ((fI σ4 (94 + (mnv B n 0 (dT D 0) 0 s)) (mnv B n 0 2 0 (mnum B n 0 (dT D 0) s))) - (nI 1))] dX10_readsSlot_45 cc_X10_number lk_RX10_134 im_X10_number se_X10_number (by decide) (Ms4.s 89 rfl) (Ms4.n (by decide)) rfl (Nat.le_of_ble_eq_true rfl) (Nat.le_of_ble_eq_true rfl) ?_
  refine t_X10_number (B := B) (n := n) (s := mnum B n 0 2 (mnum B n 0 (dT D 0) s)) (lo := 1) (hi1 := dB D (mnv B n 0 (dT D 0) 0 s) (mnv B n 0 2 0 (mnum B n 0 (dT D 0) s))) Ms4 hB4 hb hn4 n600 hs4 (by decide) hh3 hl3 (fun σ5 Smx5 hs5 hk5 => ?_)
  show fEv g _ mX10_readsSlot 48 [some (.ref 89), some (.ref (108 + dT D 1)), some (.ref (94 + (mnv B n 0 (dT D 0) 0 s)))] [.int (nI (mnv B n 1 (dB D (mnv B n 0 (dT D 0) 0 s) (mnv B n 0 2 0 (mnum B n 0 (dT D 0) s))) 0 (mnum B n 0 2 (mnum B n 0 (dT D 0) s)))), .int (nI 2), .ref (108 + dT D 1)] σ5 Q
  have Sm5 : fSm fRqA σ σ5 := Sm4.tr (Smx5.to (fun a (q : a = 89) => Or.inl q))
  have Ms5 := Ms.sm Sm5
  have hB5 : ∀ i, i < 600 → fI σ5 90 i = nI (B i) := fun i hi => (Sm5.i (by unfold fRqA; omega) i).trans (hB i hi)
  have hn5 := (hk5 2 (by decide) (by decide) (by decide)).trans hn4
  have hc5 := (hk5 7 (by decide) (by decide) (by decide)).trans hc4
  have ho5 : ∀ j, j ≠ 4 → j ≠ 5 → j ≠ 6 → fI σ5 89 j = fI σ 89 j := fun j h1 h2 h3 => (hk5 j h1 h2 h3).trans (ho4 j h1 h2 h3)
  have Rr5 := Rr4.sm Smx5 hD (fun i h1 h2 (q : i = 89) => by omega)
  have u0_5 := (Smx5.i (fun (q : 108 + dT D 1 = 89) => by omega) 0).trans u0_4
  have u1_5 := (Smx5.i (fun (q : 108 + dT D 1 = 89) => by omega) 1).trans u1_4
  refine e_iastore 2 dX10_readsSlot_48 (Ms5.s _ (fsh_readSlot _ (by omega))) (Ms5.n (by omega)) rfl (by omega) (by decide) ?_
  have Smx6 : fSm (fun a => a = 108 + dT D 1) σ5 (fsI σ5 (108 + dT D 1) 2 (nI (mnv B n 1 (dB D (mnv B n 0 (dT D 0) 0 s) (mnv B n 0 2 0 (mnum B n 0 (dT D 0) s))) 0 (mnum B n 0 2 (mnum B n 0 (dT D 0) s))))) := fSm_I rfl
  have Sm6 : fSm fRqA σ (fsI σ5 (108 + dT D 1) 2 (nI (mnv B n 1 (dB D (mnv B n 0 (dT D 0) 0 s) (mnv B n 0 2 0 (mnum B n 0 (dT D 0) s))) 0 (mnum B n 0 2 (mnum B n 0 (dT D 0) s))))) := Sm5.tr (Smx6.to (fun a (q : a = 108 + dT D 1) => (by omega : a = 89 ∨ a = 91 ∨ (94 ≤ a ∧ a < 100) ∨ (108 ≤ a ∧ a < 120) ∨ (134 ≤ a ∧ a < 140) ∨ (148 ≤ a ∧ a < 172))))
  have Ms6 := Ms.sm Sm6
  have hs6 : fPs (fsI σ5 (108 + dT D 1) 2 (nI (mnv B n 1 (dB D (mnv B n 0 (dT D 0) 0 s) (mnv B n 0 2 0 (mnum B n 0 (dT D 0) s))) 0 (mnum B n 0 2 (mnum B n 0 (dT D 0) s))))) 89 4 n (mnum B n 1 (dB D (mnv B n 0 (dT D 0) 0 s) (mnv B n 0 2 0 (mnum B n 0 (dT D 0) s))) (mnum B n 0 2 (mnum B n 0 (dT D 0) s))) := hs5.sm (fun q => by rw [fI_I, if_neg (by omega)])
  have Rr6 : fRr (fsI σ5 (108 + dT D 1) 2 (nI (mnv B n 1 (dB D (mnv B n 0 (dT D 0) 0 s) (mnv B n 0 2 0 (mnum B n 0 (dT D 0) s))) 0 (mnum B n 0 2 (mnum B n 0 (dT D 0) s))))) D := Rr5.ne hD (by omega)
  have hB6 : ∀ i, i < 600 → fI (fsI σ5 (108 + dT D 1) 2 (nI (mnv B n 1 (dB D (mnv B n 0 (dT D 0) 0 s) (mnv B n 0 2 0 (mnum B n 0 (dT D 0) s))) 0 (mnum B n 0 2 (mnum B n 0 (dT D 0) s))))) 90 i = nI (B i) := fun i hi => by rw [fI_I, if_neg (by omega)]; exact hB5 i hi
  have hn6 : fI (fsI σ5 (108 + dT D 1) 2 (nI (mnv B n 1 (dB D (mnv B n 0 (dT D 0) 0 s) (mnv B n 0 2 0 (mnum B n 0 (dT D 0) s))) 0 (mnum B n 0 2 (mnum B n 0 (dT D 0) s))))) 89 2 = nI n := by rw [fI_I, if_neg (by omega)]; exact hn5
  have hc6 : fI (fsI σ5 (108 + dT D 1) 2 (nI (mnv B n 1 (dB D (mnv B n 0 (dT D 0) 0 s) (mnv B n 0 2 0 (mnum B n 0 (dT D 0) s))) 0 (mnum B n 0 2 (mnum B n 0 (dT D 0) s))))) 89 7 = nI c9 := by rw [fI_I, if_neg (by omega)]; exact hc5
  have ho6 : ∀ j, j ≠ 4 → j ≠ 5 → j ≠ 6 → fI (fsI σ5 (108 + dT D 1) 2 (nI (mnv B n 1 (dB D (mnv B n 0 (dT D 0) 0 s) (mnv B n 0 2 0 (mnum B n 0 (dT D 0) s))) 0 (mnum B n 0 2 (mnum B n 0 (dT D 0) s))))) 89 j = fI σ 89 j := fun j h1 h2 h3 => by rw [fI_I, if_neg (by omega)]; exact ho5 j h1 h2 h3
  have u0_6 : fI (fsI σ5 (108 + dT D 1) 2 (nI (mnv B n 1 (dB D (mnv B n 0 (dT D 0) 0 s) (mnv B n 0 2 0 (mnum B n 0 (dT D 0) s))) 0 (mnum B n 0 2 (mnum B n 0 (dT D 0) s))))) (108 + dT D 1) 0 = nI (mnv B n 0 (dT D 0) 0 s) := by rw [fI_I, if_neg (by omega)]; exact u0_5
  have u1_6 : fI (fsI σ5 (108 + dT D 1) 2 (nI (mnv B n 1 (dB D (mnv B n 0 (dT D 0) 0 s) (mnv B n 0 2 0 (mnum B n 0 (dT D 0) s))) 0 (mnum B n 0 2 (mnum B n 0 (dT D 0) s))))) (108 + dT D 1) 1 = nI (mnv B n 0 2 0 (mnum B n 0 (dT D 0) s)) := by rw [fI_I, if_neg (by omega)]; exact u1_5
  have u2_6 : fI (fsI σ5 (108 + dT D 1) 2 (nI (mnv B n 1 (dB D (mnv B n 0 (dT D 0) 0 s) (mnv B n 0 2 0 (mnum B n 0 (dT D 0) s))) 0 (mnum B n 0 2 (mnum B n 0 (dT D 0) s))))) (108 + dT D 1) 2 = nI (mnv B n 1 (dB D (mnv B n 0 (dT D 0) 0 s) (mnv B n 0 2 0 (mnum B n 0 (dT D 0) s))) 0 (mnum B n 0 2 (mnum B n 0 (dT D 0) s))) := by rw [fI_I, if_pos ⟨rfl, rfl⟩]
  generalize fsI σ5 (108 + dT D 1) 2 (nI (mnv B n 1 (dB D (mnv B n 0 (dT D 0) 0 s) (mnv B n 0 2 0 (mnum B n 0 (dT D 0) s))) 0 (mnum B n 0 2 (mnum B n 0 (dT D 0) s)))) = σ6 at Smx6 Sm6 Ms6 hs6 Rr6 hB6 hn6 hc6 ho6 u0_6 u1_6 u2_6 ⊢
  refine e_aload_n dX10_readsSlot_49 rfl rfl ?_
  refine e_iconst (nI 3) dX10_readsSlot_50 (by decide) ?_
  refine e_aload_n dX10_readsSlot_51 rfl rfl ?_
  refine e_iconst (nI 0) dX10_readsSlot_52 (by decide) ?_
  refine e_aload_n dX10_readsSlot_53 rfl rfl ?_
  refine e_iconst (nI 1) dX10_readsSlot_54 (by decide) ?_
  refine e_aload_n dX10_readsSlot_55 rfl rfl ?_
  refine e_iconst (nI 1) dX10_readsSlot_56 (by decide) ?_
  refine e_iaload 1 dX10_readsSlot_57 (Ms6.s _ (fsh_readSlot _ (by omega))) (Ms6.n (by omega)) rfl (by omega) (by decide) ?_
  refine e_int (nI (mnv B n 0 2 0 (mnum B n 0 (dT D 0) s))) u1_6 ?_
  refine e_isub dX10_readsSlot_58 ?_
  refine e_int (nI (1 - (mnv B n 0 2 0 (mnum B n 0 (dT D 0) s)))) (pk_sub (by omega)) ?_
  refine e_iaload (1 - (mnv B n 0 2 0 (mnum B n 0 (dT D 0) s))) dX10_readsSlot_59 (Ms6.s _ (fsh_readBlock _ (by omega))) (Ms6.n (by omega)) rfl (by omega) (by decide) ?_
  refine e_iconst (nI 1) dX10_readsSlot_60 (by decide) ?_
  refine e_isub dX10_readsSlot_61 ?_
  have hh4 : ∀ a, mnum B n 1 (dB D (mnv B n 0 (dT D 0) 0 s) (mnv B n 0 2 0 (mnum B n 0 (dT D 0) s))) (mnum B n 0 2 (mnum B n 0 (dT D 0) s)) = .inr a → dB D (mnv B n 0 (dT D 0) 0 s) (1 - mnv B n 0 2 0 (mnum B n 0 (dT D 0) s)) ≤ 1000 := by
    intro a q
    obtain ⟨a3, r3, -, w3, l3, b3⟩ := mnum_ok q
    obtain ⟨a2, r2, -, w2, l2, b2⟩ := mnum_ok r3
    obtain ⟨a1, r1, -, w1, l1, b1⟩ := mnum_ok r2
    have hv0 : mnv B n 0 (dT D 0) 0 s < dT D 0 := by rw [w1 0]; exact b1
    have hv1 : mnv B n 0 2 0 (mnum B n 0 (dT D 0) s) < 2 := by rw [w2 0]; exact b2
    have bb := hD.2.1 _ hv0
    have db : dB D (mnv B n 0 (dT D 0) 0 s) (1 - mnv B n 0 2 0 (mnum B n 0 (dT D 0) s)) ≤ 12 := by
      rcases (show (1 - mnv B n 0 2 0 (mnum B n 0 (dT D 0) s)) = 0 ∨ (1 - mnv B n 0 2 0 (mnum B n 0 (dT D 0) s)) = 1 by omega) with ew | ew
      · rw [ew]; omega
      · rw [ew]; omega
    omega
  have hl4 : ∀ a, mnum B n 1 (dB D (mnv B n 0 (dT D 0) 0 s) (mnv B n 0 2 0 (mnum B n 0 (dT D 0) s))) (mnum B n 0 2 (mnum B n 0 (dT D 0) s)) = .inr a → ∀ v, v < 200000 → (nI v ≤ (fI σ6 (94 + (mnv B n 0 (dT D 0) 0 s)) (1 - (mnv B n 0 2 0 (mnum B n 0 (dT D 0) s)))) - (nI 1) ↔ v < dB D (mnv B n 0 (dT D 0) 0 s) (1 - mnv B n 0 2 0 (mnum B n 0 (dT D 0) s))) := by
    intro a q
    obtain ⟨a3, r3, -, w3, l3, b3⟩ := mnum_ok q
    obtain ⟨a2, r2, -, w2, l2, b2⟩ := mnum_ok r3
    obtain ⟨a1, r1, -, w1, l1, b1⟩ := mnum_ok r2
    have hv0 : mnv B n 0 (dT D 0) 0 s < dT D 0 := by rw [w1 0]; exact b1
    have hv1 : mnv B n 0 2 0 (mnum B n 0 (dT D 0) s) < 2 := by rw [w2 0]; exact b2
    have bb := hD.2.1 _ hv0
    have db : dB D (mnv B n 0 (dT D 0) 0 s) (1 - mnv B n 0 2 0 (mnum B n 0 (dT D 0) s)) ≤ 12 := by
      rcases (show (1 - mnv B n 0 2 0 (mnum B n 0 (dT D 0) s)) = 0 ∨ (1 - mnv B n 0 2 0 (mnum B n 0 (dT D 0) s)) = 1 by omega) with ew | ew
      · rw [ew]; omega
      · rw [ew]; omega
    rw [show (fI σ6 (94 + (mnv B n 0 (dT D 0) 0 s)) (1 - (mnv B n 0 2 0 (mnum B n 0 (dT D 0) s)))) = nI (dB D (mnv B n 0 (dT D 0) 0 s) (1 - mnv B n 0 2 0 (mnum B n 0 (dT D 0) s))) from Rr6.2.1 _ hv0 _ (by omega)]
    exact hr_s (by omega)
  refine e_callV (k := 89) [.int (nI 0), .int ((fI σ6 (94 + (mnv B n 0 (dT D 0) 0 s)) (1 - (mnv B n 0 2 0 (mnum B n 0 (dT D 0) s)))) - (nI 1))] dX10_readsSlot_62 cc_X10_number lk_RX10_134 im_X10_number se_X10_number (by decide) (Ms6.s 89 rfl) (Ms6.n (by decide)) rfl (Nat.le_of_ble_eq_true rfl) (Nat.le_of_ble_eq_true rfl) ?_
  refine t_X10_number (B := B) (n := n) (s := mnum B n 1 (dB D (mnv B n 0 (dT D 0) 0 s) (mnv B n 0 2 0 (mnum B n 0 (dT D 0) s))) (mnum B n 0 2 (mnum B n 0 (dT D 0) s))) (lo := 0) (hi1 := dB D (mnv B n 0 (dT D 0) 0 s) (1 - mnv B n 0 2 0 (mnum B n 0 (dT D 0) s))) Ms6 hB6 hb hn6 n600 hs6 (by decide) hh4 hl4 (fun σ7 Smx7 hs7 hk7 => ?_)
  show fEv g _ mX10_readsSlot 65 [some (.ref 89), some (.ref (108 + dT D 1)), some (.ref (94 + (mnv B n 0 (dT D 0) 0 s)))] [.int (nI (mnv B n 0 (dB D (mnv B n 0 (dT D 0) 0 s) (1 - mnv B n 0 2 0 (mnum B n 0 (dT D 0) s))) 0 (mnum B n 1 (dB D (mnv B n 0 (dT D 0) 0 s) (mnv B n 0 2 0 (mnum B n 0 (dT D 0) s))) (mnum B n 0 2 (mnum B n 0 (dT D 0) s))))), .int (nI 3), .ref (108 + dT D 1)] σ7 Q
  have Sm7 : fSm fRqA σ σ7 := Sm6.tr (Smx7.to (fun a (q : a = 89) => Or.inl q))
  have Ms7 := Ms.sm Sm7
  have hB7 : ∀ i, i < 600 → fI σ7 90 i = nI (B i) := fun i hi => (Sm7.i (by unfold fRqA; omega) i).trans (hB i hi)
  have hn7 := (hk7 2 (by decide) (by decide) (by decide)).trans hn6
  have hc7 := (hk7 7 (by decide) (by decide) (by decide)).trans hc6
  have ho7 : ∀ j, j ≠ 4 → j ≠ 5 → j ≠ 6 → fI σ7 89 j = fI σ 89 j := fun j h1 h2 h3 => (hk7 j h1 h2 h3).trans (ho6 j h1 h2 h3)
  have Rr7 := Rr6.sm Smx7 hD (fun i h1 h2 (q : i = 89) => by omega)
  have u0_7 := (Smx7.i (fun (q : 108 + dT D 1 = 89) => by omega) 0).trans u0_6
  have u1_7 := (Smx7.i (fun (q : 108 + dT D 1 = 89) => by omega) 1).trans u1_6
  have u2_7 := (Smx7.i (fun (q : 108 + dT D 1 = 89) => by omega) 2).trans u2_6
  refine e_iastore 3 dX10_readsSlot_65 (Ms7.s _ (fsh_readSlot _ (by omega))) (Ms7.n (by omega)) rfl (by omega) (by decide) ?_
  have Smx8 : fSm (fun a => a = 108 + dT D 1) σ7 (fsI σ7 (108 + dT D 1) 3 (nI (mnv B n 0 (dB D (mnv B n 0 (dT D 0) 0 s) (1 - mnv B n 0 2 0 (mnum B n 0 (dT D 0) s))) 0 (mnum B n 1 (dB D (mnv B n 0 (dT D 0) 0 s) (mnv B n 0 2 0 (mnum B n 0 (dT D 0) s))) (mnum B n 0 2 (mnum B n 0 (dT D 0) s)))))) := fSm_I rfl
  have Sm8 : fSm fRqA σ (fsI σ7 (108 + dT D 1) 3 (nI (mnv B n 0 (dB D (mnv B n 0 (dT D 0) 0 s) (1 - mnv B n 0 2 0 (mnum B n 0 (dT D 0) s))) 0 (mnum B n 1 (dB D (mnv B n 0 (dT D 0) 0 s) (mnv B n 0 2 0 (mnum B n 0 (dT D 0) s))) (mnum B n 0 2 (mnum B n 0 (dT D 0) s)))))) := Sm7.tr (Smx8.to (fun a (q : a = 108 + dT D 1) => (by omega : a = 89 ∨ a = 91 ∨ (94 ≤ a ∧ a < 100) ∨ (108 ≤ a ∧ a < 120) ∨ (134 ≤ a ∧ a < 140) ∨ (148 ≤ a ∧ a < 172))))
  have Ms8 := Ms.sm Sm8
  have hs8 : fPs (fsI σ7 (108 + dT D 1) 3 (nI (mnv B n 0 (dB D (mnv B n 0 (dT D 0) 0 s) (1 - mnv B n 0 2 0 (mnum B n 0 (dT D 0) s))) 0 (mnum B n 1 (dB D (mnv B n 0 (dT D 0) 0 s) (mnv B n 0 2 0 (mnum B n 0 (dT D 0) s))) (mnum B n 0 2 (mnum B n 0 (dT D 0) s)))))) 89 4 n (mnum B n 0 (dB D (mnv B n 0 (dT D 0) 0 s) (1 - mnv B n 0 2 0 (mnum B n 0 (dT D 0) s))) (mnum B n 1 (dB D (mnv B n 0 (dT D 0) 0 s) (mnv B n 0 2 0 (mnum B n 0 (dT D 0) s))) (mnum B n 0 2 (mnum B n 0 (dT D 0) s)))) := hs7.sm (fun q => by rw [fI_I, if_neg (by omega)])
  have Rr8 : fRr (fsI σ7 (108 + dT D 1) 3 (nI (mnv B n 0 (dB D (mnv B n 0 (dT D 0) 0 s) (1 - mnv B n 0 2 0 (mnum B n 0 (dT D 0) s))) 0 (mnum B n 1 (dB D (mnv B n 0 (dT D 0) 0 s) (mnv B n 0 2 0 (mnum B n 0 (dT D 0) s))) (mnum B n 0 2 (mnum B n 0 (dT D 0) s)))))) D := Rr7.ne hD (by omega)
  have hB8 : ∀ i, i < 600 → fI (fsI σ7 (108 + dT D 1) 3 (nI (mnv B n 0 (dB D (mnv B n 0 (dT D 0) 0 s) (1 - mnv B n 0 2 0 (mnum B n 0 (dT D 0) s))) 0 (mnum B n 1 (dB D (mnv B n 0 (dT D 0) 0 s) (mnv B n 0 2 0 (mnum B n 0 (dT D 0) s))) (mnum B n 0 2 (mnum B n 0 (dT D 0) s)))))) 90 i = nI (B i) := fun i hi => by rw [fI_I, if_neg (by omega)]; exact hB7 i hi
  have hn8 : fI (fsI σ7 (108 + dT D 1) 3 (nI (mnv B n 0 (dB D (mnv B n 0 (dT D 0) 0 s) (1 - mnv B n 0 2 0 (mnum B n 0 (dT D 0) s))) 0 (mnum B n 1 (dB D (mnv B n 0 (dT D 0) 0 s) (mnv B n 0 2 0 (mnum B n 0 (dT D 0) s))) (mnum B n 0 2 (mnum B n 0 (dT D 0) s)))))) 89 2 = nI n := by rw [fI_I, if_neg (by omega)]; exact hn7
  have hc8 : fI (fsI σ7 (108 + dT D 1) 3 (nI (mnv B n 0 (dB D (mnv B n 0 (dT D 0) 0 s) (1 - mnv B n 0 2 0 (mnum B n 0 (dT D 0) s))) 0 (mnum B n 1 (dB D (mnv B n 0 (dT D 0) 0 s) (mnv B n 0 2 0 (mnum B n 0 (dT D 0) s))) (mnum B n 0 2 (mnum B n 0 (dT D 0) s)))))) 89 7 = nI c9 := by rw [fI_I, if_neg (by omega)]; exact hc7
  have ho8 : ∀ j, j ≠ 4 → j ≠ 5 → j ≠ 6 → fI (fsI σ7 (108 + dT D 1) 3 (nI (mnv B n 0 (dB D (mnv B n 0 (dT D 0) 0 s) (1 - mnv B n 0 2 0 (mnum B n 0 (dT D 0) s))) 0 (mnum B n 1 (dB D (mnv B n 0 (dT D 0) 0 s) (mnv B n 0 2 0 (mnum B n 0 (dT D 0) s))) (mnum B n 0 2 (mnum B n 0 (dT D 0) s)))))) 89 j = fI σ 89 j := fun j h1 h2 h3 => by rw [fI_I, if_neg (by omega)]; exact ho7 j h1 h2 h3
  have u0_8 : fI (fsI σ7 (108 + dT D 1) 3 (nI (mnv B n 0 (dB D (mnv B n 0 (dT D 0) 0 s) (1 - mnv B n 0 2 0 (mnum B n 0 (dT D 0) s))) 0 (mnum B n 1 (dB D (mnv B n 0 (dT D 0) 0 s) (mnv B n 0 2 0 (mnum B n 0 (dT D 0) s))) (mnum B n 0 2 (mnum B n 0 (dT D 0) s)))))) (108 + dT D 1) 0 = nI (mnv B n 0 (dT D 0) 0 s) := by rw [fI_I, if_neg (by omega)]; exact u0_7
  have u1_8 : fI (fsI σ7 (108 + dT D 1) 3 (nI (mnv B n 0 (dB D (mnv B n 0 (dT D 0) 0 s) (1 - mnv B n 0 2 0 (mnum B n 0 (dT D 0) s))) 0 (mnum B n 1 (dB D (mnv B n 0 (dT D 0) 0 s) (mnv B n 0 2 0 (mnum B n 0 (dT D 0) s))) (mnum B n 0 2 (mnum B n 0 (dT D 0) s)))))) (108 + dT D 1) 1 = nI (mnv B n 0 2 0 (mnum B n 0 (dT D 0) s)) := by rw [fI_I, if_neg (by omega)]; exact u1_7
  have u2_8 : fI (fsI σ7 (108 + dT D 1) 3 (nI (mnv B n 0 (dB D (mnv B n 0 (dT D 0) 0 s) (1 - mnv B n 0 2 0 (mnum B n 0 (dT D 0) s))) 0 (mnum B n 1 (dB D (mnv B n 0 (dT D 0) 0 s) (mnv B n 0 2 0 (mnum B n 0 (dT D 0) s))) (mnum B n 0 2 (mnum B n 0 (dT D 0) s)))))) (108 + dT D 1) 2 = nI (mnv B n 1 (dB D (mnv B n 0 (dT D 0) 0 s) (mnv B n 0 2 0 (mnum B n 0 (dT D 0) s))) 0 (mnum B n 0 2 (mnum B n 0 (dT D 0) s))) := by rw [fI_I, if_neg (by omega)]; exact u2_7
  have u3_8 : fI (fsI σ7 (108 + dT D 1) 3 (nI (mnv B n 0 (dB D (mnv B n 0 (dT D 0) 0 s) (1 - mnv B n 0 2 0 (mnum B n 0 (dT D 0) s))) 0 (mnum B n 1 (dB D (mnv B n 0 (dT D 0) 0 s) (mnv B n 0 2 0 (mnum B n 0 (dT D 0) s))) (mnum B n 0 2 (mnum B n 0 (dT D 0) s)))))) (108 + dT D 1) 3 = nI (mnv B n 0 (dB D (mnv B n 0 (dT D 0) 0 s) (1 - mnv B n 0 2 0 (mnum B n 0 (dT D 0) s))) 0 (mnum B n 1 (dB D (mnv B n 0 (dT D 0) 0 s) (mnv B n 0 2 0 (mnum B n 0 (dT D 0) s))) (mnum B n 0 2 (mnum B n 0 (dT D 0) s)))) := by rw [fI_I, if_pos ⟨rfl, rfl⟩]
  generalize fsI σ7 (108 + dT D 1) 3 (nI (mnv B n 0 (dB D (mnv B n 0 (dT D 0) 0 s) (1 - mnv B n 0 2 0 (mnum B n 0 (dT D 0) s))) 0 (mnum B n 1 (dB D (mnv B n 0 (dT D 0) 0 s) (mnv B n 0 2 0 (mnum B n 0 (dT D 0) s))) (mnum B n 0 2 (mnum B n 0 (dT D 0) s))))) = σ8 at Smx8 Sm8 Ms8 hs8 Rr8 hB8 hn8 hc8 ho8 u0_8 u1_8 u2_8 u3_8 ⊢
  refine e_aload_n dX10_readsSlot_66 rfl rfl ?_
  refine e_iconst (nI 4) dX10_readsSlot_67 (by decide) ?_
  refine e_aload_n dX10_readsSlot_68 rfl rfl ?_
  refine e_iconst (nI 1) dX10_readsSlot_69 (by decide) ?_
  refine e_bipush (nI 9) dX10_readsSlot_70 (by decide) ?_
  refine e_callV (k := 89) [.int (nI 1), .int (nI 9)] dX10_readsSlot_72 cc_X10_number lk_RX10_134 im_X10_number se_X10_number (by decide) (Ms8.s 89 rfl) (Ms8.n (by decide)) rfl (Nat.le_of_ble_eq_true rfl) (Nat.le_of_ble_eq_true rfl) ?_
  refine t_X10_number (B := B) (n := n) (s := mnum B n 0 (dB D (mnv B n 0 (dT D 0) 0 s) (1 - mnv B n 0 2 0 (mnum B n 0 (dT D 0) s))) (mnum B n 1 (dB D (mnv B n 0 (dT D 0) 0 s) (mnv B n 0 2 0 (mnum B n 0 (dT D 0) s))) (mnum B n 0 2 (mnum B n 0 (dT D 0) s)))) (lo := 1) (hi1 := 10) Ms8 hB8 hb hn8 n600 hs8 (by decide) (fun _ _ => by decide) (fun _ _ => hr_n (by decide)) (fun σ9 Smx9 hs9 hk9 => ?_)
  show fEv g _ mX10_readsSlot 75 [some (.ref 89), some (.ref (108 + dT D 1)), some (.ref (94 + (mnv B n 0 (dT D 0) 0 s)))] [.int (nI (mnv B n 1 10 0 (mnum B n 0 (dB D (mnv B n 0 (dT D 0) 0 s) (1 - mnv B n 0 2 0 (mnum B n 0 (dT D 0) s))) (mnum B n 1 (dB D (mnv B n 0 (dT D 0) 0 s) (mnv B n 0 2 0 (mnum B n 0 (dT D 0) s))) (mnum B n 0 2 (mnum B n 0 (dT D 0) s)))))), .int (nI 4), .ref (108 + dT D 1)] σ9 Q
  have Sm9 : fSm fRqA σ σ9 := Sm8.tr (Smx9.to (fun a (q : a = 89) => Or.inl q))
  have Ms9 := Ms.sm Sm9
  have hB9 : ∀ i, i < 600 → fI σ9 90 i = nI (B i) := fun i hi => (Sm9.i (by unfold fRqA; omega) i).trans (hB i hi)
  have hn9 := (hk9 2 (by decide) (by decide) (by decide)).trans hn8
  have hc9 := (hk9 7 (by decide) (by decide) (by decide)).trans hc8
  have ho9 : ∀ j, j ≠ 4 → j ≠ 5 → j ≠ 6 → fI σ9 89 j = fI σ 89 j := fun j h1 h2 h3 => (hk9 j h1 h2 h3).trans (ho8 j h1 h2 h3)
  have Rr9 := Rr8.sm Smx9 hD (fun i h1 h2 (q : i = 89) => by omega)
  have u0_9 := (Smx9.i (fun (q : 108 + dT D 1 = 89) => by omega) 0).trans u0_8
  have u1_9 := (Smx9.i (fun (q : 108 + dT D 1 = 89) => by omega) 1).trans u1_8
  have u2_9 := (Smx9.i (fun (q : 108 + dT D 1 = 89) => by omega) 2).trans u2_8
  have u3_9 := (Smx9.i (fun (q : 108 + dT D 1 = 89) => by omega) 3).trans u3_8
  refine e_iastore 4 dX10_readsSlot_75 (Ms9.s _ (fsh_readSlot _ (by omega))) (Ms9.n (by omega)) rfl (by omega) (by decide) ?_
  have Smx10 : fSm (fun a => a = 108 + dT D 1) σ9 (fsI σ9 (108 + dT D 1) 4 (nI (mnv B n 1 10 0 (mnum B n 0 (dB D (mnv B n 0 (dT D 0) 0 s) (1 - mnv B n 0 2 0 (mnum B n 0 (dT D 0) s))) (mnum B n 1 (dB D (mnv B n 0 (dT D 0) 0 s) (mnv B n 0 2 0 (mnum B n 0 (dT D 0) s))) (mnum B n 0 2 (mnum B n 0 (dT D 0) s))))))) := fSm_I rfl
  have Sm10 : fSm fRqA σ (fsI σ9 (108 + dT D 1) 4 (nI (mnv B n 1 10 0 (mnum B n 0 (dB D (mnv B n 0 (dT D 0) 0 s) (1 - mnv B n 0 2 0 (mnum B n 0 (dT D 0) s))) (mnum B n 1 (dB D (mnv B n 0 (dT D 0) 0 s) (mnv B n 0 2 0 (mnum B n 0 (dT D 0) s))) (mnum B n 0 2 (mnum B n 0 (dT D 0) s))))))) := Sm9.tr (Smx10.to (fun a (q : a = 108 + dT D 1) => (by omega : a = 89 ∨ a = 91 ∨ (94 ≤ a ∧ a < 100) ∨ (108 ≤ a ∧ a < 120) ∨ (134 ≤ a ∧ a < 140) ∨ (148 ≤ a ∧ a < 172))))
  have Ms10 := Ms.sm Sm10
  have hs10 : fPs (fsI σ9 (108 + dT D 1) 4 (nI (mnv B n 1 10 0 (mnum B n 0 (dB D (mnv B n 0 (dT D 0) 0 s) (1 - mnv B n 0 2 0 (mnum B n 0 (dT D 0) s))) (mnum B n 1 (dB D (mnv B n 0 (dT D 0) 0 s) (mnv B n 0 2 0 (mnum B n 0 (dT D 0) s))) (mnum B n 0 2 (mnum B n 0 (dT D 0) s))))))) 89 4 n (mnum B n 1 10 (mnum B n 0 (dB D (mnv B n 0 (dT D 0) 0 s) (1 - mnv B n 0 2 0 (mnum B n 0 (dT D 0) s))) (mnum B n 1 (dB D (mnv B n 0 (dT D 0) 0 s) (mnv B n 0 2 0 (mnum B n 0 (dT D 0) s))) (mnum B n 0 2 (mnum B n 0 (dT D 0) s))))) := hs9.sm (fun q => by rw [fI_I, if_neg (by omega)])
  have Rr10 : fRr (fsI σ9 (108 + dT D 1) 4 (nI (mnv B n 1 10 0 (mnum B n 0 (dB D (mnv B n 0 (dT D 0) 0 s) (1 - mnv B n 0 2 0 (mnum B n 0 (dT D 0) s))) (mnum B n 1 (dB D (mnv B n 0 (dT D 0) 0 s) (mnv B n 0 2 0 (mnum B n 0 (dT D 0) s))) (mnum B n 0 2 (mnum B n 0 (dT D 0) s))))))) D := Rr9.ne hD (by omega)
  have hB10 : ∀ i, i < 600 → fI (fsI σ9 (108 + dT D 1) 4 (nI (mnv B n 1 10 0 (mnum B n 0 (dB D (mnv B n 0 (dT D 0) 0 s) (1 - mnv B n 0 2 0 (mnum B n 0 (dT D 0) s))) (mnum B n 1 (dB D (mnv B n 0 (dT D 0) 0 s) (mnv B n 0 2 0 (mnum B n 0 (dT D 0) s))) (mnum B n 0 2 (mnum B n 0 (dT D 0) s))))))) 90 i = nI (B i) := fun i hi => by rw [fI_I, if_neg (by omega)]; exact hB9 i hi
  have hn10 : fI (fsI σ9 (108 + dT D 1) 4 (nI (mnv B n 1 10 0 (mnum B n 0 (dB D (mnv B n 0 (dT D 0) 0 s) (1 - mnv B n 0 2 0 (mnum B n 0 (dT D 0) s))) (mnum B n 1 (dB D (mnv B n 0 (dT D 0) 0 s) (mnv B n 0 2 0 (mnum B n 0 (dT D 0) s))) (mnum B n 0 2 (mnum B n 0 (dT D 0) s))))))) 89 2 = nI n := by rw [fI_I, if_neg (by omega)]; exact hn9
  have hc10 : fI (fsI σ9 (108 + dT D 1) 4 (nI (mnv B n 1 10 0 (mnum B n 0 (dB D (mnv B n 0 (dT D 0) 0 s) (1 - mnv B n 0 2 0 (mnum B n 0 (dT D 0) s))) (mnum B n 1 (dB D (mnv B n 0 (dT D 0) 0 s) (mnv B n 0 2 0 (mnum B n 0 (dT D 0) s))) (mnum B n 0 2 (mnum B n 0 (dT D 0) s))))))) 89 7 = nI c9 := by rw [fI_I, if_neg (by omega)]; exact hc9
  have ho10 : ∀ j, j ≠ 4 → j ≠ 5 → j ≠ 6 → fI (fsI σ9 (108 + dT D 1) 4 (nI (mnv B n 1 10 0 (mnum B n 0 (dB D (mnv B n 0 (dT D 0) 0 s) (1 - mnv B n 0 2 0 (mnum B n 0 (dT D 0) s))) (mnum B n 1 (dB D (mnv B n 0 (dT D 0) 0 s) (mnv B n 0 2 0 (mnum B n 0 (dT D 0) s))) (mnum B n 0 2 (mnum B n 0 (dT D 0) s))))))) 89 j = fI σ 89 j := fun j h1 h2 h3 => by rw [fI_I, if_neg (by omega)]; exact ho9 j h1 h2 h3
  have u0_10 : fI (fsI σ9 (108 + dT D 1) 4 (nI (mnv B n 1 10 0 (mnum B n 0 (dB D (mnv B n 0 (dT D 0) 0 s) (1 - mnv B n 0 2 0 (mnum B n 0 (dT D 0) s))) (mnum B n 1 (dB D (mnv B n 0 (dT D 0) 0 s) (mnv B n 0 2 0 (mnum B n 0 (dT D 0) s))) (mnum B n 0 2 (mnum B n 0 (dT D 0) s))))))) (108 + dT D 1) 0 = nI (mnv B n 0 (dT D 0) 0 s) := by rw [fI_I, if_neg (by omega)]; exact u0_9
  have u1_10 : fI (fsI σ9 (108 + dT D 1) 4 (nI (mnv B n 1 10 0 (mnum B n 0 (dB D (mnv B n 0 (dT D 0) 0 s) (1 - mnv B n 0 2 0 (mnum B n 0 (dT D 0) s))) (mnum B n 1 (dB D (mnv B n 0 (dT D 0) 0 s) (mnv B n 0 2 0 (mnum B n 0 (dT D 0) s))) (mnum B n 0 2 (mnum B n 0 (dT D 0) s))))))) (108 + dT D 1) 1 = nI (mnv B n 0 2 0 (mnum B n 0 (dT D 0) s)) := by rw [fI_I, if_neg (by omega)]; exact u1_9
  have u2_10 : fI (fsI σ9 (108 + dT D 1) 4 (nI (mnv B n 1 10 0 (mnum B n 0 (dB D (mnv B n 0 (dT D 0) 0 s) (1 - mnv B n 0 2 0 (mnum B n 0 (dT D 0) s))) (mnum B n 1 (dB D (mnv B n 0 (dT D 0) 0 s) (mnv B n 0 2 0 (mnum B n 0 (dT D 0) s))) (mnum B n 0 2 (mnum B n 0 (dT D 0) s))))))) (108 + dT D 1) 2 = nI (mnv B n 1 (dB D (mnv B n 0 (dT D 0) 0 s) (mnv B n 0 2 0 (mnum B n 0 (dT D 0) s))) 0 (mnum B n 0 2 (mnum B n 0 (dT D 0) s))) := by rw [fI_I, if_neg (by omega)]; exact u2_9
  have u3_10 : fI (fsI σ9 (108 + dT D 1) 4 (nI (mnv B n 1 10 0 (mnum B n 0 (dB D (mnv B n 0 (dT D 0) 0 s) (1 - mnv B n 0 2 0 (mnum B n 0 (dT D 0) s))) (mnum B n 1 (dB D (mnv B n 0 (dT D 0) 0 s) (mnv B n 0 2 0 (mnum B n 0 (dT D 0) s))) (mnum B n 0 2 (mnum B n 0 (dT D 0) s))))))) (108 + dT D 1) 3 = nI (mnv B n 0 (dB D (mnv B n 0 (dT D 0) 0 s) (1 - mnv B n 0 2 0 (mnum B n 0 (dT D 0) s))) 0 (mnum B n 1 (dB D (mnv B n 0 (dT D 0) 0 s) (mnv B n 0 2 0 (mnum B n 0 (dT D 0) s))) (mnum B n 0 2 (mnum B n 0 (dT D 0) s)))) := by rw [fI_I, if_neg (by omega)]; exact u3_9
  have u4_10 : fI (fsI σ9 (108 + dT D 1) 4 (nI (mnv B n 1 10 0 (mnum B n 0 (dB D (mnv B n 0 (dT D 0) 0 s) (1 - mnv B n 0 2 0 (mnum B n 0 (dT D 0) s))) (mnum B n 1 (dB D (mnv B n 0 (dT D 0) 0 s) (mnv B n 0 2 0 (mnum B n 0 (dT D 0) s))) (mnum B n 0 2 (mnum B n 0 (dT D 0) s))))))) (108 + dT D 1) 4 = nI (mnv B n 1 10 0 (mnum B n 0 (dB D (mnv B n 0 (dT D 0) 0 s) (1 - mnv B n 0 2 0 (mnum B n 0 (dT D 0) s))) (mnum B n 1 (dB D (mnv B n 0 (dT D 0) 0 s) (mnv B n 0 2 0 (mnum B n 0 (dT D 0) s))) (mnum B n 0 2 (mnum B n 0 (dT D 0) s))))) := by rw [fI_I, if_pos ⟨rfl, rfl⟩]
  generalize fsI σ9 (108 + dT D 1) 4 (nI (mnv B n 1 10 0 (mnum B n 0 (dB D (mnv B n 0 (dT D 0) 0 s) (1 - mnv B n 0 2 0 (mnum B n 0 (dT D 0) s))) (mnum B n 1 (dB D (mnv B n 0 (dT D 0) 0 s) (mnv B n 0 2 0 (mnum B n 0 (dT D 0) s))) (mnum B n 0 2 (mnum B n 0 (dT D 0) s)))))) = σ10 at Smx10 Sm10 Ms10 hs10 Rr10 hB10 hn10 hc10 ho10 u0_10 u1_10 u2_10 u3_10 u4_10 ⊢
  refine e_return dX10_readsSlot_76 rfl (h _ Sm10 hs10 Rr10 (fun e q c hc9 => ?_) hn10 hc10 ho10)
  rcases (show c = 0 ∨ c = 1 ∨ c = 2 ∨ c = 3 ∨ c = 4 by omega) with rfl | rfl | rfl | rfl | rfl
  · exact u0_10
  · exact u1_10
  · exact u2_10
  · exact u3_10
  · exact u4_10
set_option maxRecDepth 20000 in
theorem l_X10_zsum {g : fGP} {d : Nat} {σ : fAH} {Q : fRes → fAH → Prop} {D : fSD} {t : Nat} (Ms : fMs g σ) (Rr : fRr σ D) (hD : fWD D) (u0 : fI σ (148 + dT D 6) 0 = nI t) (ht : t < 100) (hfl : dT D 6 < 24) : ∀ (k i : Nat), i + k = dT D 6 → fEv g d mX10_readsOdds 70 [some (.ref 89), some (.ref (148 + dT D 6)), some (.int (nI (mall D t))), some (.int (nI (dT D 6)))] [] σ Q → fEv g d mX10_readsOdds 24 [some (.ref 89), some (.ref (148 + dT D 6)), some (.int (nI (mals D t i))), some (.int (nI i))] [] σ Q := by
  obtain ⟨t0, t1, t2, t3, t4, t5, t6⟩ := id hD.1
  intro k
  induction k with
  | zero =>
    intro i hi h
    have ml := mals_le hD t (i := i) (by omega)
    refine e_iload_n dX10_readsOdds_24 rfl rfl ?_
    refine e_aload_n dX10_readsOdds_25 rfl rfl ?_
    refine e_getR (q := 91) dX10_readsOdds_26 fl_RX10_17 (Ms.s 89 rfl) (Ms.n (by decide)) rfl (Ms.r 89 9 rfl) (by unfold fscr; omega) ?_
    refine e_bipush (nI 6) dX10_readsOdds_29 (by decide) ?_
    refine e_iaload 6 dX10_readsOdds_31 (Ms.s 91 rfl) (Ms.n (by decide)) rfl (by omega) (by decide) ?_
    refine e_int (nI (dT D 6)) (Rr.1 6 (by decide)) ?_
    refine e_icmp_ge 70 dX10_readsOdds_32 (by decide) (fun cz => ?_) (fun cz => absurd ((nI_le' (by omega) (by omega)).mpr (by omega)) cz)
    rw [show i = dT D 6 by omega]
    exact h
  | succ k ih =>
    intro i hi h
    have z9 := hD.2.2.2.2.1 i (by omega)
    have ml := mals_le hD t (i := i) (by omega)
    refine e_iload_n dX10_readsOdds_24 rfl rfl ?_
    refine e_aload_n dX10_readsOdds_25 rfl rfl ?_
    refine e_getR (q := 91) dX10_readsOdds_26 fl_RX10_17 (Ms.s 89 rfl) (Ms.n (by decide)) rfl (Ms.r 89 9 rfl) (by unfold fscr; omega) ?_
    refine e_bipush (nI 6) dX10_readsOdds_29 (by decide) ?_
    refine e_iaload 6 dX10_readsOdds_31 (Ms.s 91 rfl) (Ms.n (by decide)) rfl (by omega) (by decide) ?_
    refine e_int (nI (dT D 6)) (Rr.1 6 (by decide)) ?_
    refine e_icmp_ge 70 dX10_readsOdds_32 (by decide) (fun cz => absurd ((nI_le' (by omega) (by omega)).mp cz) (by omega)) (fun cz => ?_)
    refine e_iload_n dX10_readsOdds_35 rfl rfl ?_
    refine e_aload_n dX10_readsOdds_36 rfl rfl ?_
    refine e_getR (q := 147) dX10_readsOdds_37 fl_RX10_43 (Ms.s 89 rfl) (Ms.n (by decide)) rfl (Ms.r 89 17 rfl) (by unfold fscr; omega) ?_
    refine e_iload_n dX10_readsOdds_40 rfl rfl ?_
    refine e_aaload (q := 148 + i) i dX10_readsOdds_41 (Ms.s 147 rfl) (by decide) (Ms.n (by decide)) rfl (by omega) (by decide) (Ms.r 147 _ (frf_readOdds _ (by omega))) (by unfold fscr; omega) ?_
    refine e_iconst (nI 0) dX10_readsOdds_42 (by decide) ?_
    refine e_iaload 0 dX10_readsOdds_43 (Ms.s _ (fsh_readOdds _ (by omega))) (Ms.n (by omega)) rfl (by omega) (by decide) ?_
    refine e_int (nI (dZ D i 0)) (Rr.2.2.2.2 i (by omega) 0 (by decide)) ?_
    refine e_aload_n dX10_readsOdds_44 rfl rfl ?_
    refine e_iconst (nI 0) dX10_readsOdds_45 (by decide) ?_
    refine e_iaload 0 dX10_readsOdds_46 (Ms.s _ (fsh_readOdds _ (by omega))) (Ms.n (by omega)) rfl (by omega) (by decide) ?_
    refine e_int (nI t) u0 ?_
    refine e_icmp_ne 61 dX10_readsOdds_47 (by decide) (fun c47 => ?_) (fun c47 => ?_)
    · rw [nI_inj (by omega) (by omega)] at c47
      refine e_iconst (nI 0) dX10_readsOdds_61 (by decide) ?_
      refine e_iadd dX10_readsOdds_62 ?_
      refine e_int (nI (mals D t i)) (nI_add (mals D t i) 0) ?_
      refine e_istore_n (L1 := [some (.ref 89), some (.ref (148 + dT D 6)), some (.int (nI (mals D t i))), some (.int (nI i))]) dX10_readsOdds_63 rfl (by decide) rfl ?_
      refine e_iinc (v := nI (i + 1)) (L1 := [some (.ref 89), some (.ref (148 + dT D 6)), some (.int (nI (mals D t i))), some (.int (nI (i + 1)))]) dX10_readsOdds_64 rfl (show nI i + Int32.ofInt 1 = nI (i + 1) from nI_add i 1) (by decide) rfl ?_
      refine e_goto 24 dX10_readsOdds_67 (by decide) ?_
      have k9 := ih (i + 1) (by omega) h
      rw [show mals D t (i + 1) = mals D t i by rw [mals_s, if_neg (by omega)]; rfl] at k9
      exact k9
    · rw [nI_inj (by omega) (by omega)] at c47
      refine e_aload_n dX10_readsOdds_50 rfl rfl ?_
      refine e_getR (q := 147) dX10_readsOdds_51 fl_RX10_43 (Ms.s 89 rfl) (Ms.n (by decide)) rfl (Ms.r 89 17 rfl) (by unfold fscr; omega) ?_
      refine e_iload_n dX10_readsOdds_54 rfl rfl ?_
      refine e_aaload (q := 148 + i) i dX10_readsOdds_55 (Ms.s 147 rfl) (by decide) (Ms.n (by decide)) rfl (by omega) (by decide) (Ms.r 147 _ (frf_readOdds _ (by omega))) (by unfold fscr; omega) ?_
      refine e_iconst (nI 2) dX10_readsOdds_56 (by decide) ?_
      refine e_iaload 2 dX10_readsOdds_57 (Ms.s _ (fsh_readOdds _ (by omega))) (Ms.n (by omega)) rfl (by omega) (by decide) ?_
      refine e_int (nI (dZ D i 2)) (Rr.2.2.2.2 i (by omega) 2 (by decide)) ?_
      refine e_goto 62 dX10_readsOdds_58 (by decide) ?_
      refine e_iadd dX10_readsOdds_62 ?_
      refine e_int (nI (mals D t i + dZ D i 2)) (nI_add (mals D t i) (dZ D i 2)) ?_
      refine e_istore_n (L1 := [some (.ref 89), some (.ref (148 + dT D 6)), some (.int (nI (mals D t i + dZ D i 2))), some (.int (nI i))]) dX10_readsOdds_63 rfl (by decide) rfl ?_
      refine e_iinc (v := nI (i + 1)) (L1 := [some (.ref 89), some (.ref (148 + dT D 6)), some (.int (nI (mals D t i + dZ D i 2))), some (.int (nI (i + 1)))]) dX10_readsOdds_64 rfl (show nI i + Int32.ofInt 1 = nI (i + 1) from nI_add i 1) (by decide) rfl ?_
      refine e_goto 24 dX10_readsOdds_67 (by decide) ?_
      have k9 := ih (i + 1) (by omega) h
      rw [show mals D t (i + 1) = mals D t i + dZ D i 2 by rw [mals_s, if_pos (by omega)]] at k9
      exact k9
