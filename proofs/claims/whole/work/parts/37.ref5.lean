/-- the reference's own fields, but for deep -/
def fM9 (σ σ' : fAH) : Prop := (∀ j, j ≠ 21 → fI σ' 89 j = fI σ 89 j) ∧ fJ σ' 89 = fJ σ 89
def fPA (dp : Nat) : Nat → Prop := fun a => a = 89 ∨ a = 199 + dp
def fTA : Nat → Prop := fun a => a = 89 ∨ a = 197
theorem fW_go {Z : Type} {dr : Z → Nat × Z} {D : fSD} {fill cold : Nat} {x : fX Z} (hD : fWD D) (hW : fWS D x.1) (hC : fWC D x.1) (hN : fWN x.1 0 0) (hn : x.1 155 < 30) : fWS D (mgo dr D fill cold x).1 ∧ fWC D (mgo dr D fill cold x).1 ∧ fWN (mgo dr D fill cold x).1 0 0 ∧ (mgo dr D fill cold x).1 155 = x.1 155 + 1 := by
  have h1 := fWS_frz (dr := dr) (fill := fill) (cold := cold) hD (dT D 1) 0 x (by omega) hW hC hn
  have h2 := fWN_frz (dr := dr) (fill := fill) (cold := cold) hD (dT D 1) 0 x (by omega) hW hC hn hN
  have h3 := fWS_end hD h1.1 h1.2.1 (by rw [h1.2.2]; exact hn)
  exact ⟨h3.1, h3.2.1, fWN_end hD h1.1 h1.2.1 h2, h3.2.2.1.trans (by rw [h1.2.2])⟩
theorem mfill_lt {D : fSD} (hD : fWD D) (S : Nat → Nat) (pl : Nat) : mfill D S pl < 4096 := mfa_lt hD.1.2.1
theorem mplan_0 {D : fSD} {P : Nat → Nat} {n i a : Nat} {x : fX Int32} (h : x.1 155 = 30) : mplan D P n i x a = (x, a) := by
  cases n with
  | zero => rfl
  | succ n => exact if_pos h
theorem mplan_s {D : fSD} {P : Nat → Nat} {n i a : Nat} {x : fX Int32} (h : ¬ x.1 155 = 30) : mplan D P (n + 1) i x a = mplan D P n (i + 1) (mgo ldr D (mfill D x.1 (P i)) (mdc D x.1 x.2.2).1 (x.1, x.2.1, (mdc D x.1 x.2.2).2)) (a + if mfill D x.1 (P i) = 0 then 1 else 0) := if_neg h
theorem fW_plan {D : fSD} {P : Nat → Nat} (hD : fWD D) : ∀ (n i : Nat) (x : fX Int32) (a : Nat), fWS D x.1 → fWC D x.1 → fWN x.1 0 0 → fWS D (mplan D P n i x a).1.1 ∧ fWC D (mplan D P n i x a).1.1 ∧ fWN (mplan D P n i x a).1.1 0 0
  | 0, _, _, _, hW, hC, hN => ⟨hW, hC, hN⟩
  | n + 1, i, x, a, hW, hC, hN => by
    by_cases e : x.1 155 = 30
    · rw [mplan_0 e]; exact ⟨hW, hC, hN⟩
    · rw [mplan_s e]
      have := fW_go (dr := ldr) (fill := mfill D x.1 (P i)) (cold := (mdc D x.1 x.2.2).1) (x := (x.1, x.2.1, (mdc D x.1 x.2.2).2)) hD hW hC hN (by have := hW.2.2.2.2; show x.1 155 < 30; omega)
      exact fW_plan hD n (i + 1) _ _ this.1 this.2.1 this.2.2.1
theorem fMr.row {σ σ1 : fAH} {D : fSD} {S S' : Nat → Nat} {sd sd' : Int32} (h : fMr σ D S sd) (hD : fWD D) (s : fSm fTA σ σ1) (h6 : ∀ i, i < 156 → fI σ1 197 i = nI (S' i) ∧ S' i < 100000) (h7 : fI σ1 197 156 = sd') : fMr σ1 D S' sd' := by
  obtain ⟨t0, t1, t2, t3, t4, t5, t6⟩ := id hD.1
  obtain ⟨h1, h2, h3, h4, h5, -, -⟩ := h
  refine ⟨fun i hi => ?_, fun b hb c hc => ?_, fun b hb c hc => ?_, fun b hb c hc => ?_, fun b hb c hc => ?_, h6, h7⟩
  · rw [s.i (by unfold fTA; omega)]; exact h1 i hi
  · rw [s.i (by unfold fTA; omega)]; exact h2 b hb c hc
  · rw [s.i (by unfold fTA; omega)]; exact h3 b hb c hc
  · rw [s.i (by unfold fTA; omega)]; exact h4 b hb c hc
  · rw [s.i (by unfold fTA; omega)]; exact h5 b hb c hc
set_option maxRecDepth 20000 in
theorem l_X10_puts {g : fGP} {d : Nat} {Q : fRes → fAH → Prop} {dp : Nat} (hd9 : dp < 20) : ∀ (n i : Nat) (σ : fAH), i + n = 157 → fMs g σ → fI σ 89 21 = nI dp → (∀ j, j < i → fI σ (199 + dp) j = fI σ 197 j) → (∀ σ', fSm (fPA dp) σ σ' → (∀ j, j < 157 → fI σ' (199 + dp) j = fI σ 197 j) → fI σ' 89 21 = nI (dp + 1) → (∀ j, j ≠ 21 → fI σ' 89 j = fI σ 89 j) → fJ σ' 89 = fJ σ 89 → Q (.inl none) σ') → fEv g (d) mX10_puts 2 [some (.ref 89), some (.int (nI i))] [] σ Q := by
  intro n
  induction n with
  | zero =>
    intro i σ hin Ms hdp hr h
    refine e_iload_n dX10_puts_2 rfl rfl ?_
    refine e_sipush (nI 157) dX10_puts_3 (by decide) ?_
    refine e_icmp_ge 32 dX10_puts_6 (by decide) (fun cz => ?_) (fun cz => absurd ((nI_le' (by omega) (by omega)).mpr (by omega)) cz)
    refine e_aload_n dX10_puts_32 rfl rfl ?_
    refine e_dup dX10_puts_33 rfl ?_
    refine e_getI dX10_puts_34 fl_RX10_247 (Ms.s 89 rfl) (Ms.n (by decide)) rfl ?_
    refine e_int (nI dp) hdp ?_
    refine e_iconst (nI 1) dX10_puts_37 (by decide) ?_
    refine e_iadd dX10_puts_38 ?_
    refine e_int (nI (dp + 1)) (nI_add dp 1) ?_
    refine e_putI dX10_puts_39 fl_RX10_247 (Ms.s 89 rfl) (Ms.n (by decide)) rfl rfl ?_
    exact e_return dX10_puts_42 rfl (h _ (fSm_I (Or.inl rfl)) (fun j hj => by rw [fI_I, if_neg (by omega), hr j (by omega)]) (by rw [fI_I, if_pos ⟨rfl, rfl⟩]) (fun j hj => by rw [fI_I, if_neg (by omega)]) rfl)
  | succ n ih =>
    intro i σ hin Ms hdp hr h
    have hi : i < 157 := by omega
    refine e_iload_n dX10_puts_2 rfl rfl ?_
    refine e_sipush (nI 157) dX10_puts_3 (by decide) ?_
    refine e_icmp_ge 32 dX10_puts_6 (by decide) (fun cz => absurd ((nI_le' (by omega) (by omega)).mp cz) (by omega)) (fun cz => ?_)
    refine e_aload_n dX10_puts_9 rfl rfl ?_
    refine e_getR (q := 198) dX10_puts_10 fl_RX10_52 (Ms.s 89 rfl) (Ms.n (by decide)) rfl (Ms.r 89 20 rfl) (by unfold fscr; omega) ?_
    refine e_aload_n dX10_puts_13 rfl rfl ?_
    refine e_getI dX10_puts_14 fl_RX10_247 (Ms.s 89 rfl) (Ms.n (by decide)) rfl ?_
    refine e_int (nI dp) hdp ?_
    refine e_aaload (q := 199 + dp) dp dX10_puts_17 (Ms.s 198 rfl) (by decide) (Ms.n (by decide)) rfl (by omega) (by decide) (Ms.r 198 _ (frf_aside _ (by omega))) (by unfold fscr; omega) ?_
    refine e_iload_n dX10_puts_18 rfl rfl ?_
    refine e_aload_n dX10_puts_19 rfl rfl ?_
    refine e_getR (q := 197) dX10_puts_20 fl_RX10_49 (Ms.s 89 rfl) (Ms.n (by decide)) rfl (Ms.r 89 19 rfl) (by unfold fscr; omega) ?_
    refine e_iload_n dX10_puts_23 rfl rfl ?_
    refine e_iaload i dX10_puts_24 (Ms.s 197 rfl) (Ms.n (by decide)) rfl (by omega) (by decide) ?_
    refine e_iastore i dX10_puts_25 (Ms.s _ (fsh_aside _ (by omega))) (Ms.n (by omega)) rfl (by omega) (by decide) ?_
    refine e_iinc (v := nI (i + 1)) (L1 := [some (.ref 89), some (.int (nI (i + 1)))]) dX10_puts_26 rfl (show nI i + Int32.ofInt 1 = nI (i + 1) from nI_add i 1) (by decide) rfl ?_
    refine e_goto 2 dX10_puts_29 (by decide) ?_
    refine ih (i + 1) (fsI σ (199 + dp) i (fI σ 197 i)) (by omega) (Ms.sm (A := fPA dp) (fSm_I (Or.inr rfl))) (by rw [fI_ne (by omega)]; exact hdp) (fun j hj => ?_) (fun σ' Sm' r1 r2 r3 r4 => h σ' ((fSm_I (Or.inr rfl)).tr Sm') (fun j hj => (r1 j hj).trans (by rw [fI_I, if_neg (by omega)])) r2 (fun j hj => (r3 j hj).trans (by rw [fI_ne (by omega)])) r4)
    by_cases e : j = i
    · rw [fI_I, if_pos ⟨rfl, e⟩, fI_I, if_neg (by omega), e]
    · rw [fI_I, if_neg (by omega), fI_I, if_neg (by omega)]; exact hr j (by omega)
set_option maxRecDepth 20000 in
theorem t_X10_puts {g : fGP} {d : Nat} {σ : fAH} {Q : fRes → fAH → Prop} {D : fSD} {S : Nat → Nat} {sd : Int32} {dp : Nat} (Ms : fMs g σ) (Mr : fMr σ D S sd) (hD : fWD D) (hd9 : dp < 20) (hdp : fI σ 89 21 = nI dp) (h : ∀ σ', fSm (fPA dp) σ σ' → fMr σ' D S sd → fRow σ' dp S sd → fI σ' 89 21 = nI (dp + 1) → fM9 σ σ' → Q (.inl none) σ') : fEv g d mX10_puts 0 (fent [.ref 89] 2) [] σ Q := by
  show fEv g d mX10_puts 0 [some (.ref 89), none] [] σ Q
  refine e_iconst (nI 0) dX10_puts_0 (by decide) ?_
  refine e_istore_n (L1 := [some (.ref 89), some (.int (nI 0))]) dX10_puts_1 rfl (by decide) rfl ?_
  exact l_X10_puts hd9 157 0 σ (by omega) Ms hdp (fun j hj => absurd hj (by omega)) (fun σ' Sm' r1 r2 r3 r4 => h σ' Sm' (Mr.smm Sm' hD (fun i h1 h2 => by unfold fPA; omega)) ⟨fun i hi => ⟨(r1 i (by omega)).trans (Mr.s i hi), Mr.b hi⟩, (r1 156 (by omega)).trans Mr.seed⟩ r2 ⟨r3, r4⟩)
set_option maxRecDepth 20000 in
theorem l_X10_takes {g : fGP} {d : Nat} {Q : fRes → fAH → Prop} {dp : Nat} (hd9 : dp < 20) : ∀ (n i : Nat) (σ : fAH), i + n = 157 → fMs g σ → fI σ 89 21 = nI dp → (∀ j, j < i → fI σ 197 j = fI σ (199 + dp) j) → (∀ σ', fSm fRA9 σ σ' → (∀ j, j < 157 → fI σ' 197 j = fI σ (199 + dp) j) → fI σ' 89 21 = nI dp → Q (.inl none) σ') → fEv g (d) mX10_takes 12 [some (.ref 89), some (.int (nI i))] [] σ Q := by
  intro n
  induction n with
  | zero =>
    intro i σ hin Ms hdp hr h
    refine e_iload_n dX10_takes_12 rfl rfl ?_
    refine e_sipush (nI 157) dX10_takes_13 (by decide) ?_
    refine e_icmp_ge 42 dX10_takes_16 (by decide) (fun cz => ?_) (fun cz => absurd ((nI_le' (by omega) (by omega)).mpr (by omega)) cz)
    exact e_return dX10_takes_42 rfl (h _ fSm.rfl' (fun j hj => hr j (by omega)) hdp)
  | succ n ih =>
    intro i σ hin Ms hdp hr h
    have hi : i < 157 := by omega
    refine e_iload_n dX10_takes_12 rfl rfl ?_
    refine e_sipush (nI 157) dX10_takes_13 (by decide) ?_
    refine e_icmp_ge 42 dX10_takes_16 (by decide) (fun cz => absurd ((nI_le' (by omega) (by omega)).mp cz) (by omega)) (fun cz => ?_)
    refine e_aload_n dX10_takes_19 rfl rfl ?_
    refine e_getR (q := 197) dX10_takes_20 fl_RX10_49 (Ms.s 89 rfl) (Ms.n (by decide)) rfl (Ms.r 89 19 rfl) (by unfold fscr; omega) ?_
    refine e_iload_n dX10_takes_23 rfl rfl ?_
    refine e_aload_n dX10_takes_24 rfl rfl ?_
    refine e_getR (q := 198) dX10_takes_25 fl_RX10_52 (Ms.s 89 rfl) (Ms.n (by decide)) rfl (Ms.r 89 20 rfl) (by unfold fscr; omega) ?_
    refine e_aload_n dX10_takes_28 rfl rfl ?_
    refine e_getI dX10_takes_29 fl_RX10_247 (Ms.s 89 rfl) (Ms.n (by decide)) rfl ?_
    refine e_int (nI dp) hdp ?_
    refine e_aaload (q := 199 + dp) dp dX10_takes_32 (Ms.s 198 rfl) (by decide) (Ms.n (by decide)) rfl (by omega) (by decide) (Ms.r 198 _ (frf_aside _ (by omega))) (by unfold fscr; omega) ?_
    refine e_iload_n dX10_takes_33 rfl rfl ?_
    refine e_iaload i dX10_takes_34 (Ms.s _ (fsh_aside _ (by omega))) (Ms.n (by omega)) rfl (by omega) (by decide) ?_
    refine e_iastore i dX10_takes_35 (Ms.s 197 rfl) (Ms.n (by decide)) rfl (by omega) (by decide) ?_
    refine e_iinc (v := nI (i + 1)) (L1 := [some (.ref 89), some (.int (nI (i + 1)))]) dX10_takes_36 rfl (show nI i + Int32.ofInt 1 = nI (i + 1) from nI_add i 1) (by decide) rfl ?_
    refine e_goto 12 dX10_takes_39 (by decide) ?_
    refine ih (i + 1) (fsI σ 197 i (fI σ (199 + dp) i)) (by omega) (Ms.sm (A := fTA) (fSm_I (Or.inr rfl))) (by rw [fI_ne (by omega)]; exact hdp) (fun j hj => ?_) (fun σ' Sm' r1 r2 => h σ' ((fSm_I (A := fRA9) rfl).tr Sm') (fun j hj => (r1 j hj).trans (by rw [fI_I, if_neg (by omega)])) r2)
    by_cases e : j = i
    · rw [fI_I, if_pos ⟨rfl, e⟩, fI_I, if_neg (by omega), e]
    · rw [fI_I, if_neg (by omega), fI_I, if_neg (by omega)]; exact hr j (by omega)
set_option maxRecDepth 20000 in
theorem t_X10_takes {g : fGP} {d : Nat} {σ : fAH} {Q : fRes → fAH → Prop} {D : fSD} {S : Nat → Nat} {sd : Int32} {dp : Nat} {S' : Nat → Nat} {sd' : Int32} (Ms : fMs g σ) (Mr : fMr σ D S sd) (hD : fWD D) (hd9 : dp < 20) (hdp : fI σ 89 21 = nI (dp + 1)) (hR : fRow σ dp S' sd') (h : ∀ σ', fSm fTA σ σ' → fMr σ' D S' sd' → fI σ' 89 21 = nI dp → fM9 σ σ' → Q (.inl none) σ') : fEv g d mX10_takes 0 (fent [.ref 89] 2) [] σ Q := by
  show fEv g d mX10_takes 0 [some (.ref 89), none] [] σ Q
  refine e_aload_n dX10_takes_0 rfl rfl ?_
  refine e_dup dX10_takes_1 rfl ?_
  refine e_getI dX10_takes_2 fl_RX10_247 (Ms.s 89 rfl) (Ms.n (by decide)) rfl ?_
  refine e_int (nI (dp + 1)) hdp ?_
  refine e_iconst (nI 1) dX10_takes_5 (by decide) ?_
  refine e_isub dX10_takes_6 ?_
  refine e_int (nI dp) (show nI (dp + 1) - nI 1 = nI dp from (pk_sub (by omega)).trans (by rw [Nat.add_sub_cancel])) ?_
  refine e_putI dX10_takes_7 fl_RX10_247 (Ms.s 89 rfl) (Ms.n (by decide)) rfl rfl ?_
  refine e_iconst (nI 0) dX10_takes_10 (by decide) ?_
  refine e_istore_n (L1 := [some (.ref 89), some (.int (nI 0))]) dX10_takes_11 rfl (by decide) rfl ?_
  have s9 : fSm fTA σ (fsI σ 89 21 (nI dp)) := fSm_I (Or.inl rfl)
  refine l_X10_takes hd9 157 0 _ (by omega) (Ms.sm s9) (by rw [fI_I, if_pos ⟨rfl, rfl⟩]) (fun j hj => absurd hj (by omega)) (fun σ' Sm' r1 r2 => h σ' (s9.tr (Sm'.to (fun _ q => Or.inr q))) ?_ r2 ⟨fun j hj => ?_, ?_⟩)
  · refine Mr.row hD (s9.tr (Sm'.to (fun _ q => Or.inr q))) (fun i hi => ⟨(r1 i (by omega)).trans ?_, (hR.1 i hi).2⟩) ((r1 156 (by omega)).trans ?_)
    · rw [fI_ne (by omega)]; exact (hR.1 i hi).1
    · rw [fI_ne (by omega)]; exact hR.2
  · rw [Sm'.i (by unfold fRA9; omega) j, fI_I, if_neg (by omega)]
  · exact (Sm'.2.2 89 (by unfold fRA9; omega)).2.trans rfl
set_option maxRecDepth 20000 in
theorem l_X10_goes {g : fGP} {d : Nat} {Q : fRes → fAH → Prop} {D : fSD} {P : Nat → Nat} {pn : Nat} {x1 : Int32} (hD : fWD D) (hpl : pn ≤ 30) : ∀ (n i : Nat) (a : Nat) (o4 : Option Value) (σ : fAH) (S : Nat → Nat) (T : Nat → Int32) (sd : Int32), i + n = pn → fMs g σ → fMr σ D S sd → fWS D S → fWC D S → fWN S 0 0 → fI σ 89 31 = nI (bn false) → fI σ 89 22 = nI pn → (∀ j, j < pn → fI σ 219 j = nI (P j) ∧ P j < 4096) → (∀ σ', fSm (fRA false) σ σ' → fMr σ' D (mplan D P n i (S, T, sd) a).1.1 (mplan D P n i (S, T, sd) a).1.2.2 → Q (.inl (some (.int (nI (mplan D P n i (S, T, sd) a).2)))) σ') → fEv g (d + 4) mX10_goes 13 [some (.ref 89), some (.int x1), some (.int (nI a)), some (.int (nI i)), o4] [] σ Q := by
  intro n
  induction n with
  | zero =>
    intro i a o4 σ S T sd hin Ms Mr hW hC hN htr hpn hP h
    obtain ⟨t0, t1, t2, t3, t4, t5, t6⟩ := id hD.1
    have n5 := hW.2.2.2.2
    refine e_iload_n dX10_goes_13 rfl rfl ?_
    refine e_aload_n dX10_goes_14 rfl rfl ?_
    refine e_getI dX10_goes_15 fl_RX10_159 (Ms.s 89 rfl) (Ms.n (by decide)) rfl ?_
    refine e_int (nI pn) (hpn) ?_
    refine e_icmp_ge 78 dX10_goes_18 (by decide) (fun cz => ?_) (fun cz => absurd ((nI_le' (by omega) (by omega)).mpr (by omega)) cz)
    refine e_iload_n dX10_goes_78 rfl rfl ?_
    exact e_ireturn .int dX10_goes_79 rfl rfl (h _ fSm.rfl' Mr)
  | succ n ih =>
    intro i a o4 σ S T sd hin Ms Mr hW hC hN htr hpn hP h
    obtain ⟨t0, t1, t2, t3, t4, t5, t6⟩ := id hD.1
    have n5 := hW.2.2.2.2
    have hi : i < pn := by omega
    have pb := (hP i hi).2
    have ml := mfill_lt hD S (P i)
    have mb := mbits_lt hD S
    have an : P i &&& mbits D S < 4096 := Nat.lt_of_le_of_lt Nat.and_le_left pb
    refine e_iload_n dX10_goes_13 rfl rfl ?_
    refine e_aload_n dX10_goes_14 rfl rfl ?_
    refine e_getI dX10_goes_15 fl_RX10_159 (Ms.s 89 rfl) (Ms.n (by decide)) rfl ?_
    refine e_int (nI pn) (hpn) ?_
    refine e_icmp_ge 78 dX10_goes_18 (by decide) (fun cz => absurd ((nI_le' (by omega) (by omega)).mp cz) (by omega)) (fun cz => ?_)
    refine e_aload_n dX10_goes_21 rfl rfl ?_
    refine e_callV (k := 89) [] dX10_goes_22 cc_X10_isOver lk_RX10_224 im_X10_isOver se_X10_isOver (by decide) (Ms.s 89 rfl) (Ms.n (by decide)) rfl (Nat.le_of_ble_eq_true rfl) (Nat.le_of_ble_eq_true rfl) ?_
    refine t_X10_isOver Ms Mr hD hW (fK_i ?_)
    show fEv g _ mX10_goes 25 [some (.ref 89), some (.int x1), some (.int (nI a)), some (.int (nI i)), o4] [.int (nI (bn (decide (S 155 = 30))))] σ Q
    refine e_if_ne 78 dX10_goes_25 (by decide) (fun c25 => ?_) (fun c25 => ?_)
    · have c25 := bn1 c25
      refine e_iload_n dX10_goes_78 rfl rfl ?_
      rw [mplan_0 (of_decide_eq_true c25)] at h
      exact e_ireturn .int dX10_goes_79 rfl rfl (h _ fSm.rfl' Mr)
    · have c25 := bn0 c25
      have hn9 : S 155 < 30 := by have := of_decide_eq_false c25; omega
      refine e_aload_n dX10_goes_28 rfl rfl ?_
      refine e_aload_n dX10_goes_29 rfl rfl ?_
      refine e_getR (q := 219) dX10_goes_30 fl_RX10_55 (Ms.s 89 rfl) (Ms.n (by decide)) rfl (Ms.r 89 26 rfl) (by unfold fscr; omega) ?_
      refine e_iload_n dX10_goes_33 rfl rfl ?_
      refine e_iaload i dX10_goes_34 (Ms.s 219 rfl) (Ms.n (by decide)) rfl (by omega) (by decide) ?_
      refine e_int (nI (P i)) ((hP i (by omega)).1) ?_
      refine e_aload_n dX10_goes_35 rfl rfl ?_
      refine e_callV (k := 89) [] dX10_goes_36 cc_X10_alive lk_RX10_215 im_X10_alive se_X10_alive (by decide) (Ms.s 89 rfl) (Ms.n (by decide)) rfl (Nat.le_of_ble_eq_true rfl) (Nat.le_of_ble_eq_true rfl) ?_
      refine t_X10_alive Ms Mr hD hW (fK_i ?_)
      show fEv g _ mX10_goes 39 [some (.ref 89), some (.int x1), some (.int (nI a)), some (.int (nI i)), o4] [.int (nI (mbits D S)), .int (nI (P i)), .ref 89] σ Q
      refine e_iand dX10_goes_39 ?_
      refine e_int (nI (P i &&& mbits D S)) (nI_and _ _) ?_
      refine e_callV (k := 89) [.int (nI (P i &&& mbits D S))] dX10_goes_40 cc_X10_watered lk_RX10_250 im_X10_watered se_X10_watered (by decide) (Ms.s 89 rfl) (Ms.n (by decide)) rfl (Nat.le_of_ble_eq_true rfl) (Nat.le_of_ble_eq_true rfl) ?_
      refine t_X10_watered Ms Mr hD hW (by omega) (fK_i ?_)
      show fEv g _ mX10_goes 43 [some (.ref 89), some (.int x1), some (.int (nI a)), some (.int (nI i)), o4] [.int (nI (mfa (fun q => decide ((P i &&& mbits D S) / 2 ^ q % 2 = 1)) (dT D 3) (dT D 1) 0 0))] σ Q
      refine e_int (nI (mfill D S (P i))) (by rw [mfill_r]) ?_
      refine e_istore (L1 := [some (.ref 89), some (.int x1), some (.int (nI a)), some (.int (nI i)), some (.int (nI (mfill D S (P i))))]) dX10_goes_43 (by decide) rfl ?_
      refine e_iload_n dX10_goes_45 rfl rfl ?_
      refine e_iload dX10_goes_46 rfl ?_
      refine e_if_ne 55 dX10_goes_48 (by decide) (fun c48 => ?_) (fun c48 => ?_)
      · rw [nI_z (by omega)] at c48
        refine e_iconst (nI 0) dX10_goes_55 (by decide) ?_
        refine e_iadd dX10_goes_56 ?_
        refine e_int (nI a) (nI_add a 0) ?_
        refine e_istore_n (L1 := [some (.ref 89), some (.int x1), some (.int (nI a)), some (.int (nI i)), some (.int (nI (mfill D S (P i))))]) dX10_goes_57 rfl (by decide) rfl ?_
        refine e_aload_n dX10_goes_58 rfl rfl ?_
        refine e_iload dX10_goes_59 rfl ?_
        refine e_aload_n dX10_goes_61 rfl rfl ?_
        refine e_callV (k := 89) [] dX10_goes_62 cc_X10_drawn lk_RX10_228 im_X10_drawn se_X10_drawn (by decide) (Ms.s 89 rfl) (Ms.n (by decide)) rfl (Nat.le_of_ble_eq_true rfl) (Nat.le_of_ble_eq_true rfl) ?_
        refine t_X10_drawn (tr := false) Ms Mr hD hW (fun σ1 Smx1 Mr1 => ?_)
        show fEv g _ mX10_goes 65 [some (.ref 89), some (.int x1), some (.int (nI a)), some (.int (nI i)), some (.int (nI (mfill D S (P i))))] [.int (nI ((mdc D S sd).1)), .int (nI (mfill D S (P i))), .ref 89] σ1 Q
        have Sm1 := Smx1
        have Ms1 := Ms.sm Sm1
        have mc9 := mdc_le hD S sd
        have hW1 := hW
        have hC1 := hC
        have hN1 := hN
        refine e_callV (k := 89) [.int (nI (mfill D S (P i))), .int (nI ((mdc D S sd).1))] dX10_goes_65 cc_X10_freezes lk_RX10_231 im_X10_freezes se_X10_freezes (by decide) (Ms1.s 89 rfl) (Ms1.n (by decide)) rfl (Nat.le_of_ble_eq_true rfl) (Nat.le_of_ble_eq_true rfl) ?_
        refine t_X10_freezes (T := T) Ms1 Mr1 hD hW1 hC1 hn9 hN1 ((Sm1.i (by unfold fRA; omega) 31).trans htr) (mfill_lt hD S _) (by omega) (fun σ2 Smx2 Mr2 _ => ?_)
        show fEv g _ mX10_goes 68 [some (.ref 89), some (.int x1), some (.int (nI a)), some (.int (nI i)), some (.int (nI (mfill D S (P i))))] [] σ2 Q
        have Sm2 := Sm1.tr Smx2
        have Ms2 := Ms.sm Sm2
        have f2 := fWS_frz (dr := ldr) (fill := mfill D S (P i)) (cold := (mdc D S sd).1) hD (dT D 1) 0 (S, T, (mdc D S sd).2) (by omega) hW hC hn9
        have f3 := fWN_frz (dr := ldr) (fill := mfill D S (P i)) (cold := (mdc D S sd).1) hD (dT D 1) 0 (S, T, (mdc D S sd).2) (by omega) hW hC hn9 hN
        refine e_aload_n dX10_goes_68 rfl rfl ?_
        refine e_callV (k := 89) [] dX10_goes_69 cc_X10_sledges lk_RX10_234 im_X10_sledges se_X10_sledges (by decide) (Ms2.s 89 rfl) (Ms2.n (by decide)) rfl (Nat.le_of_ble_eq_true rfl) (Nat.le_of_ble_eq_true rfl) ?_
        refine t_X10_sledges Ms2 Mr2 hD f2.1 f2.2.1 f3 (fun σ3 Smx3 Mr3 => ?_)
        show fEv g _ mX10_goes 72 [some (.ref 89), some (.int x1), some (.int (nI a)), some (.int (nI i)), some (.int (nI (mfill D S (P i))))] [] σ3 Q
        have Sm3 := Sm2.tr (Smx3.to (B := fRA false) (fun _ q => Or.inl q))
        have Ms3 := Ms.sm Sm3
        refine e_iinc (v := nI (i + 1)) (L1 := [some (.ref 89), some (.int x1), some (.int (nI a)), some (.int (nI (i + 1))), some (.int (nI (mfill D S (P i))))]) dX10_goes_72 rfl (show nI i + Int32.ofInt 1 = nI (i + 1) from nI_add i 1) (by decide) rfl ?_
        refine e_goto 13 dX10_goes_75 (by decide) ?_
        have hs9 : ¬ (S, T, sd).1 155 = 30 := of_decide_eq_false c25
        rw [mplan_s hs9] at h
        have k9 := fW_go (dr := ldr) (fill := mfill D S (P i)) (cold := (mdc D S sd).1) (x := (S, T, (mdc D S sd).2)) hD hW hC hN hn9
        have e9 : (if mfill D S (P i) = 0 then 1 else 0) = 0 := if_neg (by omega)
        have h : _ := h
        rw [show (if mfill D (S, T, sd).1 (P i) = 0 then 1 else 0) = 0 from e9] at h
        exact ih (i + 1) a _ σ3 _ _ _ (by omega) Ms3 Mr3 k9.1 k9.2.1 k9.2.2.1 ((Sm3.i (by unfold fRA; omega) 31).trans htr) ((Sm3.i (by unfold fRA; omega) 22).trans hpn) (fun j hj => ⟨(Sm3.i (by unfold fRA; omega) j).trans (hP j hj).1, (hP j hj).2⟩) (fun σ' Sm' Mr' => h σ' (Sm3.tr Sm') Mr')
      · rw [nI_z (by omega)] at c48
        refine e_iconst (nI 1) dX10_goes_51 (by decide) ?_
        refine e_goto 56 dX10_goes_52 (by decide) ?_
        refine e_iadd dX10_goes_56 ?_
        refine e_int (nI (a + 1)) (nI_add a 1) ?_
        refine e_istore_n (L1 := [some (.ref 89), some (.int x1), some (.int (nI (a + 1))), some (.int (nI i)), some (.int (nI (mfill D S (P i))))]) dX10_goes_57 rfl (by decide) rfl ?_
        refine e_aload_n dX10_goes_58 rfl rfl ?_
        refine e_iload dX10_goes_59 rfl ?_
        refine e_aload_n dX10_goes_61 rfl rfl ?_
        refine e_callV (k := 89) [] dX10_goes_62 cc_X10_drawn lk_RX10_228 im_X10_drawn se_X10_drawn (by decide) (Ms.s 89 rfl) (Ms.n (by decide)) rfl (Nat.le_of_ble_eq_true rfl) (Nat.le_of_ble_eq_true rfl) ?_
        refine t_X10_drawn (tr := false) Ms Mr hD hW (fun σ1 Smx1 Mr1 => ?_)
        show fEv g _ mX10_goes 65 [some (.ref 89), some (.int x1), some (.int (nI (a + 1))), some (.int (nI i)), some (.int (nI (mfill D S (P i))))] [.int (nI ((mdc D S sd).1)), .int (nI (mfill D S (P i))), .ref 89] σ1 Q
        have Sm1 := Smx1
        have Ms1 := Ms.sm Sm1
        have mc9 := mdc_le hD S sd
        have hW1 := hW
        have hC1 := hC
        have hN1 := hN
        refine e_callV (k := 89) [.int (nI (mfill D S (P i))), .int (nI ((mdc D S sd).1))] dX10_goes_65 cc_X10_freezes lk_RX10_231 im_X10_freezes se_X10_freezes (by decide) (Ms1.s 89 rfl) (Ms1.n (by decide)) rfl (Nat.le_of_ble_eq_true rfl) (Nat.le_of_ble_eq_true rfl) ?_
        refine t_X10_freezes (T := T) Ms1 Mr1 hD hW1 hC1 hn9 hN1 ((Sm1.i (by unfold fRA; omega) 31).trans htr) (mfill_lt hD S _) (by omega) (fun σ2 Smx2 Mr2 _ => ?_)
        show fEv g _ mX10_goes 68 [some (.ref 89), some (.int x1), some (.int (nI (a + 1))), some (.int (nI i)), some (.int (nI (mfill D S (P i))))] [] σ2 Q
        have Sm2 := Sm1.tr Smx2
        have Ms2 := Ms.sm Sm2
        have f2 := fWS_frz (dr := ldr) (fill := mfill D S (P i)) (cold := (mdc D S sd).1) hD (dT D 1) 0 (S, T, (mdc D S sd).2) (by omega) hW hC hn9
        have f3 := fWN_frz (dr := ldr) (fill := mfill D S (P i)) (cold := (mdc D S sd).1) hD (dT D 1) 0 (S, T, (mdc D S sd).2) (by omega) hW hC hn9 hN
        refine e_aload_n dX10_goes_68 rfl rfl ?_
        refine e_callV (k := 89) [] dX10_goes_69 cc_X10_sledges lk_RX10_234 im_X10_sledges se_X10_sledges (by decide) (Ms2.s 89 rfl) (Ms2.n (by decide)) rfl (Nat.le_of_ble_eq_true rfl) (Nat.le_of_ble_eq_true rfl) ?_
        refine t_X10_sledges Ms2 Mr2 hD f2.1 f2.2.1 f3 (fun σ3 Smx3 Mr3 => ?_)
        show fEv g _ mX10_goes 72 [some (.ref 89), some (.int x1), some (.int (nI (a + 1))), some (.int (nI i)), some (.int (nI (mfill D S (P i))))] [] σ3 Q
        have Sm3 := Sm2.tr (Smx3.to (B := fRA false) (fun _ q => Or.inl q))
        have Ms3 := Ms.sm Sm3
        refine e_iinc (v := nI (i + 1)) (L1 := [some (.ref 89), some (.int x1), some (.int (nI (a + 1))), some (.int (nI (i + 1))), some (.int (nI (mfill D S (P i))))]) dX10_goes_72 rfl (show nI i + Int32.ofInt 1 = nI (i + 1) from nI_add i 1) (by decide) rfl ?_
        refine e_goto 13 dX10_goes_75 (by decide) ?_
        have hs9 : ¬ (S, T, sd).1 155 = 30 := of_decide_eq_false c25
        rw [mplan_s hs9] at h
        have k9 := fW_go (dr := ldr) (fill := mfill D S (P i)) (cold := (mdc D S sd).1) (x := (S, T, (mdc D S sd).2)) hD hW hC hN hn9
        have e9 : (if mfill D S (P i) = 0 then 1 else 0) = 1 := if_pos (by omega)
        have h : _ := h
        rw [show (if mfill D (S, T, sd).1 (P i) = 0 then 1 else 0) = 1 from e9] at h
        exact ih (i + 1) (a + 1) _ σ3 _ _ _ (by omega) Ms3 Mr3 k9.1 k9.2.1 k9.2.2.1 ((Sm3.i (by unfold fRA; omega) 31).trans htr) ((Sm3.i (by unfold fRA; omega) 22).trans hpn) (fun j hj => ⟨(Sm3.i (by unfold fRA; omega) j).trans (hP j hj).1, (hP j hj).2⟩) (fun σ' Sm' Mr' => h σ' (Sm3.tr Sm') Mr')
set_option maxRecDepth 20000 in
theorem t_X10_goes {g : fGP} {d : Nat} {σ : fAH} {Q : fRes → fAH → Prop} {D : fSD} {S : Nat → Nat} {T : Nat → Int32} {sd : Int32} {P : Nat → Nat} {pn : Nat} {x : Int32} (Ms : fMs g σ) (Mr : fMr σ D S sd) (hD : fWD D) (hW : fWS D S) (hC : fWC D S) (hN : fWN S 0 0) (htr : fI σ 89 31 = nI (bn false)) (hpn : fI σ 89 22 = nI pn) (hpl : pn ≤ 30) (hP : ∀ j, j < pn → fI σ 219 j = nI (P j) ∧ P j < 4096) (h : ∀ σ', fSm (fRA false) σ σ' → fMr σ' D (mplan D P pn 0 (S, T, x) 0).1.1 (mplan D P pn 0 (S, T, x) 0).1.2.2 → Q (.inl (some (.int (nI (mplan D P pn 0 (S, T, x) 0).2)))) σ') : fEv g (d + 4) mX10_goes 0 (fent [.ref 89, .int x] 5) [] σ Q := by
  show fEv g (d + 4) mX10_goes 0 [some (.ref 89), some (.int x), none, none, none] [] σ Q
  refine e_iconst (nI 0) dX10_goes_0 (by decide) ?_
  refine e_istore_n (L1 := [some (.ref 89), some (.int x), some (.int (nI 0)), none, none]) dX10_goes_1 rfl (by decide) rfl ?_
  refine e_aload_n dX10_goes_2 rfl rfl ?_
  refine e_getR (q := 197) dX10_goes_3 fl_RX10_49 (Ms.s 89 rfl) (Ms.n (by decide)) rfl (Ms.r 89 19 rfl) (by unfold fscr; omega) ?_
  refine e_sipush (nI 156) dX10_goes_6 (by decide) ?_
  refine e_iload_n dX10_goes_9 rfl rfl ?_
  refine e_iastore 156 dX10_goes_10 (Ms.s 197 rfl) (Ms.n (by decide)) rfl (by omega) (by decide) ?_
  have Mr1 := Mr.setd hD (x)
  have Smx1 : fSm (fRA false) σ (fsI σ 197 156 x) := fSm_I (Or.inl rfl)
  have Sm1 := Smx1
  generalize fsI σ 197 156 x = σ1 at Mr1 Sm1 Smx1 ⊢
  have Ms1 := Ms.sm Sm1
  refine e_iconst (nI 0) dX10_goes_11 (by decide) ?_
  refine e_istore_n (L1 := [some (.ref 89), some (.int x), some (.int (nI 0)), some (.int (nI 0)), none]) dX10_goes_12 rfl (by decide) rfl ?_
  exact l_X10_goes hD hpl pn 0 0 _ σ1 S T x (by omega) Ms1 Mr1 hW hC hN ((Sm1.i (by unfold fRA; omega) 31).trans htr) ((Sm1.i (by unfold fRA; omega) 22).trans hpn) (fun j hj => ⟨(Sm1.i (by unfold fRA; omega) j).trans (hP j hj).1, (hP j hj).2⟩) (fun σ' Sm' Mr' => h σ' (Sm1.tr Sm') Mr')
