def fGA (q : Nat) : Nat → Prop := fun a => q ≤ a ∧ a < q + 6

set_option maxRecDepth 20000 in
theorem l_J7_fill {g : fGP} {d : Nat} {Q : fRes → fAH → Prop} {k N : Nat} {v : Int32} (hs : gsh g k = .inr (0, N)) (hN : N < 1000) : ∀ (n i : Nat) (σ : fAH), i + n = N → k < fnx σ → (∀ j, j < i → fI σ k j = v) → (∀ σ', fSm (fun a => a = k) σ σ' → (∀ j, j < N → fI σ' k j = v) → Q (.inl none) σ') → fEv g d mJ7_fill_53178 5 [some (.ref k), some (.int v), some (.int (nI i)), some (.int (nI N))] [] σ Q := by
  intro n
  induction n with
  | zero =>
    intro i σ hin hk hf h
    refine e_iload_n dJ7_fill_53178_5 rfl rfl ?_
    refine e_iload_n dJ7_fill_53178_6 rfl rfl ?_
    refine e_icmp_ge 20 dJ7_fill_53178_7 (by decide) (fun cz => ?_) (fun cz => absurd ((nI_le' (by omega) (by omega)).mpr (by omega)) cz)
    exact e_return dJ7_fill_53178_20 rfl (h σ fSm.rfl' (fun j hj => hf j (by omega)))
  | succ n ih =>
    intro i σ hin hk hf h
    refine e_iload_n dJ7_fill_53178_5 rfl rfl ?_
    refine e_iload_n dJ7_fill_53178_6 rfl rfl ?_
    refine e_icmp_ge 20 dJ7_fill_53178_7 (by decide) (fun cz => absurd ((nI_le' (by omega) (by omega)).mp cz) (by omega)) (fun cz => ?_)
    refine e_aload_n dJ7_fill_53178_10 rfl rfl ?_
    refine e_iload_n dJ7_fill_53178_11 rfl rfl ?_
    refine e_iload_n dJ7_fill_53178_12 rfl rfl ?_
    refine e_iastore i dJ7_fill_53178_13 hs hk rfl (by omega) (by omega) ?_
    refine e_iinc (v := nI (i + 1)) (L1 := [some (.ref k), some (.int v), some (.int (nI (i + 1))), some (.int (nI N))]) dJ7_fill_53178_14 rfl (show nI i + Int32.ofInt 1 = nI (i + 1) from nI_add i 1) (by decide) rfl ?_
    refine e_goto 5 dJ7_fill_53178_17 (by decide) ?_
    refine ih (i + 1) (fsI σ k i v) (by omega) hk (fun j hj => ?_) (fun σ' Sm' r => h σ' ((fSm_I (A := fun a => a = k) rfl).tr Sm') r)
    by_cases e : j = i
    · rw [fI_I, if_pos ⟨rfl, e⟩]
    · rw [fI_I, if_neg (by omega)]; exact hf j (by omega)
set_option maxRecDepth 20000 in
theorem t_J7_fill {g : fGP} {d : Nat} {σ : fAH} {Q : fRes → fAH → Prop} {k N : Nat} {v : Int32} (hs : gsh g k = .inr (0, N)) (hN : N < 1000) (hk : k < fnx σ) (h : ∀ σ', fSm (fun a => a = k) σ σ' → (∀ j, j < N → fI σ' k j = v) → Q (.inl none) σ') : fEv g d mJ7_fill_53178 0 (fent [.ref k, .int v] 4) [] σ Q := by
  show fEv g d mJ7_fill_53178 0 [some (.ref k), some (.int v), none, none] [] σ Q
  refine e_iconst (nI 0) dJ7_fill_53178_0 (by decide) ?_
  refine e_istore_n (L1 := [some (.ref k), some (.int v), some (.int (nI 0)), none]) dJ7_fill_53178_1 rfl (by decide) rfl ?_
  refine e_aload_n dJ7_fill_53178_2 rfl rfl ?_
  refine e_alen dJ7_fill_53178_3 hs (by decide) hk ?_
  refine e_istore_n (L1 := [some (.ref k), some (.int v), some (.int (nI 0)), some (.int (nI N))]) dJ7_fill_53178_4 rfl (by decide) rfl ?_
  exact l_J7_fill hs hN N 0 σ (by omega) hk (fun j hj => absurd hj (by omega)) h
set_option maxRecDepth 20000 in
theorem l_X3_begin {g : fGP} {d : Nat} {Q : fRes → fAH → Prop} {q : Nat} : ∀ (n i : Nat) (σ : fAH), i + n = 30 → fGs g σ q → (fI σ q 5 = nI 0 ∧ fI σ q 6 = nI 0 ∧ fI σ q 7 = nI 0 ∧ fI σ q 8 = nI 0 ∧ fI σ q 9 = nI 12 ∧ fI σ q 10 = nI 9 ∧ fI σ q 11 = nI 30) → (∀ j, j < 300 → fI σ (q + 5) j = if j % 10 = 0 ∧ j / 10 < i then nI 8 else nI 0) → (∀ σ', fSm (fGA q) σ σ' → fGr σ' q D0 → Q (.inl none) σ') → fEv g (d) mX3_begin 48 [some (.ref q), some (.int (nI i))] [] σ Q := by
  intro n
  induction n with
  | zero =>
    intro i σ hin Gs hf hp h
    obtain ⟨⟨g0, g1, g2, g3, g4, g5⟩, ⟨gn, gK⟩, ⟨gr0, gr1, gr2, gr3, gr4⟩⟩ := id Gs
    refine e_iload_n dX3_begin_48 rfl rfl ?_
    refine e_bipush (nI 30) dX3_begin_49 (by decide) ?_
    refine e_icmp_ge 71 dX3_begin_51 (by decide) (fun cz => ?_) (fun cz => absurd ((nI_le' (by omega) (by omega)).mpr (by omega)) cz)
    refine e_return dX3_begin_71 rfl (h σ fSm.rfl' ⟨hf, fun x hx => absurd hx (Nat.not_lt_zero _), fun x hx => absurd hx (Nat.not_lt_zero _), fun x hx => absurd hx (Nat.not_lt_zero _), fun x hx => absurd hx (Nat.not_lt_zero _), fun t ht => ⟨?_, fun c h1 h2 => ?_⟩⟩)
    · rw [hp (t * 10) (by omega), if_pos (by omega)]; rfl
    · rw [hp (t * 10 + c) (by omega), if_neg (by omega)]; rfl
  | succ n ih =>
    intro i σ hin Gs hf hp h
    obtain ⟨⟨g0, g1, g2, g3, g4, g5⟩, ⟨gn, gK⟩, ⟨gr0, gr1, gr2, gr3, gr4⟩⟩ := id Gs
    have hi : i < 30 := by omega
    refine e_iload_n dX3_begin_48 rfl rfl ?_
    refine e_bipush (nI 30) dX3_begin_49 (by decide) ?_
    refine e_icmp_ge 71 dX3_begin_51 (by decide) (fun cz => absurd ((nI_le' (by omega) (by omega)).mp cz) (by omega)) (fun cz => ?_)
    refine e_aload_n dX3_begin_54 rfl rfl ?_
    refine e_getR (q := q + 5) dX3_begin_55 fl_RX3_24 g0 (show q < fnx σ by omega) rfl gr4 (by unfold fscr; omega) ?_
    refine e_iload_n dX3_begin_58 rfl rfl ?_
    refine e_bipush (nI 10) dX3_begin_59 (by decide) ?_
    refine e_imul dX3_begin_61 ?_
    refine e_int (nI (i * 10)) (pk_mul i 10) ?_
    refine e_bipush (nI 8) dX3_begin_62 (by decide) ?_
    refine e_iastore (i * 10) dX3_begin_64 g5 (show q + 5 < fnx σ by omega) rfl (by omega) (by decide) ?_
    refine e_iinc (v := nI (i + 1)) (L1 := [some (.ref q), some (.int (nI (i + 1)))]) dX3_begin_65 rfl (show nI i + Int32.ofInt 1 = nI (i + 1) from nI_add i 1) (by decide) rfl ?_
    refine e_goto 48 dX3_begin_68 (by decide) ?_
    refine ih (i + 1) (fsI σ (q + 5) (i * 10) (nI 8)) (by omega) ⟨⟨g0, g1, g2, g3, g4, g5⟩, ⟨gn, gK⟩, ⟨gr0, gr1, gr2, gr3, gr4⟩⟩ (by rw [fI_ne (show q ≠ q + 5 by omega)]; exact hf) (fun j hj => ?_) (fun σ' Sm' r => h σ' ((fSm_I (A := fGA q) ⟨by omega, by omega⟩).tr Sm') r)
    by_cases e : j = i * 10
    · rw [fI_I, if_pos ⟨rfl, e⟩, if_pos (by omega)]
    · rw [fI_I, if_neg (by omega), hp j hj]
      by_cases e2 : j % 10 = 0 ∧ j / 10 < i
      · rw [if_pos e2, if_pos (by omega)]
      · rw [if_neg e2, if_neg (by omega)]
set_option maxRecDepth 20000 in
theorem t_X3_begin {g : fGP} {d : Nat} {σ : fAH} {Q : fRes → fAH → Prop} {q : Nat} (Gs : fGs g σ q) (h : ∀ σ', fSm (fGA q) σ σ' → fGr σ' q D0 → Q (.inl none) σ') : fEv g (d + 1) mX3_begin 0 (fent [.ref q] 2) [] σ Q := by
  obtain ⟨⟨g0, g1, g2, g3, g4, g5⟩, ⟨gn, gK⟩, ⟨gr0, gr1, gr2, gr3, gr4⟩⟩ := id Gs
  show fEv g (d + 1) mX3_begin 0 [some (.ref q), none] [] σ Q
  refine e_aload_n dX3_begin_0 rfl rfl ?_
  refine e_iconst (nI 0) dX3_begin_1 (by decide) ?_
  refine e_putI dX3_begin_2 fl_RX3_30 g0 (show q < fnx σ by omega) rfl rfl ?_
  refine e_aload_n dX3_begin_5 rfl rfl ?_
  refine e_iconst (nI 0) dX3_begin_6 (by decide) ?_
  refine e_putI dX3_begin_7 fl_RX3_34 g0 (show q < fnx σ by omega) rfl rfl ?_
  refine e_aload_n dX3_begin_10 rfl rfl ?_
  refine e_iconst (nI 0) dX3_begin_11 (by decide) ?_
  refine e_putI dX3_begin_12 fl_RX3_37 g0 (show q < fnx σ by omega) rfl rfl ?_
  refine e_aload_n dX3_begin_15 rfl rfl ?_
  refine e_iconst (nI 0) dX3_begin_16 (by decide) ?_
  refine e_putI dX3_begin_17 fl_RX3_40 g0 (show q < fnx σ by omega) rfl rfl ?_
  refine e_aload_n dX3_begin_20 rfl rfl ?_
  refine e_bipush (nI 12) dX3_begin_21 (by decide) ?_
  refine e_putI dX3_begin_23 fl_RX3_43 g0 (show q < fnx σ by omega) rfl rfl ?_
  refine e_aload_n dX3_begin_26 rfl rfl ?_
  refine e_bipush (nI 9) dX3_begin_27 (by decide) ?_
  refine e_putI dX3_begin_29 fl_RX3_46 g0 (show q < fnx σ by omega) rfl rfl ?_
  refine e_aload_n dX3_begin_32 rfl rfl ?_
  refine e_bipush (nI 30) dX3_begin_33 (by decide) ?_
  refine e_putI dX3_begin_35 fl_RX3_49 g0 (show q < fnx σ by omega) rfl rfl ?_
  refine e_aload_n dX3_begin_38 rfl rfl ?_
  refine e_getR (q := q + 5) dX3_begin_39 fl_RX3_24 g0 (show q < fnx σ by omega) rfl gr4 (by unfold fscr; omega) ?_
  have Sm0 : fSm (fGA q) σ (fsI (fsI (fsI (fsI (fsI (fsI (fsI σ q 5 (nI 0)) q 6 (nI 0)) q 7 (nI 0)) q 8 (nI 0)) q 9 (nI 12)) q 10 (nI 9)) q 11 (nI 30)) := (((((((fSm_I (A := fGA q) ⟨by omega, by omega⟩).tr (fSm_I (A := fGA q) ⟨by omega, by omega⟩)).tr (fSm_I (A := fGA q) ⟨by omega, by omega⟩)).tr (fSm_I (A := fGA q) ⟨by omega, by omega⟩)).tr (fSm_I (A := fGA q) ⟨by omega, by omega⟩)).tr (fSm_I (A := fGA q) ⟨by omega, by omega⟩)).tr (fSm_I (A := fGA q) ⟨by omega, by omega⟩))
  refine e_iconst (nI 0) dX3_begin_42 (by decide) ?_
  refine e_callS [.ref (q + 5), .int (nI 0)] dX3_begin_43 cc_J7_fill_53178 lk_RX3_52 st_J7_fill_53178 in_RJ7 rfl (Nat.le_of_ble_eq_true rfl) (Nat.le_of_ble_eq_true rfl) ?_
  refine t_J7_fill (σ := fsI (fsI (fsI (fsI (fsI (fsI (fsI σ q 5 (nI 0)) q 6 (nI 0)) q 7 (nI 0)) q 8 (nI 0)) q 9 (nI 12)) q 10 (nI 9)) q 11 (nI 30)) g5 (by decide) (show q + 5 < fnx σ by omega) (fun σ1 Sm1 hp1 => fK_v ?_)
  show fEv g _ mX3_begin 46 [some (.ref q), none] [] σ1 Q
  refine e_iconst (nI 0) dX3_begin_46 (by decide) ?_
  refine e_istore_n (L1 := [some (.ref q), some (.int (nI 0))]) dX3_begin_47 rfl (by decide) rfl ?_
  refine l_X3_begin 30 0 σ1 (by omega) ⟨⟨g0, g1, g2, g3, g4, g5⟩, ⟨by rw [Sm1.n]; exact gn, by rw [Sm1.n]; exact gK⟩, ⟨Sm1.r gr0, Sm1.r gr1, Sm1.r gr2, Sm1.r gr3, Sm1.r gr4⟩⟩ ⟨?_, ?_, ?_, ?_, ?_, ?_, ?_⟩ (fun j hj => by rw [hp1 j hj, if_neg (by omega)]) (fun σ' Sm' r => h σ' (Sm0.tr ((Sm1.to (fun a (e : a = q + 5) => (⟨by omega, by omega⟩ : q ≤ a ∧ a < q + 6))).tr Sm')) r)
  · exact (Sm1.i (fun e => by have e : q = q + 5 := e; omega) 5).trans (by rw [fI_I, if_neg (by omega), fI_I, if_neg (by omega), fI_I, if_neg (by omega), fI_I, if_neg (by omega), fI_I, if_neg (by omega), fI_I, if_neg (by omega), fI_I, if_pos ⟨rfl, rfl⟩])
  · exact (Sm1.i (fun e => by have e : q = q + 5 := e; omega) 6).trans (by rw [fI_I, if_neg (by omega), fI_I, if_neg (by omega), fI_I, if_neg (by omega), fI_I, if_neg (by omega), fI_I, if_neg (by omega), fI_I, if_pos ⟨rfl, rfl⟩])
  · exact (Sm1.i (fun e => by have e : q = q + 5 := e; omega) 7).trans (by rw [fI_I, if_neg (by omega), fI_I, if_neg (by omega), fI_I, if_neg (by omega), fI_I, if_neg (by omega), fI_I, if_pos ⟨rfl, rfl⟩])
  · exact (Sm1.i (fun e => by have e : q = q + 5 := e; omega) 8).trans (by rw [fI_I, if_neg (by omega), fI_I, if_neg (by omega), fI_I, if_neg (by omega), fI_I, if_pos ⟨rfl, rfl⟩])
  · exact (Sm1.i (fun e => by have e : q = q + 5 := e; omega) 9).trans (by rw [fI_I, if_neg (by omega), fI_I, if_neg (by omega), fI_I, if_pos ⟨rfl, rfl⟩])
  · exact (Sm1.i (fun e => by have e : q = q + 5 := e; omega) 10).trans (by rw [fI_I, if_neg (by omega), fI_I, if_pos ⟨rfl, rfl⟩])
  · exact (Sm1.i (fun e => by have e : q = q + 5 := e; omega) 11).trans (by rw [fI_I, if_pos ⟨rfl, rfl⟩])
set_option maxRecDepth 20000 in
theorem l_X5_read {g : fGP} {d : Nat} {Q : fRes → fAH → Prop} {B : Nat → Nat} {n : Nat} {n0 : Int32} (hn6 : n ≤ 600) : ∀ (k i : Nat) (s : fP) (D : fSD) (σ : fAH), i + k = 61 → fMs g σ → (∀ i, i < 600 → fI σ 1 i = sb (B i) ∧ B i < 256) → fI σ 8 2 = nI n → (∀ a, s = .inr a → fWD D ∧ fI σ 8 4 = nI i ∧ fGr σ 9 D) → fPs σ 8 3 n s → (∀ σ', fSm fRdA σ σ' → fPs σ' 8 3 n (mrd B n k s i D).1 → (∀ e, (mrd B n k s i D).1 = .inr e → fGr σ' 9 (mrd B n k s i D).2) → Q (.inl none) σ') → fEv g (d + 7) mX5_read 46 [some (.ref 8), some (.int n0), some (.int (nI i))] [] σ Q := by
  intro k
  induction k with
  | zero =>
    intro i s D σ hi Ms hB hn Gr hs h
    refine e_iload_n dX5_read_46 rfl rfl ?_
    refine e_bipush (nI 60) dX5_read_47 (by decide) ?_
    refine e_icmp_gt 84 dX5_read_49 (by decide) (fun _ => ?_) (fun c => absurd ((nI_lt' (by omega) (by omega)).mpr (by omega)) c)
    exact e_return dX5_read_84 rfl (h σ fSm.rfl' hs (fun e q => (Gr e q).2.2))
  | succ k ih =>
    intro i s D σ hi Ms hB hn Gr hs h
    cases s with
    | inl x =>
      have hs9 : fI σ 8 5 = nI x.1 ∧ fI σ 8 6 = nI x.2 ∧ 1 ≤ x.1 ∧ x.1 ≤ 3 ∧ x.2 ≤ n ∧ ∃ a9, a9 ≤ n ∧ fI σ 8 3 = nI a9 := hs
      rw [mrd_l] at h
      refine e_iload_n dX5_read_46 rfl rfl ?_
      refine e_bipush (nI 60) dX5_read_47 (by decide) ?_
      refine e_icmp_gt 84 dX5_read_49 (by decide) (fun c => absurd ((nI_lt' (by omega) (by omega)).mp c) (by omega)) (fun _ => ?_)
      refine e_aload_n dX5_read_52 rfl rfl ?_
      refine e_getI dX5_read_53 fl_RX5_28 (Ms.s 8 rfl) (Ms.n (by decide)) rfl ?_
      refine e_int (nI x.1) hs9.1 ?_
      refine e_if_ne 84 dX5_read_56 (by decide) (fun _ => ?_) (fun c => absurd ((nI_z (by omega)).mp c) (by omega))
      exact e_return dX5_read_84 rfl (h σ fSm.rfl' hs (fun e q => by cases q))
    | inr a =>
      have hs9 : a ≤ n ∧ fI σ 8 3 = nI a ∧ fI σ 8 5 = nI 0 ∧ fI σ 8 6 = -1 := hs
      obtain ⟨hD, hc, Gr⟩ := Gr a rfl
      refine e_iload_n dX5_read_46 rfl rfl ?_
      refine e_bipush (nI 60) dX5_read_47 (by decide) ?_
      refine e_icmp_gt 84 dX5_read_49 (by decide) (fun c => absurd ((nI_lt' (by omega) (by omega)).mp c) (by omega)) (fun _ => ?_)
      refine e_aload_n dX5_read_52 rfl rfl ?_
      refine e_getI dX5_read_53 fl_RX5_28 (Ms.s 8 rfl) (Ms.n (by decide)) rfl ?_
      refine e_int (nI 0) hs9.2.2.1 ?_
      refine e_if_ne 84 dX5_read_56 (by decide) (fun c => absurd c (by decide)) (fun _ => ?_)
      refine e_aload_n dX5_read_59 rfl rfl ?_
      refine e_getI dX5_read_60 fl_RX5_22 (Ms.s 8 rfl) (Ms.n (by decide)) rfl ?_
      refine e_int (nI a) hs9.2.1 ?_
      refine e_aload_n dX5_read_63 rfl rfl ?_
      refine e_getI dX5_read_64 fl_RX5_18 (Ms.s 8 rfl) (Ms.n (by decide)) rfl ?_
      refine e_int (nI n) hn ?_
      refine e_icmp_ge 84 dX5_read_67 (by decide) (fun c67 => ?_) (fun c67 => ?_)
      · rw [nI_le' (by omega) (by omega)] at c67
        rw [mrd_e (by omega)] at h
        exact e_return dX5_read_84 rfl (h σ fSm.rfl' hs (fun _ _ => Gr))
      · rw [nI_le' (by omega) (by omega)] at c67
        refine e_aload_n dX5_read_70 rfl rfl ?_
        refine e_callV (k := 8) [] dX5_read_71 cc_X5_readClause lk_RX5_50 im_X5_readClause se_X5_readClause (by decide) (Ms.s 8 rfl) (Ms.n (by decide)) rfl (Nat.le_of_ble_eq_true rfl) (Nat.le_of_ble_eq_true rfl) ?_
        refine t_X5_readClause (c9 := i) Ms hB hn hn6 hc (by omega) Gr hD hs (fun σ1 Sm1 hs1 Gr1 hn1 => fK_v ?_)
        show fEv g _ mX5_read 74 [some (.ref 8), some (.int n0), some (.int (nI i))] [] σ1 Q
        have Ms1 := Ms.sm Sm1
        have hB1 : ∀ i, i < 600 → fI σ1 1 i = sb (B i) ∧ B i < 256 := fun i hi => ⟨(Sm1.i (by unfold fRdA; omega) i).trans (hB i hi).1, (hB i hi).2⟩
        rw [mrd_s (show a < n by omega)] at h
        cases q9 : (mcla B n a i D).1 with
        | inl x =>
          rw [q9] at hs1 h Gr1
          obtain ⟨h19, h29, h39, h49, h59, a9, h69, h79⟩ : fI σ1 8 5 = nI x.1 ∧ fI σ1 8 6 = nI x.2 ∧ 1 ≤ x.1 ∧ x.1 ≤ 3 ∧ x.2 ≤ n ∧ ∃ a9, a9 ≤ n ∧ fI σ1 8 3 = nI a9 := hs1
          refine e_aload_n dX5_read_74 rfl rfl ?_
          refine e_callV (k := 8) [] dX5_read_75 cc_X5_skipBlanks lk_RX5_47 im_X5_skipBlanks se_X5_skipBlanks (by decide) (Ms1.s 8 rfl) (Ms1.n (by decide)) rfl (Nat.le_of_ble_eq_true rfl) (Nat.le_of_ble_eq_true rfl) ?_
          refine t_X5_skipBlanks (a := a9) Ms1 hB1 hn1 hn6 h79 h69 (fK_v ?_)
          show fEv g _ mX5_read 78 [some (.ref 8), some (.int n0), some (.int (nI i))] [] (fsI σ1 8 3 (nI (mbl B n a9))) Q
          refine e_iinc (v := nI (i + 1)) (L1 := [some (.ref 8), some (.int n0), some (.int (nI (i + 1)))]) dX5_read_78 rfl (show nI i + Int32.ofInt 1 = nI (i + 1) from nI_add i 1) (by decide) rfl ?_
          refine e_goto 46 dX5_read_81 (by decide) ?_
          have Sm2 : fSm fRdA σ1 (fsI σ1 8 3 (nI (mbl B n a9))) := fSm_I (by unfold fRdA; omega)
          have b9 := mbl_b (B := B) h69
          exact ih (i + 1) (.inl x) _ _ (by omega) (Ms1.sm Sm2) (fun j hj => by rw [fI_I, if_neg (by omega)]; exact hB1 j hj) (by rw [fI_I, if_neg (by omega)]; exact hn1) (fun a q => by cases q) ⟨by rw [fI_I, if_neg (by omega)]; exact h19, by rw [fI_I, if_neg (by omega)]; exact h29, h39, h49, h59, mbl B n a9, b9.2, by rw [fI_I, if_pos ⟨rfl, rfl⟩]⟩ (fun σ' Sm' => h σ' (Sm1.tr (Sm2.tr Sm')))
        | inr a9 =>
          rw [q9] at hs1 h Gr1
          refine e_aload_n dX5_read_74 rfl rfl ?_
          refine e_callV (k := 8) [] dX5_read_75 cc_X5_skipBlanks lk_RX5_47 im_X5_skipBlanks se_X5_skipBlanks (by decide) (Ms1.s 8 rfl) (Ms1.n (by decide)) rfl (Nat.le_of_ble_eq_true rfl) (Nat.le_of_ble_eq_true rfl) ?_
          refine t_X5_skipBlanks (a := a9) Ms1 hB1 hn1 hn6 hs1.2.1 hs1.1 (fK_v ?_)
          show fEv g _ mX5_read 78 [some (.ref 8), some (.int n0), some (.int (nI i))] [] (fsI σ1 8 3 (nI (mbl B n a9))) Q
          refine e_iinc (v := nI (i + 1)) (L1 := [some (.ref 8), some (.int n0), some (.int (nI (i + 1)))]) dX5_read_78 rfl (show nI i + Int32.ofInt 1 = nI (i + 1) from nI_add i 1) (by decide) rfl ?_
          refine e_goto 46 dX5_read_81 (by decide) ?_
          have Sm2 : fSm fRdA σ1 (fsI σ1 8 3 (nI (mbl B n a9))) := fSm_I (by unfold fRdA; omega)
          have b9 := mbl_b (B := B) hs1.1
          obtain ⟨G9, C9⟩ := Gr1 a9 rfl
          exact ih (i + 1) (.inr (mbl B n a9)) _ _ (by omega) (Ms1.sm Sm2) (fun j hj => by rw [fI_I, if_neg (by omega)]; exact hB1 j hj) (by rw [fI_I, if_neg (by omega)]; exact hn1) (fun a q => ⟨(mcla_ok hD q9).1, by rw [fI_I, if_neg (by omega)]; exact C9, G9⟩) ⟨b9.2, by rw [fI_I, if_pos ⟨rfl, rfl⟩], by rw [fI_I, if_neg (by omega)]; exact hs1.2.2.1, by rw [fI_I, if_neg (by omega)]; exact hs1.2.2.2⟩ (fun σ' Sm' => h σ' (Sm1.tr (Sm2.tr Sm')))
set_option maxRecDepth 20000 in
theorem t_X5_read {g : fGP} {d : Nat} {σ : fAH} {Q : fRes → fAH → Prop} {B : Nat → Nat} {n : Nat} (Ms : fMs g σ) (hB : ∀ i, i < 600 → fI σ 1 i = sb (B i) ∧ B i < 256) (hn6 : n ≤ 600) (h : ∀ σ', fSm fRdA σ σ' → fPs σ' 8 3 n (mrd B n 61 (.inr (mbl B n 0)) 0 D0).1 → (∀ e, (mrd B n 61 (.inr (mbl B n 0)) 0 D0).1 = .inr e → fGr σ' 9 (mrd B n 61 (.inr (mbl B n 0)) 0 D0).2) → Q (.inl none) σ') : fEv g (d + 7) mX5_read 0 (fent [.ref 8, .int (nI n)] 3) [] σ Q := by
  show fEv g (d + 7) mX5_read 0 [some (.ref 8), some (.int (nI n)), none] [] σ Q
  refine e_aload_n dX5_read_0 rfl rfl ?_
  refine e_getR (q := 9) dX5_read_1 fl_RX5_12 (Ms.s 8 rfl) (Ms.n (by decide)) rfl (Ms.r 8 1 rfl) (by unfold fscr; omega) ?_
  refine e_callV (k := 9) [] dX5_read_4 cc_X3_begin lk_RX5_38 im_X3_begin se_X3_begin (by decide) (Ms.s 9 rfl) (Ms.n (by decide)) rfl (Nat.le_of_ble_eq_true rfl) (Nat.le_of_ble_eq_true rfl) ?_
  refine t_X3_begin (Ms.ground (k := 9) (by decide)) (fun σ0 Sm0 Gr0 => fK_v ?_)
  show fEv g _ mX5_read 7 [some (.ref 8), some (.int (nI n)), none] [] σ0 Q
  refine e_aload_n dX5_read_7 rfl rfl ?_
  refine e_iload_n dX5_read_8 rfl rfl ?_
  refine e_aload_n dX5_read_9 rfl rfl ?_
  refine e_getR (q := 1) dX5_read_10 fl_RX5_34 (Ms.s 8 rfl) ((Ms.sm Sm0).n (by decide)) rfl ((Ms.sm Sm0).r 8 0 rfl) (by unfold fscr; omega) ?_
  refine e_alen dX5_read_13 (Ms.s 1 rfl) (by decide) ((Ms.sm Sm0).n (by decide)) ?_
  refine e_min dX5_read_14 ml_RX5_41 w_min (Nat.le_of_ble_eq_true rfl) ?_
  refine e_int (nI n) ((nI_mn (by omega) (by omega)).trans (by rw [Nat.min_eq_left (by omega)])) ?_
  refine e_putI dX5_read_17 fl_RX5_18 (Ms.s 8 rfl) ((Ms.sm Sm0).n (by decide)) rfl rfl ?_
  refine e_aload_n dX5_read_20 rfl rfl ?_
  refine e_iconst (nI 0) dX5_read_21 (by decide) ?_
  refine e_putI dX5_read_22 fl_RX5_22 (Ms.s 8 rfl) ((Ms.sm Sm0).n (by decide)) rfl rfl ?_
  refine e_aload_n dX5_read_25 rfl rfl ?_
  refine e_iconst (nI 0) dX5_read_26 (by decide) ?_
  refine e_putI dX5_read_27 fl_RX5_25 (Ms.s 8 rfl) ((Ms.sm Sm0).n (by decide)) rfl rfl ?_
  refine e_aload_n dX5_read_30 rfl rfl ?_
  refine e_iconst (nI 0) dX5_read_31 (by decide) ?_
  refine e_putI dX5_read_32 fl_RX5_28 (Ms.s 8 rfl) ((Ms.sm Sm0).n (by decide)) rfl rfl ?_
  refine e_aload_n dX5_read_35 rfl rfl ?_
  refine e_iconst (-1) dX5_read_36 (by decide) ?_
  refine e_putI dX5_read_37 fl_RX5_31 (Ms.s 8 rfl) ((Ms.sm Sm0).n (by decide)) rfl rfl ?_
  have Sm3 : fSm fRdA σ (fsI (fsI (fsI (fsI (fsI σ0 8 2 (nI n)) 8 3 (nI 0)) 8 4 (nI 0)) 8 5 (nI 0)) 8 6 ((-1))) := (Sm0.to (fun a (q : 9 ≤ a ∧ a < 9 + 6) => (by omega : 8 ≤ a ∧ a < 15))).tr (((((fSm_I (A := fRdA) (by unfold fRdA; omega)).tr (fSm_I (A := fRdA) (by unfold fRdA; omega))).tr (fSm_I (A := fRdA) (by unfold fRdA; omega))).tr (fSm_I (A := fRdA) (by unfold fRdA; omega))).tr (fSm_I (A := fRdA) (by unfold fRdA; omega)))
  have Ms3 := Ms.sm Sm3
  have hB3 : ∀ i, i < 600 → fI (fsI (fsI (fsI (fsI (fsI σ0 8 2 (nI n)) 8 3 (nI 0)) 8 4 (nI 0)) 8 5 (nI 0)) 8 6 ((-1))) 1 i = sb (B i) ∧ B i < 256 := fun i hi => ⟨(Sm3.i (by unfold fRdA; omega) i).trans (hB i hi).1, (hB i hi).2⟩
  have hn3 : fI (fsI (fsI (fsI (fsI (fsI σ0 8 2 (nI n)) 8 3 (nI 0)) 8 4 (nI 0)) 8 5 (nI 0)) 8 6 ((-1))) 8 2 = nI n := by rw [fI_I, if_neg (by omega), fI_I, if_neg (by omega), fI_I, if_neg (by omega), fI_I, if_neg (by omega), fI_I, if_pos ⟨rfl, rfl⟩]
  have ha3 : fI (fsI (fsI (fsI (fsI (fsI σ0 8 2 (nI n)) 8 3 (nI 0)) 8 4 (nI 0)) 8 5 (nI 0)) 8 6 ((-1))) 8 3 = nI 0 := by rw [fI_I, if_neg (by omega), fI_I, if_neg (by omega), fI_I, if_neg (by omega), fI_I, if_pos ⟨rfl, rfl⟩]
  have hc3 : fI (fsI (fsI (fsI (fsI (fsI σ0 8 2 (nI n)) 8 3 (nI 0)) 8 4 (nI 0)) 8 5 (nI 0)) 8 6 ((-1))) 8 4 = nI 0 := by rw [fI_I, if_neg (by omega), fI_I, if_neg (by omega), fI_I, if_pos ⟨rfl, rfl⟩]
  have hf3 : fI (fsI (fsI (fsI (fsI (fsI σ0 8 2 (nI n)) 8 3 (nI 0)) 8 4 (nI 0)) 8 5 (nI 0)) 8 6 ((-1))) 8 5 = nI 0 := by rw [fI_I, if_neg (by omega), fI_I, if_pos ⟨rfl, rfl⟩]
  have hp3 : fI (fsI (fsI (fsI (fsI (fsI σ0 8 2 (nI n)) 8 3 (nI 0)) 8 4 (nI 0)) 8 5 (nI 0)) 8 6 ((-1))) 8 6 = -1 := by rw [fI_I, if_pos ⟨rfl, rfl⟩]
  have Gr3 : fGr (fsI (fsI (fsI (fsI (fsI σ0 8 2 (nI n)) 8 3 (nI 0)) 8 4 (nI 0)) 8 5 (nI 0)) 8 6 ((-1))) 9 D0 := Gr0
  generalize fsI (fsI (fsI (fsI (fsI σ0 8 2 (nI n)) 8 3 (nI 0)) 8 4 (nI 0)) 8 5 (nI 0)) 8 6 ((-1)) = σ3 at Sm3 Ms3 hB3 hn3 ha3 hc3 hf3 hp3 Gr3 ⊢
  refine e_aload_n dX5_read_40 rfl rfl ?_
  refine e_callV (k := 8) [] dX5_read_41 cc_X5_skipBlanks lk_RX5_47 im_X5_skipBlanks se_X5_skipBlanks (by decide) (Ms.s 8 rfl) (Ms3.n (by decide)) rfl (Nat.le_of_ble_eq_true rfl) (Nat.le_of_ble_eq_true rfl) ?_
  refine t_X5_skipBlanks (a := 0) Ms3 hB3 hn3 hn6 ha3 (Nat.zero_le _) (fK_v ?_)
  show fEv g _ mX5_read 44 [some (.ref 8), some (.int (nI n)), none] [] (fsI σ3 8 3 (nI (mbl B n 0))) Q
  refine e_iconst (nI 0) dX5_read_44 (by decide) ?_
  refine e_istore_n (L1 := [some (.ref 8), some (.int (nI n)), some (.int (nI 0))]) dX5_read_45 rfl (by decide) rfl ?_
  have Sm4 : fSm fRdA σ3 (fsI σ3 8 3 (nI (mbl B n 0))) := fSm_I (by unfold fRdA; omega)
  exact l_X5_read hn6 61 0 (.inr (mbl B n 0)) D0 _ (by omega) (Ms3.sm Sm4) (fun j hj => by rw [fI_I, if_neg (by omega)]; exact hB3 j hj) (by rw [fI_I, if_neg (by omega)]; exact hn3) (fun a q => ⟨fWD0, by rw [fI_I, if_neg (by omega)]; exact hc3, Gr3⟩) ⟨(mbl_b (B := B) (Nat.zero_le _)).2, by rw [fI_I, if_pos ⟨rfl, rfl⟩], by rw [fI_I, if_neg (by omega)]; exact hf3, by rw [fI_I, if_neg (by omega)]; exact hp3⟩ (fun σ' Sm' => h σ' (Sm3.tr (Sm4.tr Sm')))
