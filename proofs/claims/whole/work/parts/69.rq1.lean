def fQA : Nat → Prop := fun a => a = 92 ∨ (101 ≤ a ∧ a < 107) ∨ (121 ≤ a ∧ a < 133) ∨ (141 ≤ a ∧ a < 147) ∨ (173 ≤ a ∧ a < 198)
theorem fRr.smq {σ σ1 : fAH} {D : fSD} (h : fRr σ D) (s : fSm fQA σ σ1) (hD : fWD D) : fRr σ1 D := by
  obtain ⟨t0, t1, t2, t3, t4, t5, t6⟩ := id hD.1
  obtain ⟨h1, h2, h3, h4, h5⟩ := h
  refine ⟨fun i hi => ?_, fun b hb c hc => ?_, fun b hb c hc => ?_, fun b hb c hc => ?_, fun b hb c hc => ?_⟩
  · rw [s.i (by unfold fQA; omega)]; exact h1 i hi
  · rw [s.i (by unfold fQA; omega)]; exact h2 b hb c hc
  · rw [s.i (by unfold fQA; omega)]; exact h3 b hb c hc
  · rw [s.i (by unfold fQA; omega)]; exact h4 b hb c hc
  · rw [s.i (by unfold fQA; omega)]; exact h5 b hb c hc
/-- so far: b0 blocks, b1 slots, b2 orders, b6 odds; s stands as SS -/
def fQp (σ : fAH) (D : fSD) (b0 b1 b2 b6 : Nat) (SS : Nat → Nat) : Prop := (∀ i, i < 7 → fI σ 92 i = nI (dT D i)) ∧ (∀ b, b < b0 → ∀ c, c < 3 → fI σ (101 + b) c = nI (dB D b c)) ∧ (∀ b, b < b1 → ∀ c, c < 5 → fI σ (121 + b) c = nI (dS D b c)) ∧ (∀ b, b < b2 → ∀ c, c < 5 → fI σ (141 + b) c = nI (dO D b c)) ∧ (∀ b, b < b6 → ∀ c, c < 3 → fI σ (173 + b) c = nI (dZ D b c)) ∧ (∀ j, j < 156 → fI σ 197 j = nI (SS j)) ∧ fI σ 197 156 = nI 0
theorem s_up {σ : fAH} {S : Nat → Nat} {i v j : Nat} (h : fI σ 197 j = nI (S j)) : fI (fsI σ 197 i (nI v)) 197 j = nI (mup S i v j) := by
  unfold mup
  by_cases e : j = i
  · rw [fI_I, if_pos ⟨rfl, e⟩, if_pos e]
  · rw [fI_I, if_neg (by omega), if_neg e]; exact h
theorem fQp.up {σ : fAH} {D : fSD} {b0 b1 b2 b6 i v : Nat} {SS : Nat → Nat} (h : fQp σ D b0 b1 b2 b6 SS) (hb : b0 ≤ 6 ∧ b1 ≤ 12 ∧ b2 ≤ 6 ∧ b6 ≤ 24) (hi : i ≠ 156) : fQp (fsI σ 197 i (nI v)) D b0 b1 b2 b6 (mup SS i v) := by
  obtain ⟨h1, h2, h3, h4, h5, h6, h7⟩ := h
  refine ⟨fun j hj => ?_, fun b hb c hc => ?_, fun b hb c hc => ?_, fun b hb c hc => ?_, fun b hb c hc => ?_, fun j hj => s_up (h6 j hj), ?_⟩
  · rw [fI_ne (by omega)]; exact h1 j hj
  · rw [fI_ne (by omega)]; exact h2 b hb c hc
  · rw [fI_ne (by omega)]; exact h3 b hb c hc
  · rw [fI_ne (by omega)]; exact h4 b hb c hc
  · rw [fI_ne (by omega)]; exact h5 b hb c hc
  · rw [fI_I, if_neg (by omega)]; exact h7
/-- another row is copied: the cell R -/
theorem fQp.row {σ σ1 : fAH} {D : fSD} {b0 b1 b2 b6 R : Nat} {SS : Nat → Nat} (h : fQp σ D b0 b1 b2 b6 SS) (hb : b0 ≤ 6 ∧ b1 ≤ 12 ∧ b2 ≤ 6 ∧ b6 ≤ 24) (s : fSm (fun a => a = R) σ σ1) (hR : R = 101 + b0 ∧ b0 < 6 ∨ R = 121 + b1 ∧ b1 < 12 ∨ R = 141 + b2 ∧ b2 < 6 ∨ R = 173 + b6 ∧ b6 < 24) : fQp σ1 D b0 b1 b2 b6 SS := by
  obtain ⟨h1, h2, h3, h4, h5, h6, h7⟩ := h
  refine ⟨fun j hj => ?_, fun b hb c hc => ?_, fun b hb c hc => ?_, fun b hb c hc => ?_, fun b hb c hc => ?_, fun j hj => ?_, ?_⟩
  · rw [s.i (fun (q : 92 = R) => by omega)]; exact h1 j hj
  · rw [s.i (fun (q : 101 + b = R) => by omega)]; exact h2 b hb c hc
  · rw [s.i (fun (q : 121 + b = R) => by omega)]; exact h3 b hb c hc
  · rw [s.i (fun (q : 141 + b = R) => by omega)]; exact h4 b hb c hc
  · rw [s.i (fun (q : 173 + b = R) => by omega)]; exact h5 b hb c hc
  · rw [s.i (fun (q : 197 = R) => by omega)]; exact h6 j hj
  · rw [s.i (fun (q : 197 = R) => by omega)]; exact h7
theorem fQp.fin {σ : fAH} {D : fSD} (h : fQp σ D (dT D 0) (dT D 1) (dT D 2) (dT D 6) (mS0 D)) (hD : fWD D) : fMr σ D (mS0 D) (nI 0) := by
  obtain ⟨h1, h2, h3, h4, h5, h6, h7⟩ := h
  exact ⟨h1, h2, h3, h4, h5, fun i hi => ⟨h6 i hi, mS0_lt hD i⟩, h7⟩
set_option maxRecDepth 20000 in
theorem t_X10_bad0 {g : fGP} {d : Nat} {σ : fAH} {Q : fRes → fAH → Prop} {w : Nat} (Ms : fMs g σ) (ht : fI σ 89 0 = nI 0) (hw : 1 ≤ w ∧ w < 10) (h : Q (.inl (some (.int (nI 0)))) σ) : fEv g d mX10_bad 0 (fent [.ref 89, .int (nI 0), .int (nI w)] 3) [] σ Q := by
  show fEv g d mX10_bad 0 [some (.ref 89), some (.int (nI 0)), some (.int (nI w))] [] σ Q
  refine e_iload_n dX10_bad_0 rfl rfl ?_
  refine e_if_eq 16 dX10_bad_1 (by decide) (fun _ => ?_) (fun c => absurd c (by decide))
  refine e_aload_n dX10_bad_16 rfl rfl ?_
  refine e_getI dX10_bad_17 fl_RX10_76 (Ms.s 89 rfl) (Ms.n (by decide)) rfl ?_
  refine e_int (nI 0) ht ?_
  refine e_if_eq 27 dX10_bad_20 (by decide) (fun _ => ?_) (fun c => absurd c (by decide))
  refine e_iconst (nI 0) dX10_bad_27 (by decide) ?_
  exact e_ireturn .boolean dX10_bad_28 rfl (by decide) h
set_option maxRecDepth 20000 in
theorem t_X10_bad1 {g : fGP} {d : Nat} {σ : fAH} {Q : fRes → fAH → Prop} {w : Nat} (Ms : fMs g σ) (ht : fI σ 89 0 = nI 0) (hw : 1 ≤ w ∧ w < 10) (h : Q (.inl (some (.int (nI 1)))) (fsI σ 89 0 (nI w))) : fEv g d mX10_bad 0 (fent [.ref 89, .int (nI 1), .int (nI w)] 3) [] σ Q := by
  show fEv g d mX10_bad 0 [some (.ref 89), some (.int (nI 1)), some (.int (nI w))] [] σ Q
  refine e_iload_n dX10_bad_0 rfl rfl ?_
  refine e_if_eq 16 dX10_bad_1 (by decide) (fun c => absurd c (by decide)) (fun _ => ?_)
  refine e_aload_n dX10_bad_4 rfl rfl ?_
  refine e_getI dX10_bad_5 fl_RX10_76 (Ms.s 89 rfl) (Ms.n (by decide)) rfl ?_
  refine e_int (nI 0) ht ?_
  refine e_if_ne 16 dX10_bad_8 (by decide) (fun c => absurd c (by decide)) (fun _ => ?_)
  refine e_aload_n dX10_bad_11 rfl rfl ?_
  refine e_iload_n dX10_bad_12 rfl rfl ?_
  refine e_putI dX10_bad_13 fl_RX10_76 (Ms.s 89 rfl) (Ms.n (by decide)) rfl rfl ?_
  refine e_aload_n dX10_bad_16 rfl rfl ?_
  refine e_getI dX10_bad_17 fl_RX10_76 (Ms.s 89 rfl) (Ms.n (by decide)) rfl ?_
  refine e_int (nI w) (by rw [fI_I, if_pos ⟨rfl, rfl⟩]) ?_
  refine e_if_eq 27 dX10_bad_20 (by decide) (fun c => absurd ((nI_z (by omega)).mp c) (by omega)) (fun _ => ?_)
  refine e_iconst (nI 1) dX10_bad_23 (by decide) ?_
  refine e_goto 28 dX10_bad_24 (by decide) ?_
  exact e_ireturn .boolean dX10_bad_28 rfl (by decide) h
set_option maxRecDepth 20000 in
theorem l_X10_tells {g : fGP} {d : Nat} {Q : fRes → fAH → Prop} : ∀ (n i : Nat) (σ : fAH), i + n = 7 → fMs g σ → (∀ j, j < i → fI σ 91 j = nI (dT D0 j)) → (∀ σ', fSm (fun a => a = 91) σ σ' → (∀ j, j < 7 → fI σ' 91 j = nI (dT D0 j)) → Q (.inl none) σ') → fEv g (d) mX10_tellsNothing 2 [some (.ref 89), some (.int (nI i))] [] σ Q := by
  intro n
  induction n with
  | zero =>
    intro i σ hin Ms hf h
    refine e_iload_n dX10_tellsNothing_2 rfl rfl ?_
    refine e_bipush (nI 7) dX10_tellsNothing_3 (by decide) ?_
    refine e_icmp_ge 51 dX10_tellsNothing_5 (by decide) (fun cz => ?_) (fun cz => absurd ((nI_le' (by omega) (by omega)).mpr (by omega)) cz)
    exact e_return dX10_tellsNothing_51 rfl (h σ fSm.rfl' (fun j hj => hf j (by omega)))
  | succ n ih =>
    intro i σ hin Ms hf h
    have hi : i < 7 := by omega
    refine e_iload_n dX10_tellsNothing_2 rfl rfl ?_
    refine e_bipush (nI 7) dX10_tellsNothing_3 (by decide) ?_
    refine e_icmp_ge 51 dX10_tellsNothing_5 (by decide) (fun cz => absurd ((nI_le' (by omega) (by omega)).mp cz) (by omega)) (fun cz => ?_)
    refine e_aload_n dX10_tellsNothing_8 rfl rfl ?_
    refine e_getR (q := 91) dX10_tellsNothing_9 fl_RX10_17 (Ms.s 89 rfl) (Ms.n (by decide)) rfl (Ms.r 89 9 rfl) (by unfold fscr; omega) ?_
    refine e_iload_n dX10_tellsNothing_12 rfl rfl ?_
    refine e_iload_n dX10_tellsNothing_13 rfl rfl ?_
    refine e_iconst (nI 3) dX10_tellsNothing_14 (by decide) ?_
    refine e_icmp_ne 23 dX10_tellsNothing_15 (by decide) (fun c15 => ?_) (fun c15 => ?_)
    · rw [nI_inj (by omega) (by omega)] at c15
      refine e_iload_n dX10_tellsNothing_23 rfl rfl ?_
      refine e_iconst (nI 4) dX10_tellsNothing_24 (by decide) ?_
      refine e_icmp_ne 33 dX10_tellsNothing_25 (by decide) (fun c25 => ?_) (fun c25 => ?_)
      · rw [nI_inj (by omega) (by omega)] at c25
        refine e_iload_n dX10_tellsNothing_33 rfl rfl ?_
        refine e_iconst (nI 5) dX10_tellsNothing_34 (by decide) ?_
        refine e_icmp_ne 43 dX10_tellsNothing_35 (by decide) (fun c35 => ?_) (fun c35 => ?_)
        · rw [nI_inj (by omega) (by omega)] at c35
          refine e_iconst (nI 0) dX10_tellsNothing_43 (by decide) ?_
          refine e_iastore i dX10_tellsNothing_44 (Ms.s 91 rfl) (Ms.n (by decide)) rfl (by omega) (by decide) ?_
          refine e_iinc (v := nI (i + 1)) (L1 := [some (.ref 89), some (.int (nI (i + 1)))]) dX10_tellsNothing_45 rfl (show nI i + Int32.ofInt 1 = nI (i + 1) from nI_add i 1) (by decide) rfl ?_
          refine e_goto 2 dX10_tellsNothing_48 (by decide) ?_
          refine ih (i + 1) (fsI σ 91 i (nI 0)) (by omega) (Ms.sm (A := fun a => a = 91) (fSm_I rfl)) (fun j hj => ?_) (fun σ' Sm' => h σ' ((fSm_I (A := fun a => a = 91) rfl).tr Sm'))
          by_cases e : j = i
          · rw [fI_I, if_pos ⟨rfl, e⟩, e]; exact congrArg nI (show 0 = (if i = 3 then 12 else if i = 4 then 9 else if i = 5 then 30 else 0) by repeat' split <;> omega)
          · rw [fI_I, if_neg (by omega)]; exact hf j (by omega)
        · rw [nI_inj (by omega) (by omega)] at c35
          refine e_bipush (nI 30) dX10_tellsNothing_38 (by decide) ?_
          refine e_goto 44 dX10_tellsNothing_40 (by decide) ?_
          refine e_iastore i dX10_tellsNothing_44 (Ms.s 91 rfl) (Ms.n (by decide)) rfl (by omega) (by decide) ?_
          refine e_iinc (v := nI (i + 1)) (L1 := [some (.ref 89), some (.int (nI (i + 1)))]) dX10_tellsNothing_45 rfl (show nI i + Int32.ofInt 1 = nI (i + 1) from nI_add i 1) (by decide) rfl ?_
          refine e_goto 2 dX10_tellsNothing_48 (by decide) ?_
          refine ih (i + 1) (fsI σ 91 i (nI 30)) (by omega) (Ms.sm (A := fun a => a = 91) (fSm_I rfl)) (fun j hj => ?_) (fun σ' Sm' => h σ' ((fSm_I (A := fun a => a = 91) rfl).tr Sm'))
          by_cases e : j = i
          · rw [fI_I, if_pos ⟨rfl, e⟩, e]; exact congrArg nI (show 30 = (if i = 3 then 12 else if i = 4 then 9 else if i = 5 then 30 else 0) by repeat' split <;> omega)
          · rw [fI_I, if_neg (by omega)]; exact hf j (by omega)
      · rw [nI_inj (by omega) (by omega)] at c25
        refine e_bipush (nI 9) dX10_tellsNothing_28 (by decide) ?_
        refine e_goto 44 dX10_tellsNothing_30 (by decide) ?_
        refine e_iastore i dX10_tellsNothing_44 (Ms.s 91 rfl) (Ms.n (by decide)) rfl (by omega) (by decide) ?_
        refine e_iinc (v := nI (i + 1)) (L1 := [some (.ref 89), some (.int (nI (i + 1)))]) dX10_tellsNothing_45 rfl (show nI i + Int32.ofInt 1 = nI (i + 1) from nI_add i 1) (by decide) rfl ?_
        refine e_goto 2 dX10_tellsNothing_48 (by decide) ?_
        refine ih (i + 1) (fsI σ 91 i (nI 9)) (by omega) (Ms.sm (A := fun a => a = 91) (fSm_I rfl)) (fun j hj => ?_) (fun σ' Sm' => h σ' ((fSm_I (A := fun a => a = 91) rfl).tr Sm'))
        by_cases e : j = i
        · rw [fI_I, if_pos ⟨rfl, e⟩, e]; exact congrArg nI (show 9 = (if i = 3 then 12 else if i = 4 then 9 else if i = 5 then 30 else 0) by repeat' split <;> omega)
        · rw [fI_I, if_neg (by omega)]; exact hf j (by omega)
    · rw [nI_inj (by omega) (by omega)] at c15
      refine e_bipush (nI 12) dX10_tellsNothing_18 (by decide) ?_
      refine e_goto 44 dX10_tellsNothing_20 (by decide) ?_
      refine e_iastore i dX10_tellsNothing_44 (Ms.s 91 rfl) (Ms.n (by decide)) rfl (by omega) (by decide) ?_
      refine e_iinc (v := nI (i + 1)) (L1 := [some (.ref 89), some (.int (nI (i + 1)))]) dX10_tellsNothing_45 rfl (show nI i + Int32.ofInt 1 = nI (i + 1) from nI_add i 1) (by decide) rfl ?_
      refine e_goto 2 dX10_tellsNothing_48 (by decide) ?_
      refine ih (i + 1) (fsI σ 91 i (nI 12)) (by omega) (Ms.sm (A := fun a => a = 91) (fSm_I rfl)) (fun j hj => ?_) (fun σ' Sm' => h σ' ((fSm_I (A := fun a => a = 91) rfl).tr Sm'))
      by_cases e : j = i
      · rw [fI_I, if_pos ⟨rfl, e⟩, e]; exact congrArg nI (show 12 = (if i = 3 then 12 else if i = 4 then 9 else if i = 5 then 30 else 0) by repeat' split <;> omega)
      · rw [fI_I, if_neg (by omega)]; exact hf j (by omega)
set_option maxRecDepth 20000 in
theorem t_X10_tellsNothing {g : fGP} {d : Nat} {σ : fAH} {Q : fRes → fAH → Prop} (Ms : fMs g σ) (h : ∀ σ', fSm (fun a => a = 91) σ σ' → (∀ j, j < 7 → fI σ' 91 j = nI (dT D0 j)) → Q (.inl none) σ') : fEv g d mX10_tellsNothing 0 (fent [.ref 89] 2) [] σ Q := by
  show fEv g d mX10_tellsNothing 0 [some (.ref 89), none] [] σ Q
  refine e_iconst (nI 0) dX10_tellsNothing_0 (by decide) ?_
  refine e_istore_n (L1 := [some (.ref 89), some (.int (nI 0))]) dX10_tellsNothing_1 rfl (by decide) rfl ?_
  exact l_X10_tells 7 0 σ (by omega) Ms (fun j hj => absurd hj (by omega)) h
set_option maxRecDepth 20000 in
theorem t_X10_lays {g : fGP} {d : Nat} {σ : fAH} {Q : fRes → fAH → Prop} {p b x x2 y y2 : Nat} (Ms : fMs g σ) (hp : p < 20) (h : Q (.inl none) (fsI (fsI (fsI (fsI (fsI (fsI σ 197 (p * 6) (nI b)) 197 (p * 6 + 1) (nI x)) 197 (p * 6 + 2) (nI x2)) 197 (p * 6 + 3) (nI y)) 197 (p * 6 + 4) (nI y2)) 197 (p * 6 + 5) (nI 1))) : fEv g d mX10_lays 0 (fent [.ref 89, .int (nI p), .int (nI b), .int (nI x), .int (nI x2), .int (nI y), .int (nI y2)] 7) [] σ Q := by
  show fEv g d mX10_lays 0 [some (.ref 89), some (.int (nI p)), some (.int (nI b)), some (.int (nI x)), some (.int (nI x2)), some (.int (nI y)), some (.int (nI y2))] [] σ Q
  refine e_aload_n dX10_lays_0 rfl rfl ?_
  refine e_getR (q := 197) dX10_lays_1 fl_RX10_49 (Ms.s 89 rfl) (Ms.n (by decide)) rfl (Ms.r 89 19 rfl) (by unfold fscr; omega) ?_
  refine e_bipush (nI 6) dX10_lays_4 (by decide) ?_
  refine e_iload_n dX10_lays_6 rfl rfl ?_
  refine e_imul dX10_lays_7 ?_
  refine e_int (nI (p * 6)) ((pk_mul 6 p).trans (by rw [Nat.mul_comm])) ?_
  refine e_iload_n dX10_lays_8 rfl rfl ?_
  refine e_iastore (p * 6) dX10_lays_9 (Ms.s 197 rfl) (Ms.n (by decide)) rfl (by omega) (by decide) ?_
  refine e_aload_n dX10_lays_10 rfl rfl ?_
  refine e_getR (q := 197) dX10_lays_11 fl_RX10_49 (Ms.s 89 rfl) (Ms.n (by decide)) rfl (Ms.r 89 19 rfl) (by unfold fscr; omega) ?_
  refine e_bipush (nI 6) dX10_lays_14 (by decide) ?_
  refine e_iload_n dX10_lays_16 rfl rfl ?_
  refine e_imul dX10_lays_17 ?_
  refine e_int (nI (p * 6)) ((pk_mul 6 p).trans (by rw [Nat.mul_comm])) ?_
  refine e_iconst (nI 1) dX10_lays_18 (by decide) ?_
  refine e_iadd dX10_lays_19 ?_
  refine e_int (nI (p * 6 + 1)) (nI_add (p * 6) 1) ?_
  refine e_iload_n dX10_lays_20 rfl rfl ?_
  refine e_iastore (p * 6 + 1) dX10_lays_21 (Ms.s 197 rfl) (Ms.n (by decide)) rfl (by omega) (by decide) ?_
  refine e_aload_n dX10_lays_22 rfl rfl ?_
  refine e_getR (q := 197) dX10_lays_23 fl_RX10_49 (Ms.s 89 rfl) (Ms.n (by decide)) rfl (Ms.r 89 19 rfl) (by unfold fscr; omega) ?_
  refine e_bipush (nI 6) dX10_lays_26 (by decide) ?_
  refine e_iload_n dX10_lays_28 rfl rfl ?_
  refine e_imul dX10_lays_29 ?_
  refine e_int (nI (p * 6)) ((pk_mul 6 p).trans (by rw [Nat.mul_comm])) ?_
  refine e_iconst (nI 2) dX10_lays_30 (by decide) ?_
  refine e_iadd dX10_lays_31 ?_
  refine e_int (nI (p * 6 + 2)) (nI_add (p * 6) 2) ?_
  refine e_iload dX10_lays_32 rfl ?_
  refine e_iastore (p * 6 + 2) dX10_lays_34 (Ms.s 197 rfl) (Ms.n (by decide)) rfl (by omega) (by decide) ?_
  refine e_aload_n dX10_lays_35 rfl rfl ?_
  refine e_getR (q := 197) dX10_lays_36 fl_RX10_49 (Ms.s 89 rfl) (Ms.n (by decide)) rfl (Ms.r 89 19 rfl) (by unfold fscr; omega) ?_
  refine e_bipush (nI 6) dX10_lays_39 (by decide) ?_
  refine e_iload_n dX10_lays_41 rfl rfl ?_
  refine e_imul dX10_lays_42 ?_
  refine e_int (nI (p * 6)) ((pk_mul 6 p).trans (by rw [Nat.mul_comm])) ?_
  refine e_iconst (nI 3) dX10_lays_43 (by decide) ?_
  refine e_iadd dX10_lays_44 ?_
  refine e_int (nI (p * 6 + 3)) (nI_add (p * 6) 3) ?_
  refine e_iload dX10_lays_45 rfl ?_
  refine e_iastore (p * 6 + 3) dX10_lays_47 (Ms.s 197 rfl) (Ms.n (by decide)) rfl (by omega) (by decide) ?_
  refine e_aload_n dX10_lays_48 rfl rfl ?_
  refine e_getR (q := 197) dX10_lays_49 fl_RX10_49 (Ms.s 89 rfl) (Ms.n (by decide)) rfl (Ms.r 89 19 rfl) (by unfold fscr; omega) ?_
  refine e_bipush (nI 6) dX10_lays_52 (by decide) ?_
  refine e_iload_n dX10_lays_54 rfl rfl ?_
  refine e_imul dX10_lays_55 ?_
  refine e_int (nI (p * 6)) ((pk_mul 6 p).trans (by rw [Nat.mul_comm])) ?_
  refine e_iconst (nI 4) dX10_lays_56 (by decide) ?_
  refine e_iadd dX10_lays_57 ?_
  refine e_int (nI (p * 6 + 4)) (nI_add (p * 6) 4) ?_
  refine e_iload dX10_lays_58 rfl ?_
  refine e_iastore (p * 6 + 4) dX10_lays_60 (Ms.s 197 rfl) (Ms.n (by decide)) rfl (by omega) (by decide) ?_
  refine e_aload_n dX10_lays_61 rfl rfl ?_
  refine e_getR (q := 197) dX10_lays_62 fl_RX10_49 (Ms.s 89 rfl) (Ms.n (by decide)) rfl (Ms.r 89 19 rfl) (by unfold fscr; omega) ?_
  refine e_bipush (nI 6) dX10_lays_65 (by decide) ?_
  refine e_iload_n dX10_lays_67 rfl rfl ?_
  refine e_imul dX10_lays_68 ?_
  refine e_int (nI (p * 6)) ((pk_mul 6 p).trans (by rw [Nat.mul_comm])) ?_
  refine e_iconst (nI 5) dX10_lays_69 (by decide) ?_
  refine e_iadd dX10_lays_70 ?_
  refine e_int (nI (p * 6 + 5)) (nI_add (p * 6) 5) ?_
  refine e_iconst (nI 1) dX10_lays_71 (by decide) ?_
  refine e_iastore (p * 6 + 5) dX10_lays_72 (Ms.s 197 rfl) (Ms.n (by decide)) rfl (by omega) (by decide) ?_
  exact e_return dX10_lays_73 rfl h
set_option maxRecDepth 20000 in
theorem l_X10_cp0 {g : fGP} {d : Nat} {Q : fRes → fAH → Prop} {D : fSD} {na : Int32} (hD : fWD D) {b : Nat} (hb : b < dT D 0) : ∀ (n i : Nat) (σ : fAH), i + n = 3 → fMs g σ → fRr σ D → (∀ j, j < i → fI σ (101 + b) j = nI (dB D b j)) → (∀ σ', fSm (fun a => a = 101 + b) σ σ' → (∀ j, j < 3 → fI σ' (101 + b) j = nI (dB D b j)) → fEv g d mX10_quarry 211 [some (.ref 89), some (.int na), some (.int (nI b)), some (.int (nI 3))] [] σ' Q) → fEv g (d) mX10_quarry 184 [some (.ref 89), some (.int na), some (.int (nI b)), some (.int (nI i))] [] σ Q := by
  intro n
  induction n with
  | zero =>
    intro i σ hin Ms Rr hf h
    obtain ⟨t0, t1, t2, t3, t4, t5, t6⟩ := id hD.1
    refine e_iload_n dX10_quarry_184 rfl rfl ?_
    refine e_iconst (nI 3) dX10_quarry_185 (by decide) ?_
    refine e_icmp_ge 211 dX10_quarry_186 (by decide) (fun cz => ?_) (fun cz => absurd ((nI_le' (by omega) (by omega)).mpr (by omega)) cz)
    rw [show i = 3 by omega]
    exact h σ fSm.rfl' (fun j hj => hf j (by omega))
  | succ n ih =>
    intro i σ hin Ms Rr hf h
    obtain ⟨t0, t1, t2, t3, t4, t5, t6⟩ := id hD.1
    have hi : i < 3 := by omega
    refine e_iload_n dX10_quarry_184 rfl rfl ?_
    refine e_iconst (nI 3) dX10_quarry_185 (by decide) ?_
    refine e_icmp_ge 211 dX10_quarry_186 (by decide) (fun cz => absurd ((nI_le' (by omega) (by omega)).mp cz) (by omega)) (fun cz => ?_)
    refine e_aload_n dX10_quarry_189 rfl rfl ?_
    refine e_getR (q := 100) dX10_quarry_190 fl_RX10_28 (Ms.s 89 rfl) (Ms.n (by decide)) rfl (Ms.r 89 12 rfl) (by unfold fscr; omega) ?_
    refine e_iload_n dX10_quarry_193 rfl rfl ?_
    refine e_aaload (q := 101 + b) b dX10_quarry_194 (Ms.s 100 rfl) (by decide) (Ms.n (by decide)) rfl (by omega) (by decide) (Ms.r 100 _ (frf_block _ (by omega))) (by unfold fscr; omega) ?_
    refine e_iload_n dX10_quarry_195 rfl rfl ?_
    refine e_aload_n dX10_quarry_196 rfl rfl ?_
    refine e_getR (q := 93) dX10_quarry_197 fl_RX10_25 (Ms.s 89 rfl) (Ms.n (by decide)) rfl (Ms.r 89 11 rfl) (by unfold fscr; omega) ?_
    refine e_iload_n dX10_quarry_200 rfl rfl ?_
    refine e_aaload (q := 94 + b) b dX10_quarry_201 (Ms.s 93 rfl) (by decide) (Ms.n (by decide)) rfl (by omega) (by decide) (Ms.r 93 _ (frf_readBlock _ (by omega))) (by unfold fscr; omega) ?_
    refine e_iload_n dX10_quarry_202 rfl rfl ?_
    refine e_iaload i dX10_quarry_203 (Ms.s _ (fsh_readBlock _ (by omega))) (Ms.n (by omega)) rfl (by omega) (by decide) ?_
    refine e_int (nI (dB D b i)) (Rr.2.1 b hb i (by omega)) ?_
    refine e_iastore i dX10_quarry_204 (Ms.s _ (fsh_block _ (by omega))) (Ms.n (by omega)) rfl (by omega) (by decide) ?_
    refine e_iinc (v := nI (i + 1)) (L1 := [some (.ref 89), some (.int na), some (.int (nI b)), some (.int (nI (i + 1)))]) dX10_quarry_205 rfl (show nI i + Int32.ofInt 1 = nI (i + 1) from nI_add i 1) (by decide) rfl ?_
    refine e_goto 184 dX10_quarry_208 (by decide) ?_
    have S9 : fSm fQA σ (fsI σ (101 + b) i (nI (dB D b i))) := fSm_I (by unfold fQA; omega)
    refine ih (i + 1) (fsI σ (101 + b) i (nI (dB D b i))) (by omega) (Ms.sm S9) (Rr.smq S9 hD) (fun j hj => ?_) (fun σ' Sm' => h σ' ((fSm_I (A := fun a => a = 101 + b) rfl).tr Sm'))
    by_cases e : j = i
    · rw [fI_I, if_pos ⟨rfl, e⟩, e]
    · rw [fI_I, if_neg (by omega)]; exact hf j (by omega)
set_option maxRecDepth 20000 in
theorem l_X10_cp1 {g : fGP} {d : Nat} {Q : fRes → fAH → Prop} {D : fSD} {na : Int32} (hD : fWD D) {b : Nat} (hb : b < dT D 1) : ∀ (n i : Nat) (σ : fAH), i + n = 5 → fMs g σ → fRr σ D → (∀ j, j < i → fI σ (121 + b) j = nI (dS D b j)) → (∀ σ', fSm (fun a => a = 121 + b) σ σ' → (∀ j, j < 5 → fI σ' (121 + b) j = nI (dS D b j)) → fEv g d mX10_quarry 295 [some (.ref 89), some (.int na), some (.int (nI b)), some (.int (nI 5))] [] σ' Q) → fEv g (d) mX10_quarry 268 [some (.ref 89), some (.int na), some (.int (nI b)), some (.int (nI i))] [] σ Q := by
  intro n
  induction n with
  | zero =>
    intro i σ hin Ms Rr hf h
    obtain ⟨t0, t1, t2, t3, t4, t5, t6⟩ := id hD.1
    refine e_iload_n dX10_quarry_268 rfl rfl ?_
    refine e_iconst (nI 5) dX10_quarry_269 (by decide) ?_
    refine e_icmp_ge 295 dX10_quarry_270 (by decide) (fun cz => ?_) (fun cz => absurd ((nI_le' (by omega) (by omega)).mpr (by omega)) cz)
    rw [show i = 5 by omega]
    exact h σ fSm.rfl' (fun j hj => hf j (by omega))
  | succ n ih =>
    intro i σ hin Ms Rr hf h
    obtain ⟨t0, t1, t2, t3, t4, t5, t6⟩ := id hD.1
    have hi : i < 5 := by omega
    refine e_iload_n dX10_quarry_268 rfl rfl ?_
    refine e_iconst (nI 5) dX10_quarry_269 (by decide) ?_
    refine e_icmp_ge 295 dX10_quarry_270 (by decide) (fun cz => absurd ((nI_le' (by omega) (by omega)).mp cz) (by omega)) (fun cz => ?_)
    refine e_aload_n dX10_quarry_273 rfl rfl ?_
    refine e_getR (q := 120) dX10_quarry_274 fl_RX10_34 (Ms.s 89 rfl) (Ms.n (by decide)) rfl (Ms.r 89 14 rfl) (by unfold fscr; omega) ?_
    refine e_iload_n dX10_quarry_277 rfl rfl ?_
    refine e_aaload (q := 121 + b) b dX10_quarry_278 (Ms.s 120 rfl) (by decide) (Ms.n (by decide)) rfl (by omega) (by decide) (Ms.r 120 _ (frf_slot _ (by omega))) (by unfold fscr; omega) ?_
    refine e_iload_n dX10_quarry_279 rfl rfl ?_
    refine e_aload_n dX10_quarry_280 rfl rfl ?_
    refine e_getR (q := 107) dX10_quarry_281 fl_RX10_31 (Ms.s 89 rfl) (Ms.n (by decide)) rfl (Ms.r 89 13 rfl) (by unfold fscr; omega) ?_
    refine e_iload_n dX10_quarry_284 rfl rfl ?_
    refine e_aaload (q := 108 + b) b dX10_quarry_285 (Ms.s 107 rfl) (by decide) (Ms.n (by decide)) rfl (by omega) (by decide) (Ms.r 107 _ (frf_readSlot _ (by omega))) (by unfold fscr; omega) ?_
    refine e_iload_n dX10_quarry_286 rfl rfl ?_
    refine e_iaload i dX10_quarry_287 (Ms.s _ (fsh_readSlot _ (by omega))) (Ms.n (by omega)) rfl (by omega) (by decide) ?_
    refine e_int (nI (dS D b i)) (Rr.2.2.1 b hb i (by omega)) ?_
    refine e_iastore i dX10_quarry_288 (Ms.s _ (fsh_slot _ (by omega))) (Ms.n (by omega)) rfl (by omega) (by decide) ?_
    refine e_iinc (v := nI (i + 1)) (L1 := [some (.ref 89), some (.int na), some (.int (nI b)), some (.int (nI (i + 1)))]) dX10_quarry_289 rfl (show nI i + Int32.ofInt 1 = nI (i + 1) from nI_add i 1) (by decide) rfl ?_
    refine e_goto 268 dX10_quarry_292 (by decide) ?_
    have S9 : fSm fQA σ (fsI σ (121 + b) i (nI (dS D b i))) := fSm_I (by unfold fQA; omega)
    refine ih (i + 1) (fsI σ (121 + b) i (nI (dS D b i))) (by omega) (Ms.sm S9) (Rr.smq S9 hD) (fun j hj => ?_) (fun σ' Sm' => h σ' ((fSm_I (A := fun a => a = 121 + b) rfl).tr Sm'))
    by_cases e : j = i
    · rw [fI_I, if_pos ⟨rfl, e⟩, e]
    · rw [fI_I, if_neg (by omega)]; exact hf j (by omega)
set_option maxRecDepth 20000 in
theorem l_X10_cp2 {g : fGP} {d : Nat} {Q : fRes → fAH → Prop} {D : fSD} {na : Int32} (hD : fWD D) {b : Nat} (hb : b < dT D 2) : ∀ (n i : Nat) (σ : fAH), i + n = 5 → fMs g σ → fRr σ D → (∀ j, j < i → fI σ (141 + b) j = nI (dO D b j)) → (∀ σ', fSm (fun a => a = 141 + b) σ σ' → (∀ j, j < 5 → fI σ' (141 + b) j = nI (dO D b j)) → fEv g d mX10_quarry 359 [some (.ref 89), some (.int na), some (.int (nI b)), some (.int (nI 5))] [] σ' Q) → fEv g (d) mX10_quarry 332 [some (.ref 89), some (.int na), some (.int (nI b)), some (.int (nI i))] [] σ Q := by
  intro n
  induction n with
  | zero =>
    intro i σ hin Ms Rr hf h
    obtain ⟨t0, t1, t2, t3, t4, t5, t6⟩ := id hD.1
    refine e_iload_n dX10_quarry_332 rfl rfl ?_
    refine e_iconst (nI 5) dX10_quarry_333 (by decide) ?_
    refine e_icmp_ge 359 dX10_quarry_334 (by decide) (fun cz => ?_) (fun cz => absurd ((nI_le' (by omega) (by omega)).mpr (by omega)) cz)
    rw [show i = 5 by omega]
    exact h σ fSm.rfl' (fun j hj => hf j (by omega))
  | succ n ih =>
    intro i σ hin Ms Rr hf h
    obtain ⟨t0, t1, t2, t3, t4, t5, t6⟩ := id hD.1
    have hi : i < 5 := by omega
    refine e_iload_n dX10_quarry_332 rfl rfl ?_
    refine e_iconst (nI 5) dX10_quarry_333 (by decide) ?_
    refine e_icmp_ge 359 dX10_quarry_334 (by decide) (fun cz => absurd ((nI_le' (by omega) (by omega)).mp cz) (by omega)) (fun cz => ?_)
    refine e_aload_n dX10_quarry_337 rfl rfl ?_
    refine e_getR (q := 140) dX10_quarry_338 fl_RX10_40 (Ms.s 89 rfl) (Ms.n (by decide)) rfl (Ms.r 89 16 rfl) (by unfold fscr; omega) ?_
    refine e_iload_n dX10_quarry_341 rfl rfl ?_
    refine e_aaload (q := 141 + b) b dX10_quarry_342 (Ms.s 140 rfl) (by decide) (Ms.n (by decide)) rfl (by omega) (by decide) (Ms.r 140 _ (frf_order _ (by omega))) (by unfold fscr; omega) ?_
    refine e_iload_n dX10_quarry_343 rfl rfl ?_
    refine e_aload_n dX10_quarry_344 rfl rfl ?_
    refine e_getR (q := 133) dX10_quarry_345 fl_RX10_37 (Ms.s 89 rfl) (Ms.n (by decide)) rfl (Ms.r 89 15 rfl) (by unfold fscr; omega) ?_
    refine e_iload_n dX10_quarry_348 rfl rfl ?_
    refine e_aaload (q := 134 + b) b dX10_quarry_349 (Ms.s 133 rfl) (by decide) (Ms.n (by decide)) rfl (by omega) (by decide) (Ms.r 133 _ (frf_readOrder _ (by omega))) (by unfold fscr; omega) ?_
    refine e_iload_n dX10_quarry_350 rfl rfl ?_
    refine e_iaload i dX10_quarry_351 (Ms.s _ (fsh_readOrder _ (by omega))) (Ms.n (by omega)) rfl (by omega) (by decide) ?_
    refine e_int (nI (dO D b i)) (Rr.2.2.2.1 b hb i (by omega)) ?_
    refine e_iastore i dX10_quarry_352 (Ms.s _ (fsh_order _ (by omega))) (Ms.n (by omega)) rfl (by omega) (by decide) ?_
    refine e_iinc (v := nI (i + 1)) (L1 := [some (.ref 89), some (.int na), some (.int (nI b)), some (.int (nI (i + 1)))]) dX10_quarry_353 rfl (show nI i + Int32.ofInt 1 = nI (i + 1) from nI_add i 1) (by decide) rfl ?_
    refine e_goto 332 dX10_quarry_356 (by decide) ?_
    have S9 : fSm fQA σ (fsI σ (141 + b) i (nI (dO D b i))) := fSm_I (by unfold fQA; omega)
    refine ih (i + 1) (fsI σ (141 + b) i (nI (dO D b i))) (by omega) (Ms.sm S9) (Rr.smq S9 hD) (fun j hj => ?_) (fun σ' Sm' => h σ' ((fSm_I (A := fun a => a = 141 + b) rfl).tr Sm'))
    by_cases e : j = i
    · rw [fI_I, if_pos ⟨rfl, e⟩, e]
    · rw [fI_I, if_neg (by omega)]; exact hf j (by omega)
set_option maxRecDepth 20000 in
theorem l_X10_cp6 {g : fGP} {d : Nat} {Q : fRes → fAH → Prop} {D : fSD} {na : Int32} (hD : fWD D) {b : Nat} (hb : b < dT D 6) : ∀ (n i : Nat) (σ : fAH), i + n = 3 → fMs g σ → fRr σ D → (∀ j, j < i → fI σ (173 + b) j = nI (dZ D b j)) → (∀ σ', fSm (fun a => a = 173 + b) σ σ' → (∀ j, j < 3 → fI σ' (173 + b) j = nI (dZ D b j)) → fEv g d mX10_quarry 407 [some (.ref 89), some (.int na), some (.int (nI b)), some (.int (nI 3))] [] σ' Q) → fEv g (d) mX10_quarry 380 [some (.ref 89), some (.int na), some (.int (nI b)), some (.int (nI i))] [] σ Q := by
  intro n
  induction n with
  | zero =>
    intro i σ hin Ms Rr hf h
    obtain ⟨t0, t1, t2, t3, t4, t5, t6⟩ := id hD.1
    refine e_iload_n dX10_quarry_380 rfl rfl ?_
    refine e_iconst (nI 3) dX10_quarry_381 (by decide) ?_
    refine e_icmp_ge 407 dX10_quarry_382 (by decide) (fun cz => ?_) (fun cz => absurd ((nI_le' (by omega) (by omega)).mpr (by omega)) cz)
    rw [show i = 3 by omega]
    exact h σ fSm.rfl' (fun j hj => hf j (by omega))
  | succ n ih =>
    intro i σ hin Ms Rr hf h
    obtain ⟨t0, t1, t2, t3, t4, t5, t6⟩ := id hD.1
    have hi : i < 3 := by omega
    refine e_iload_n dX10_quarry_380 rfl rfl ?_
    refine e_iconst (nI 3) dX10_quarry_381 (by decide) ?_
    refine e_icmp_ge 407 dX10_quarry_382 (by decide) (fun cz => absurd ((nI_le' (by omega) (by omega)).mp cz) (by omega)) (fun cz => ?_)
    refine e_aload_n dX10_quarry_385 rfl rfl ?_
    refine e_getR (q := 172) dX10_quarry_386 fl_RX10_46 (Ms.s 89 rfl) (Ms.n (by decide)) rfl (Ms.r 89 18 rfl) (by unfold fscr; omega) ?_
    refine e_iload_n dX10_quarry_389 rfl rfl ?_
    refine e_aaload (q := 173 + b) b dX10_quarry_390 (Ms.s 172 rfl) (by decide) (Ms.n (by decide)) rfl (by omega) (by decide) (Ms.r 172 _ (frf_odds _ (by omega))) (by unfold fscr; omega) ?_
    refine e_iload_n dX10_quarry_391 rfl rfl ?_
    refine e_aload_n dX10_quarry_392 rfl rfl ?_
    refine e_getR (q := 147) dX10_quarry_393 fl_RX10_43 (Ms.s 89 rfl) (Ms.n (by decide)) rfl (Ms.r 89 17 rfl) (by unfold fscr; omega) ?_
    refine e_iload_n dX10_quarry_396 rfl rfl ?_
    refine e_aaload (q := 148 + b) b dX10_quarry_397 (Ms.s 147 rfl) (by decide) (Ms.n (by decide)) rfl (by omega) (by decide) (Ms.r 147 _ (frf_readOdds _ (by omega))) (by unfold fscr; omega) ?_
    refine e_iload_n dX10_quarry_398 rfl rfl ?_
    refine e_iaload i dX10_quarry_399 (Ms.s _ (fsh_readOdds _ (by omega))) (Ms.n (by omega)) rfl (by omega) (by decide) ?_
    refine e_int (nI (dZ D b i)) (Rr.2.2.2.2 b hb i (by omega)) ?_
    refine e_iastore i dX10_quarry_400 (Ms.s _ (fsh_odds _ (by omega))) (Ms.n (by omega)) rfl (by omega) (by decide) ?_
    refine e_iinc (v := nI (i + 1)) (L1 := [some (.ref 89), some (.int na), some (.int (nI b)), some (.int (nI (i + 1)))]) dX10_quarry_401 rfl (show nI i + Int32.ofInt 1 = nI (i + 1) from nI_add i 1) (by decide) rfl ?_
    refine e_goto 380 dX10_quarry_404 (by decide) ?_
    have S9 : fSm fQA σ (fsI σ (173 + b) i (nI (dZ D b i))) := fSm_I (by unfold fQA; omega)
    refine ih (i + 1) (fsI σ (173 + b) i (nI (dZ D b i))) (by omega) (Ms.sm S9) (Rr.smq S9 hD) (fun j hj => ?_) (fun σ' Sm' => h σ' ((fSm_I (A := fun a => a = 173 + b) rfl).tr Sm'))
    by_cases e : j = i
    · rw [fI_I, if_pos ⟨rfl, e⟩, e]
    · rw [fI_I, if_neg (by omega)]; exact hf j (by omega)
