/-- a number put on the tape at tp -/
def mput (B : Nat → Nat) (tp : Nat) (v : Int32) (i : Nat) : Nat := if tp ≤ i ∧ i < tp + 4 then mbyt v (i - tp) else B i
def mpk (a b c d e : Int32) (k : Nat) : Int32 := if k = 0 then a else if k = 1 then b else if k = 2 then c else if k = 3 then d else e
/-- n bytes of five numbers put on the tape at tp -/
def mfdd (B : Nat → Nat) (tp : Nat) (a b c d e : Int32) (n i : Nat) : Nat := if tp ≤ i ∧ i < tp + n then mbyt (mpk a b c d e ((i - tp) / 4)) ((i - tp) % 4) else B i
theorem mfdd_20 (B : Nat → Nat) (tp : Nat) (a b c d e : Int32) (i : Nat) : mput (mput (mput (mput (mput B tp a) (tp + 4) b) (tp + 8) c) (tp + 12) d) (tp + 16) e i = mfdd B tp a b c d e 20 i := by
  unfold mput mfdd
  by_cases h0 : tp ≤ i ∧ i < tp + 20
  · rw [if_pos h0]
    rcases (show (i - tp) / 4 = 0 ∨ (i - tp) / 4 = 1 ∨ (i - tp) / 4 = 2 ∨ (i - tp) / 4 = 3 ∨ (i - tp) / 4 = 4 by omega) with q | q | q | q | q
    · rw [if_neg (by omega), if_neg (by omega), if_neg (by omega), if_neg (by omega), if_pos (by omega), q, show i - tp = (i - tp) % 4 by omega, Nat.mod_mod]; rfl
    · rw [if_neg (by omega), if_neg (by omega), if_neg (by omega), if_pos (by omega), q, show i - (tp + 4) = (i - tp) % 4 by omega]; rfl
    · rw [if_neg (by omega), if_neg (by omega), if_pos (by omega), q, show i - (tp + 8) = (i - tp) % 4 by omega]; rfl
    · rw [if_neg (by omega), if_pos (by omega), q, show i - (tp + 12) = (i - tp) % 4 by omega]; rfl
    · rw [if_pos (by omega), q, show i - (tp + 16) = (i - tp) % 4 by omega]; rfl
  · rw [if_neg h0, if_neg (by omega), if_neg (by omega), if_neg (by omega), if_neg (by omega), if_neg (by omega)]
def xFed (x : fXS) (a b c d e : Int32) : fXS := (xD x, xI x, mfdd (xB x) (xt x) a b c d e 20, xt x + 20, xp x, xm x, xM x)
theorem fOK.fed {x : fXS} {a b c d e : Int32} (ok : fOK x) (h : xt x + 20 ≤ 600) : fOK (xFed x a b c d e) := by
  refine ⟨ok.1, ok.2.1, fun i => ?_, h, ok.2.2.2.2⟩
  show mfdd (xB x) (xt x) a b c d e 20 i < 256
  unfold mfdd
  split
  · exact mbyt_l _ _
  · exact ok.2.2.1 i
theorem fIc.tape {A : Nat → Prop} {σ σ1 : fAH} {x : fXS} {B : Nat → Nat} {tp : Nat} (h : fIc σ x) (ok : fOK x) (s : fSm A σ σ1) (na : ∀ a, A a → a = 0 ∨ a = 1) (hB : ∀ i, i < 600 → fI σ1 1 i = sb (B i)) (h1 : fI σ1 0 1 = nI tp) (hf : ∀ j, j ≠ 1 → fI σ1 0 j = fI σ 0 j) (hJ : fJ σ1 0 16 = fJ σ 0 16) : fIc σ1 (xD x, xI x, B, tp, xp x, xm x, xM x) := by
  obtain ⟨a1, a2, a3, ⟨b1, b2, b3, b4⟩, a5, a6, a7⟩ := h
  have k : ∀ a, 2 ≤ a → ∀ j, fI σ1 a j = fI σ a j := fun a ha j => s.i (fun q => by have := na _ q; omega) j
  refine ⟨a1.sm s (fun i hi q => by have := na _ q; omega), ⟨?_, a2.2.sm s (fun i hi q => by have := na _ q; omega)⟩, a3.cg (k _ (by omega)) (k _ (by omega)) (k _ (by omega)), ⟨h1, hB, (hf 2 (by decide)).trans b3, (hf 10 (by decide)).trans b4⟩, fun j hj => ?_, a6.cg (hf 14 (by decide)) (hf 15 (by decide)) hJ, a7.sm s (fun a q => by have := na _ q; omega)⟩
  · obtain ⟨m, hm⟩ := a2.1
    exact ⟨m, hm.sm s (fun i hi q => by have := na _ q; omega)⟩
  · have hj : j < xm x := hj
    obtain ⟨⟨⟨m, hm⟩, ht⟩, hd⟩ := a5 j hj
    exact ⟨⟨⟨m, hm.sm s (fun i hi q => by have := na _ q; omega)⟩, ht.sm s (fun i hi q => by have := na _ q; omega)⟩, hd.cg (k _ (by omega)) (k _ (by omega)) (k _ (by omega))⟩
theorem fIr.tape {A : Nat → Prop} {σ σ1 : fAH} {x : fXS} {B : Nat → Nat} {tp : Nat} (h : fIr σ x) (ok : fOK x) (s : fSm A σ σ1) (na : ∀ a, A a → a = 89 ∨ a = 90) (hB : ∀ i, i < 600 → fI σ1 90 i = nI (B i)) (h1 : fI σ1 89 1 = nI tp) (hf : ∀ j, j ∈ [3, 21, 22, 23, 24, 31, 33] → fI σ1 89 j = fI σ 89 j) : fIr σ1 (xD x, xI x, B, tp, xp x, xm x, xM x) := by
  obtain ⟨a1, a2, ⟨b1, b2, b3, b4, b5, b6⟩, a4, a5, a6⟩ := h
  have k : ∀ a, ¬ (a = 89 ∨ a = 90) → ∀ j, fI σ1 a j = fI σ a j := fun a ha j => s.i (fun q => ha (na _ q)) j
  refine ⟨?_, a2.cg ok.1 ok.2.1.1 (k _ (by omega)) (fun r hr => k _ (by omega)), ⟨(hf 21 (by decide)).trans b1, (hf 31 (by decide)).trans b2, (hf 33 (by decide)).trans b3, h1, (hf 3 (by decide)).trans b5, (hf 24 (by decide)).trans b6⟩, hB, a5.cg ok.2.1.2.2.2.2.2.1 (hf 22 (by decide)) (hf 23 (by decide)) (k _ (by omega)) (fun r hr => k _ (by omega)), fun j hj => (a6 j hj).cg (k _ ?_)⟩
  · exact a1.smm s ok.1 (fun i h1 h2 q => by have := na _ q; omega)
  · have := ok.2.2.2.2.1
    have hj : j < xm x := hj
    omega
set_option maxRecDepth 20000 in
theorem t_X9_putOnTape {g : fGP} {d : Nat} {σ : fAH} {Q : fRes → fAH → Prop} {B : Nat → Nat} {tp : Nat} {v : Int32} (Ms : fMs g σ) (hp : fI σ 0 1 = nI tp) (ht : tp + 4 ≤ 600) (hB : ∀ i, i < 600 → fI σ 1 i = sb (B i)) (h : ∀ σ', fSm (fun a => a = 0 ∨ a = 1) σ σ' → (∀ i, i < 600 → fI σ' 1 i = sb (mput B tp v i)) → fI σ' 0 1 = nI (tp + 4) → (∀ j, j ≠ 1 → fI σ' 0 j = fI σ 0 j) → fJ σ' 0 16 = fJ σ 0 16 → Q (.inl none) σ') : fEv g d mX9_putOnTape 0 (fent [.ref 0, .int v] 3) [] σ Q := by
  show fEv g d mX9_putOnTape 0 [some (.ref 0), some (.int v), none] [] σ Q
  refine e_bipush (nI 24) dX9_putOnTape_0 (by decide) ?_
  refine e_istore_n (L1 := [some (.ref 0), some (.int v), some (.int (nI 24))]) dX9_putOnTape_2 rfl (by decide) rfl ?_
  refine e_iload_n dX9_putOnTape_3 rfl rfl ?_
  refine e_if_lt 46 dX9_putOnTape_4 (by decide) (fun c => absurd c (by decide)) (fun _ => ?_)
  refine e_aload_n dX9_putOnTape_7 rfl rfl ?_
  refine e_getI dX9_putOnTape_8 fl_RX9_13 (Ms.s 0 rfl) (Ms.n (by decide)) rfl ?_
  refine e_int (nI tp) hp ?_
  refine e_sipush (nI 600) dX9_putOnTape_11 (by decide) ?_
  refine e_icmp_ge 46 dX9_putOnTape_14 (by decide) (fun c => absurd c (fun q => absurd ((nI_le' (by omega) (by omega)).mp q) (by omega))) (fun _ => ?_)
  refine e_aload_n dX9_putOnTape_17 rfl rfl ?_
  refine e_getR (q := 1) dX9_putOnTape_18 fl_RX9_9 (Ms.s 0 rfl) (Ms.n (by decide)) rfl (Ms.r 0 0 rfl) (by unfold fscr; omega) ?_
  refine e_aload_n dX9_putOnTape_21 rfl rfl ?_
  refine e_getI dX9_putOnTape_22 fl_RX9_13 (Ms.s 0 rfl) (Ms.n (by decide)) rfl ?_
  refine e_int (nI tp) hp ?_
  refine e_iload_n dX9_putOnTape_25 rfl rfl ?_
  refine e_iload_n dX9_putOnTape_26 rfl rfl ?_
  refine e_iushr dX9_putOnTape_27 ?_
  refine e_i2b dX9_putOnTape_28 ?_
  refine e_int (sb (mbyt v 0)) (sbu (by decide) 24 (by decide)) ?_
  refine e_bastore tp dX9_putOnTape_29 (Ms.s 1 rfl) (Ms.n (by decide)) rfl (by omega) (by decide) (nar_sb _) ?_
  refine e_aload_n dX9_putOnTape_30 rfl rfl ?_
  refine e_dup dX9_putOnTape_31 rfl ?_
  refine e_getI dX9_putOnTape_32 fl_RX9_13 (Ms.s 0 rfl) (Ms.n (by decide)) rfl ?_
  refine e_int (nI tp) (by rw [fI_I, if_neg (by omega)]; exact hp) ?_
  refine e_iconst (nI 1) dX9_putOnTape_35 (by decide) ?_
  refine e_iadd dX9_putOnTape_36 ?_
  refine e_int (nI (tp + 1)) (nI_add tp 1) ?_
  refine e_putI dX9_putOnTape_37 fl_RX9_13 (Ms.s 0 rfl) (Ms.n (by decide)) rfl rfl ?_
  refine e_iinc (v := nI 16) (L1 := [some (.ref 0), some (.int v), some (.int (nI 16))]) dX9_putOnTape_40 rfl (by decide) (by decide) rfl ?_
  refine e_goto 3 dX9_putOnTape_43 (by decide) ?_
  refine e_iload_n dX9_putOnTape_3 rfl rfl ?_
  refine e_if_lt 46 dX9_putOnTape_4 (by decide) (fun c => absurd c (by decide)) (fun _ => ?_)
  refine e_aload_n dX9_putOnTape_7 rfl rfl ?_
  refine e_getI dX9_putOnTape_8 fl_RX9_13 (Ms.s 0 rfl) (Ms.n (by decide)) rfl ?_
  refine e_int (nI (tp + 1)) (by rw [fI_I, if_pos ⟨rfl, rfl⟩]) ?_
  refine e_sipush (nI 600) dX9_putOnTape_11 (by decide) ?_
  refine e_icmp_ge 46 dX9_putOnTape_14 (by decide) (fun c => absurd c (fun q => absurd ((nI_le' (by omega) (by omega)).mp q) (by omega))) (fun _ => ?_)
  refine e_aload_n dX9_putOnTape_17 rfl rfl ?_
  refine e_getR (q := 1) dX9_putOnTape_18 fl_RX9_9 (Ms.s 0 rfl) (Ms.n (by decide)) rfl (Ms.r 0 0 rfl) (by unfold fscr; omega) ?_
  refine e_aload_n dX9_putOnTape_21 rfl rfl ?_
  refine e_getI dX9_putOnTape_22 fl_RX9_13 (Ms.s 0 rfl) (Ms.n (by decide)) rfl ?_
  refine e_int (nI (tp + 1)) (by rw [fI_I, if_pos ⟨rfl, rfl⟩]) ?_
  refine e_iload_n dX9_putOnTape_25 rfl rfl ?_
  refine e_iload_n dX9_putOnTape_26 rfl rfl ?_
  refine e_iushr dX9_putOnTape_27 ?_
  refine e_i2b dX9_putOnTape_28 ?_
  refine e_int (sb (mbyt v 1)) (sbu (by decide) 16 (by decide)) ?_
  refine e_bastore (tp + 1) dX9_putOnTape_29 (Ms.s 1 rfl) (Ms.n (by decide)) rfl (by omega) (by decide) (nar_sb _) ?_
  refine e_aload_n dX9_putOnTape_30 rfl rfl ?_
  refine e_dup dX9_putOnTape_31 rfl ?_
  refine e_getI dX9_putOnTape_32 fl_RX9_13 (Ms.s 0 rfl) (Ms.n (by decide)) rfl ?_
  refine e_int (nI (tp + 1)) (by rw [fI_I, if_neg (by omega), fI_I, if_pos ⟨rfl, rfl⟩]) ?_
  refine e_iconst (nI 1) dX9_putOnTape_35 (by decide) ?_
  refine e_iadd dX9_putOnTape_36 ?_
  refine e_int (nI (tp + 2)) (nI_add (tp + 1) 1) ?_
  refine e_putI dX9_putOnTape_37 fl_RX9_13 (Ms.s 0 rfl) (Ms.n (by decide)) rfl rfl ?_
  refine e_iinc (v := nI 8) (L1 := [some (.ref 0), some (.int v), some (.int (nI 8))]) dX9_putOnTape_40 rfl (by decide) (by decide) rfl ?_
  refine e_goto 3 dX9_putOnTape_43 (by decide) ?_
  refine e_iload_n dX9_putOnTape_3 rfl rfl ?_
  refine e_if_lt 46 dX9_putOnTape_4 (by decide) (fun c => absurd c (by decide)) (fun _ => ?_)
  refine e_aload_n dX9_putOnTape_7 rfl rfl ?_
  refine e_getI dX9_putOnTape_8 fl_RX9_13 (Ms.s 0 rfl) (Ms.n (by decide)) rfl ?_
  refine e_int (nI (tp + 2)) (by rw [fI_I, if_pos ⟨rfl, rfl⟩]) ?_
  refine e_sipush (nI 600) dX9_putOnTape_11 (by decide) ?_
  refine e_icmp_ge 46 dX9_putOnTape_14 (by decide) (fun c => absurd c (fun q => absurd ((nI_le' (by omega) (by omega)).mp q) (by omega))) (fun _ => ?_)
  refine e_aload_n dX9_putOnTape_17 rfl rfl ?_
  refine e_getR (q := 1) dX9_putOnTape_18 fl_RX9_9 (Ms.s 0 rfl) (Ms.n (by decide)) rfl (Ms.r 0 0 rfl) (by unfold fscr; omega) ?_
  refine e_aload_n dX9_putOnTape_21 rfl rfl ?_
  refine e_getI dX9_putOnTape_22 fl_RX9_13 (Ms.s 0 rfl) (Ms.n (by decide)) rfl ?_
  refine e_int (nI (tp + 2)) (by rw [fI_I, if_pos ⟨rfl, rfl⟩]) ?_
  refine e_iload_n dX9_putOnTape_25 rfl rfl ?_
  refine e_iload_n dX9_putOnTape_26 rfl rfl ?_
  refine e_iushr dX9_putOnTape_27 ?_
  refine e_i2b dX9_putOnTape_28 ?_
  refine e_int (sb (mbyt v 2)) (sbu (by decide) 8 (by decide)) ?_
  refine e_bastore (tp + 2) dX9_putOnTape_29 (Ms.s 1 rfl) (Ms.n (by decide)) rfl (by omega) (by decide) (nar_sb _) ?_
  refine e_aload_n dX9_putOnTape_30 rfl rfl ?_
  refine e_dup dX9_putOnTape_31 rfl ?_
  refine e_getI dX9_putOnTape_32 fl_RX9_13 (Ms.s 0 rfl) (Ms.n (by decide)) rfl ?_
  refine e_int (nI (tp + 2)) (by rw [fI_I, if_neg (by omega), fI_I, if_pos ⟨rfl, rfl⟩]) ?_
  refine e_iconst (nI 1) dX9_putOnTape_35 (by decide) ?_
  refine e_iadd dX9_putOnTape_36 ?_
  refine e_int (nI (tp + 3)) (nI_add (tp + 2) 1) ?_
  refine e_putI dX9_putOnTape_37 fl_RX9_13 (Ms.s 0 rfl) (Ms.n (by decide)) rfl rfl ?_
  refine e_iinc (v := nI 0) (L1 := [some (.ref 0), some (.int v), some (.int (nI 0))]) dX9_putOnTape_40 rfl (by decide) (by decide) rfl ?_
  refine e_goto 3 dX9_putOnTape_43 (by decide) ?_
  refine e_iload_n dX9_putOnTape_3 rfl rfl ?_
  refine e_if_lt 46 dX9_putOnTape_4 (by decide) (fun c => absurd c (by decide)) (fun _ => ?_)
  refine e_aload_n dX9_putOnTape_7 rfl rfl ?_
  refine e_getI dX9_putOnTape_8 fl_RX9_13 (Ms.s 0 rfl) (Ms.n (by decide)) rfl ?_
  refine e_int (nI (tp + 3)) (by rw [fI_I, if_pos ⟨rfl, rfl⟩]) ?_
  refine e_sipush (nI 600) dX9_putOnTape_11 (by decide) ?_
  refine e_icmp_ge 46 dX9_putOnTape_14 (by decide) (fun c => absurd c (fun q => absurd ((nI_le' (by omega) (by omega)).mp q) (by omega))) (fun _ => ?_)
  refine e_aload_n dX9_putOnTape_17 rfl rfl ?_
  refine e_getR (q := 1) dX9_putOnTape_18 fl_RX9_9 (Ms.s 0 rfl) (Ms.n (by decide)) rfl (Ms.r 0 0 rfl) (by unfold fscr; omega) ?_
  refine e_aload_n dX9_putOnTape_21 rfl rfl ?_
  refine e_getI dX9_putOnTape_22 fl_RX9_13 (Ms.s 0 rfl) (Ms.n (by decide)) rfl ?_
  refine e_int (nI (tp + 3)) (by rw [fI_I, if_pos ⟨rfl, rfl⟩]) ?_
  refine e_iload_n dX9_putOnTape_25 rfl rfl ?_
  refine e_iload_n dX9_putOnTape_26 rfl rfl ?_
  refine e_iushr dX9_putOnTape_27 ?_
  refine e_i2b dX9_putOnTape_28 ?_
  refine e_int (sb (mbyt v 3)) (sbu (by decide) 0 (by decide)) ?_
  refine e_bastore (tp + 3) dX9_putOnTape_29 (Ms.s 1 rfl) (Ms.n (by decide)) rfl (by omega) (by decide) (nar_sb _) ?_
  refine e_aload_n dX9_putOnTape_30 rfl rfl ?_
  refine e_dup dX9_putOnTape_31 rfl ?_
  refine e_getI dX9_putOnTape_32 fl_RX9_13 (Ms.s 0 rfl) (Ms.n (by decide)) rfl ?_
  refine e_int (nI (tp + 3)) (by rw [fI_I, if_neg (by omega), fI_I, if_pos ⟨rfl, rfl⟩]) ?_
  refine e_iconst (nI 1) dX9_putOnTape_35 (by decide) ?_
  refine e_iadd dX9_putOnTape_36 ?_
  refine e_int (nI (tp + 4)) (nI_add (tp + 3) 1) ?_
  refine e_putI dX9_putOnTape_37 fl_RX9_13 (Ms.s 0 rfl) (Ms.n (by decide)) rfl rfl ?_
  refine e_iinc (v := (-8)) (L1 := [some (.ref 0), some (.int v), some (.int ((-8)))]) dX9_putOnTape_40 rfl (by decide) (by decide) rfl ?_
  refine e_goto 3 dX9_putOnTape_43 (by decide) ?_
  refine e_iload_n dX9_putOnTape_3 rfl rfl ?_
  refine e_if_lt 46 dX9_putOnTape_4 (by decide) (fun _ => ?_) (fun c => absurd c (by decide))
  refine e_return dX9_putOnTape_46 rfl (h _ ((((((((fSm_I (A := (fun a => a = 0 ∨ a = 1)) (by omega)).tr (fSm_I (A := (fun a => a = 0 ∨ a = 1)) (by omega))).tr (fSm_I (A := (fun a => a = 0 ∨ a = 1)) (by omega))).tr (fSm_I (A := (fun a => a = 0 ∨ a = 1)) (by omega))).tr (fSm_I (A := (fun a => a = 0 ∨ a = 1)) (by omega))).tr (fSm_I (A := (fun a => a = 0 ∨ a = 1)) (by omega))).tr (fSm_I (A := (fun a => a = 0 ∨ a = 1)) (by omega))).tr (fSm_I (A := (fun a => a = 0 ∨ a = 1)) (by omega))) (fun i hi => ?_) (by rw [fI_I, if_pos ⟨rfl, rfl⟩]) (fun j hj => by rw [fI_I, if_neg (by omega), fI_I, if_neg (by omega), fI_I, if_neg (by omega), fI_I, if_neg (by omega), fI_I, if_neg (by omega), fI_I, if_neg (by omega), fI_I, if_neg (by omega), fI_I, if_neg (by omega)]) rfl)
  unfold mput
  by_cases e3 : i = tp + 3
  · rw [fI_I, if_neg (by omega), fI_I, if_pos ⟨rfl, e3⟩, if_pos (by omega), show i - tp = 3 by omega]
  by_cases e2 : i = tp + 2
  · rw [fI_I, if_neg (by omega), fI_I, if_neg (by omega), fI_I, if_neg (by omega), fI_I, if_pos ⟨rfl, e2⟩, if_pos (by omega), show i - tp = 2 by omega]
  by_cases e1 : i = tp + 1
  · rw [fI_I, if_neg (by omega), fI_I, if_neg (by omega), fI_I, if_neg (by omega), fI_I, if_neg (by omega), fI_I, if_neg (by omega), fI_I, if_pos ⟨rfl, e1⟩, if_pos (by omega), show i - tp = 1 by omega]
  by_cases e0 : i = tp + 0
  · rw [fI_I, if_neg (by omega), fI_I, if_neg (by omega), fI_I, if_neg (by omega), fI_I, if_neg (by omega), fI_I, if_neg (by omega), fI_I, if_neg (by omega), fI_I, if_neg (by omega), fI_I, if_pos ⟨rfl, e0⟩, if_pos (by omega), show i - tp = 0 by omega]
  rw [fI_I, if_neg (by omega), fI_I, if_neg (by omega), fI_I, if_neg (by omega), fI_I, if_neg (by omega), fI_I, if_neg (by omega), fI_I, if_neg (by omega), fI_I, if_neg (by omega), fI_I, if_neg (by omega), if_neg (by omega)]; exact hB i hi
set_option maxRecDepth 20000 in
theorem t_X9_feedN {g : fGP} {d : Nat} {σ : fAH} {Q : fRes → fAH → Prop} {x : fXS} {a b c e4 e5 : Int32}  (Ms : fMs g σ) (ok : fOK x) (Ic : fIc σ x) (ht : ¬ xt x + 20 ≤ 600) (h : Q (.inl (some (.int (-1)))) σ) : fEv g (d + 1) mX9_feed 0 (fent [.ref 0, .int a, .int b, .int c, .int e4, .int e5] 6) [] σ Q := by
  obtain ⟨D, ⟨S, T, sd, pn, P, rn, R⟩, B, tp, pl, im, Im⟩ := x
  have hD : fWD D := ok.1
  have hW : fWS D S := ok.2.1.1
  have hC : fWC D S := ok.2.1.2.1
  have hN : fWN S 0 0 := ok.2.1.2.2.1
  have Gr : fGr σ 2 D := Ic.1
  obtain ⟨⟨m, Yr⟩, Yt⟩ : fYf σ 15 D S T sd := Ic.2.1
  have Gs := Ms.ground (k := 2) (by decide)
  have Ys := Ms.yard (k := 15) (by decide)
  obtain ⟨⟨g0, g1, g2, g3, g4, g5⟩, ⟨gn, gK⟩, ⟨gr0, gr1, gr2, gr3, gr4⟩⟩ := id Gs
  obtain ⟨⟨y0, y1, y2, y3, y4, y5, y6⟩, ⟨yn, yK⟩, ⟨yr0, yr1, yr2, yr3, yr4, yr5, yr6⟩⟩ := id Ys
  obtain ⟨t0, t1, t2, t3, t4, t5, t6⟩ := id hD.1
  have np := hW.n hD
  have n5 := hW.2.2.2.2
  have tp6 : tp ≤ 600 := ok.2.2.2.1
  have im3 : im ≤ 3 := ok.2.2.2.2.1
  have pn3 : pn ≤ 30 := ok.2.1.2.2.2.1
  have rn6 : rn ≤ 60 := ok.2.1.2.2.2.2.2.1
  have Dc : fDc σ 29 (S, T, sd, pn, P, rn, R) := Ic.2.2.1
  have w52 := hW.1
  have ht : ¬ tp + 20 ≤ 600 := ht
  show fEv g (d + 1) mX9_feed 0 [some (.ref 0), some (.int a), some (.int b), some (.int c), some (.int e4), some (.int e5)] [] σ Q
  refine e_aload_n dX9_feed_0 rfl rfl ?_
  refine e_getI dX9_feed_1 fl_RX9_13 (Ms.s 0 rfl) (Ms.n (by decide)) rfl ?_
  refine e_int (nI tp) Ic.2.2.2.1.1 ?_
  refine e_bipush (nI 20) dX9_feed_4 (by decide) ?_
  refine e_iadd dX9_feed_6 ?_
  refine e_int (nI (tp + 20)) (nI_add tp 20) ?_
  refine e_sipush (nI 600) dX9_feed_7 (by decide) ?_
  refine e_icmp_le 15 dX9_feed_10 (by decide) (fun c => absurd c (fun q => absurd ((nI_le' (by omega) (by omega)).mp q) (by omega))) (fun _ => ?_)
  refine e_iconst (-1) dX9_feed_13 (by decide) ?_
  exact e_ireturn .int dX9_feed_14 rfl rfl h
set_option maxRecDepth 20000 in
theorem t_X9_feed {g : fGP} {d : Nat} {σ : fAH} {Q : fRes → fAH → Prop} {x : fXS} {a b c e4 e5 : Int32}  (Ms : fMs g σ) (ok : fOK x) (Ic : fIc σ x) (ht : xt x + 20 ≤ 600) (h : ∀ σ', fSm fClA σ σ' → fIc σ' (xFed x a b c e4 e5) → Q (.inl (some (.int (nI (xt x + 20))))) σ') : fEv g (d + 1) mX9_feed 0 (fent [.ref 0, .int a, .int b, .int c, .int e4, .int e5] 6) [] σ Q := by
  obtain ⟨D, ⟨S, T, sd, pn, P, rn, R⟩, B, tp, pl, im, Im⟩ := x
  have hD : fWD D := ok.1
  have hW : fWS D S := ok.2.1.1
  have hC : fWC D S := ok.2.1.2.1
  have hN : fWN S 0 0 := ok.2.1.2.2.1
  have Gr : fGr σ 2 D := Ic.1
  obtain ⟨⟨m, Yr⟩, Yt⟩ : fYf σ 15 D S T sd := Ic.2.1
  have Gs := Ms.ground (k := 2) (by decide)
  have Ys := Ms.yard (k := 15) (by decide)
  obtain ⟨⟨g0, g1, g2, g3, g4, g5⟩, ⟨gn, gK⟩, ⟨gr0, gr1, gr2, gr3, gr4⟩⟩ := id Gs
  obtain ⟨⟨y0, y1, y2, y3, y4, y5, y6⟩, ⟨yn, yK⟩, ⟨yr0, yr1, yr2, yr3, yr4, yr5, yr6⟩⟩ := id Ys
  obtain ⟨t0, t1, t2, t3, t4, t5, t6⟩ := id hD.1
  have np := hW.n hD
  have n5 := hW.2.2.2.2
  have tp6 : tp ≤ 600 := ok.2.2.2.1
  have im3 : im ≤ 3 := ok.2.2.2.2.1
  have pn3 : pn ≤ 30 := ok.2.1.2.2.2.1
  have rn6 : rn ≤ 60 := ok.2.1.2.2.2.2.2.1
  have Dc : fDc σ 29 (S, T, sd, pn, P, rn, R) := Ic.2.2.1
  have w52 := hW.1
  have ht : tp + 20 ≤ 600 := ht
  show fEv g (d + 1) mX9_feed 0 [some (.ref 0), some (.int a), some (.int b), some (.int c), some (.int e4), some (.int e5)] [] σ Q
  refine e_aload_n dX9_feed_0 rfl rfl ?_
  refine e_getI dX9_feed_1 fl_RX9_13 (Ms.s 0 rfl) (Ms.n (by decide)) rfl ?_
  refine e_int (nI tp) Ic.2.2.2.1.1 ?_
  refine e_bipush (nI 20) dX9_feed_4 (by decide) ?_
  refine e_iadd dX9_feed_6 ?_
  refine e_int (nI (tp + 20)) (nI_add tp 20) ?_
  refine e_sipush (nI 600) dX9_feed_7 (by decide) ?_
  refine e_icmp_le 15 dX9_feed_10 (by decide) (fun _ => ?_) (fun c => absurd ((nI_le' (by omega) (by omega)).mpr (by omega)) c)
  refine e_aload_n dX9_feed_15 rfl rfl ?_
  refine e_iload_n dX9_feed_16 rfl rfl ?_
  refine e_callV (k := 0) [.int a] dX9_feed_17 cc_X9_putOnTape lk_RX9_94 im_X9_putOnTape se_X9_putOnTape (by decide) (Ms.s 0 rfl) (Ms.n (by decide)) rfl (Nat.le_of_ble_eq_true rfl) (Nat.le_of_ble_eq_true rfl) ?_
  refine t_X9_putOnTape (tp := tp + 0) Ms Ic.2.2.2.1.1 (by omega) Ic.2.2.2.1.2.1 (fun σ1 Sm1 hB1 hp1 hf1 hJ1 => fK_v ?_)
  show fEv g _ mX9_feed 20 [some (.ref 0), some (.int a), some (.int b), some (.int c), some (.int e4), some (.int e5)] [] σ1 Q
  have Ms1 := Ms.sm Sm1
  have hp1 : fI σ1 0 1 = nI (tp + 4) := hp1
  refine e_aload_n dX9_feed_20 rfl rfl ?_
  refine e_iload_n dX9_feed_21 rfl rfl ?_
  refine e_callV (k := 0) [.int b] dX9_feed_22 cc_X9_putOnTape lk_RX9_94 im_X9_putOnTape se_X9_putOnTape (by decide) (Ms1.s 0 rfl) (Ms1.n (by decide)) rfl (Nat.le_of_ble_eq_true rfl) (Nat.le_of_ble_eq_true rfl) ?_
  refine t_X9_putOnTape (tp := tp + 4) Ms1 hp1 (by omega) hB1 (fun σ2 Sm2 hB2 hp2 hf2 hJ2 => fK_v ?_)
  show fEv g _ mX9_feed 25 [some (.ref 0), some (.int a), some (.int b), some (.int c), some (.int e4), some (.int e5)] [] σ2 Q
  have Ms2 := Ms1.sm Sm2
  have hp2 : fI σ2 0 1 = nI (tp + 8) := hp2
  refine e_aload_n dX9_feed_25 rfl rfl ?_
  refine e_iload_n dX9_feed_26 rfl rfl ?_
  refine e_callV (k := 0) [.int c] dX9_feed_27 cc_X9_putOnTape lk_RX9_94 im_X9_putOnTape se_X9_putOnTape (by decide) (Ms2.s 0 rfl) (Ms2.n (by decide)) rfl (Nat.le_of_ble_eq_true rfl) (Nat.le_of_ble_eq_true rfl) ?_
  refine t_X9_putOnTape (tp := tp + 8) Ms2 hp2 (by omega) hB2 (fun σ3 Sm3 hB3 hp3 hf3 hJ3 => fK_v ?_)
  show fEv g _ mX9_feed 30 [some (.ref 0), some (.int a), some (.int b), some (.int c), some (.int e4), some (.int e5)] [] σ3 Q
  have Ms3 := Ms2.sm Sm3
  have hp3 : fI σ3 0 1 = nI (tp + 12) := hp3
  refine e_aload_n dX9_feed_30 rfl rfl ?_
  refine e_iload dX9_feed_31 rfl ?_
  refine e_callV (k := 0) [.int e4] dX9_feed_33 cc_X9_putOnTape lk_RX9_94 im_X9_putOnTape se_X9_putOnTape (by decide) (Ms3.s 0 rfl) (Ms3.n (by decide)) rfl (Nat.le_of_ble_eq_true rfl) (Nat.le_of_ble_eq_true rfl) ?_
  refine t_X9_putOnTape (tp := tp + 12) Ms3 hp3 (by omega) hB3 (fun σ4 Sm4 hB4 hp4 hf4 hJ4 => fK_v ?_)
  show fEv g _ mX9_feed 36 [some (.ref 0), some (.int a), some (.int b), some (.int c), some (.int e4), some (.int e5)] [] σ4 Q
  have Ms4 := Ms3.sm Sm4
  have hp4 : fI σ4 0 1 = nI (tp + 16) := hp4
  refine e_aload_n dX9_feed_36 rfl rfl ?_
  refine e_iload dX9_feed_37 rfl ?_
  refine e_callV (k := 0) [.int e5] dX9_feed_39 cc_X9_putOnTape lk_RX9_94 im_X9_putOnTape se_X9_putOnTape (by decide) (Ms4.s 0 rfl) (Ms4.n (by decide)) rfl (Nat.le_of_ble_eq_true rfl) (Nat.le_of_ble_eq_true rfl) ?_
  refine t_X9_putOnTape (tp := tp + 16) Ms4 hp4 (by omega) hB4 (fun σ5 Sm5 hB5 hp5 hf5 hJ5 => fK_v ?_)
  show fEv g _ mX9_feed 42 [some (.ref 0), some (.int a), some (.int b), some (.int c), some (.int e4), some (.int e5)] [] σ5 Q
  have Ms5 := Ms4.sm Sm5
  have hp5 : fI σ5 0 1 = nI (tp + 20) := hp5
  refine e_aload_n dX9_feed_42 rfl rfl ?_
  refine e_getI dX9_feed_43 fl_RX9_13 (Ms5.s 0 rfl) (Ms5.n (by decide)) rfl ?_
  refine e_int (nI (tp + 20)) hp5 ?_
  have A9 : fSm (fun a => a = 0 ∨ a = 1) σ σ5 := Sm1.tr (Sm2.tr (Sm3.tr (Sm4.tr Sm5)))
  exact e_ireturn .int dX9_feed_46 rfl rfl (h _ (A9.to (fun a q => by unfold fClA; omega)) (Ic.tape ok A9 (fun a q => q) (fun i hi => (hB5 i hi).trans (congrArg sb (mfdd_20 B tp a b c e4 e5 i))) hp5 (fun j hj => (hf5 j hj).trans ((hf4 j hj).trans ((hf3 j hj).trans ((hf2 j hj).trans (hf1 j hj))))) (hJ5.trans (hJ4.trans (hJ3.trans (hJ2.trans hJ1))))))
