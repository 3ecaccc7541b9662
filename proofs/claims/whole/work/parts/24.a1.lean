def msz (D : fSD) (o w h : Nat) : Bool := decide (dO D o 0 = w ∧ dO D o 1 = h ∨ dO D o 0 = h ∧ dO D o 1 = w)
def mof (D : fSD) (w h : Nat) : Option Nat := mfd (fun o => msz D o w h) (dT D 2) 0
def mwd (S : Nat → Nat) (p : Nat) : Nat := S (p * 6 + 2) - S (p * 6 + 1)
def mhg (S : Nat → Nat) (p : Nat) : Nat := S (p * 6 + 4) - S (p * 6 + 3)
theorem bn_nar (b : Bool) : narrow .boolean (.int (nI (bn b))) = .int (nI (bn b)) := by cases b <;> decide
theorem mfd_t {f : Nat → Bool} {n p : Nat} (h : f p = true) : mfd f (n + 1) p = some p := by unfold mfd; rw [if_pos h]
theorem mfd_f {f : Nat → Bool} {n p : Nat} (h : f p = false) : mfd f (n + 1) p = mfd f n (p + 1) := by
  show (if f p = true then some p else mfd f n (p + 1)) = _
  rw [h]
  rfl
def mdone (D : fSD) (S : Nat → Nat) (o : Nat) : Bool := decide (dO D o 2 ≤ S (145 + o))
def mopen (D : fSD) (S : Nat → Nat) (o : Nat) : Bool := !(mdone D S o) && decide (S 155 ≤ dO D o 3)
def mstr (D : fSD) (S : Nat → Nat) (k c : Nat) : Bool := macr D k && decide (c < mneed D S k + 2)
set_option maxRecDepth 20000 in
theorem t_X3_isOfSize {g : fGP} {d : Nat} {σ : fAH} {Q : fRes → fAH → Prop} {q : Nat} {D : fSD} {o w h9 : Nat} (Gs : fGs g σ q) (Gr : fGr σ q D) (hD : fWD D) (ho : o < dT D 2) (hw : w < 100) (hh : h9 < 100) (h : Q (.inl (some (.int (nI (bn (msz D o w h9)))))) σ) : fEv g (d) mX3_isOfSize 0 (fent [.ref q, .int (nI o), .int (nI w), .int (nI h9)] 6) [] σ Q := by
  obtain ⟨⟨g0, g1, g2, g3, g4, g5⟩, ⟨gn, gK⟩, ⟨gr0, gr1, gr2, gr3, gr4⟩⟩ := id Gs
  obtain ⟨t0, t1, t2, t3, t4, t5, t6⟩ := id hD.1
  obtain ⟨o0, o1, o2, o3, o4, o5, o6, o7, o8⟩ := hD.2.2.2.1 o ho
  show fEv g (d) mX3_isOfSize 0 [some (.ref q), some (.int (nI o)), some (.int (nI w)), some (.int (nI h9)), none, none] [] σ Q
  refine e_aload_n dX3_isOfSize_0 rfl rfl ?_
  refine e_getR (q := q + 3) dX3_isOfSize_1 fl_RX3_18 g0 (show q < fnx σ by omega) rfl gr2 (by unfold fscr; omega) ?_
  refine e_iload_n dX3_isOfSize_4 rfl rfl ?_
  refine e_iconst (nI 5) dX3_isOfSize_5 (by decide) ?_
  refine e_imul dX3_isOfSize_6 ?_
  refine e_int (nI (o * 5)) (pk_mul o 5) ?_
  refine e_iconst (nI 0) dX3_isOfSize_7 (by decide) ?_
  refine e_iadd dX3_isOfSize_8 ?_
  refine e_int (nI (o * 5)) (nI_add (o * 5) 0) ?_
  refine e_iaload (o * 5) dX3_isOfSize_9 g3 (show q + 3 < fnx σ by omega) rfl (by omega) (by decide) ?_
  refine e_int (nI (dO D o 0)) (Gr.2.2.2.1 o (by omega) 0 (by decide)) ?_
  refine e_istore (L1 := [some (.ref q), some (.int (nI o)), some (.int (nI w)), some (.int (nI h9)), some (.int (nI (dO D o 0))), none]) dX3_isOfSize_10 (by decide) rfl ?_
  refine e_aload_n dX3_isOfSize_12 rfl rfl ?_
  refine e_getR (q := q + 3) dX3_isOfSize_13 fl_RX3_18 g0 (show q < fnx σ by omega) rfl gr2 (by unfold fscr; omega) ?_
  refine e_iload_n dX3_isOfSize_16 rfl rfl ?_
  refine e_iconst (nI 5) dX3_isOfSize_17 (by decide) ?_
  refine e_imul dX3_isOfSize_18 ?_
  refine e_int (nI (o * 5)) (pk_mul o 5) ?_
  refine e_iconst (nI 1) dX3_isOfSize_19 (by decide) ?_
  refine e_iadd dX3_isOfSize_20 ?_
  refine e_int (nI (o * 5 + 1)) (nI_add (o * 5) 1) ?_
  refine e_iaload (o * 5 + 1) dX3_isOfSize_21 g3 (show q + 3 < fnx σ by omega) rfl (by omega) (by decide) ?_
  refine e_int (nI (dO D o 1)) (Gr.2.2.2.1 o (by omega) 1 (by decide)) ?_
  refine e_istore (L1 := [some (.ref q), some (.int (nI o)), some (.int (nI w)), some (.int (nI h9)), some (.int (nI (dO D o 0))), some (.int (nI (dO D o 1)))]) dX3_isOfSize_22 (by decide) rfl ?_
  refine e_iload dX3_isOfSize_24 rfl ?_
  refine e_iload_n dX3_isOfSize_26 rfl rfl ?_
  refine e_icmp_ne 36 dX3_isOfSize_27 (by decide) (fun c27 => ?_) (fun c27 => ?_)
  · rw [nI_inj (by omega) (by omega)] at c27
    refine e_iload dX3_isOfSize_36 rfl ?_
    refine e_iload_n dX3_isOfSize_38 rfl rfl ?_
    refine e_icmp_ne 52 dX3_isOfSize_39 (by decide) (fun c39 => ?_) (fun c39 => ?_)
    · rw [nI_inj (by omega) (by omega)] at c39
      refine e_iconst (nI 0) dX3_isOfSize_52 (by decide) ?_
      have hm : msz D o w h9 = false := decide_eq_false (by omega)
      rw [hm] at h
      exact e_ireturn .boolean dX3_isOfSize_53 rfl (by decide) h
    · rw [nI_inj (by omega) (by omega)] at c39
      refine e_iload dX3_isOfSize_42 rfl ?_
      refine e_iload_n dX3_isOfSize_44 rfl rfl ?_
      refine e_icmp_ne 52 dX3_isOfSize_45 (by decide) (fun c45 => ?_) (fun c45 => ?_)
      · rw [nI_inj (by omega) (by omega)] at c45
        refine e_iconst (nI 0) dX3_isOfSize_52 (by decide) ?_
        have hm : msz D o w h9 = false := decide_eq_false (by omega)
        rw [hm] at h
        exact e_ireturn .boolean dX3_isOfSize_53 rfl (by decide) h
      · rw [nI_inj (by omega) (by omega)] at c45
        refine e_iconst (nI 1) dX3_isOfSize_48 (by decide) ?_
        refine e_goto 53 dX3_isOfSize_49 (by decide) ?_
        have hm : msz D o w h9 = true := decide_eq_true (by omega)
        rw [hm] at h
        exact e_ireturn .boolean dX3_isOfSize_53 rfl (by decide) h
  · rw [nI_inj (by omega) (by omega)] at c27
    refine e_iload dX3_isOfSize_30 rfl ?_
    refine e_iload_n dX3_isOfSize_32 rfl rfl ?_
    refine e_icmp_eq 48 dX3_isOfSize_33 (by decide) (fun c33 => ?_) (fun c33 => ?_)
    · rw [nI_inj (by omega) (by omega)] at c33
      refine e_iconst (nI 1) dX3_isOfSize_48 (by decide) ?_
      refine e_goto 53 dX3_isOfSize_49 (by decide) ?_
      have hm : msz D o w h9 = true := decide_eq_true (by omega)
      rw [hm] at h
      exact e_ireturn .boolean dX3_isOfSize_53 rfl (by decide) h
    · rw [nI_inj (by omega) (by omega)] at c33
      refine e_iload dX3_isOfSize_36 rfl ?_
      refine e_iload_n dX3_isOfSize_38 rfl rfl ?_
      refine e_icmp_ne 52 dX3_isOfSize_39 (by decide) (fun c39 => ?_) (fun c39 => ?_)
      · rw [nI_inj (by omega) (by omega)] at c39
        refine e_iconst (nI 0) dX3_isOfSize_52 (by decide) ?_
        have hm : msz D o w h9 = false := decide_eq_false (by omega)
        rw [hm] at h
        exact e_ireturn .boolean dX3_isOfSize_53 rfl (by decide) h
      · rw [nI_inj (by omega) (by omega)] at c39
        refine e_iload dX3_isOfSize_42 rfl ?_
        refine e_iload_n dX3_isOfSize_44 rfl rfl ?_
        refine e_icmp_ne 52 dX3_isOfSize_45 (by decide) (fun c45 => ?_) (fun c45 => ?_)
        · rw [nI_inj (by omega) (by omega)] at c45
          refine e_iconst (nI 0) dX3_isOfSize_52 (by decide) ?_
          have hm : msz D o w h9 = false := decide_eq_false (by omega)
          rw [hm] at h
          exact e_ireturn .boolean dX3_isOfSize_53 rfl (by decide) h
        · rw [nI_inj (by omega) (by omega)] at c45
          refine e_iconst (nI 1) dX3_isOfSize_48 (by decide) ?_
          refine e_goto 53 dX3_isOfSize_49 (by decide) ?_
          have hm : msz D o w h9 = true := decide_eq_true (by omega)
          rw [hm] at h
          exact e_ireturn .boolean dX3_isOfSize_53 rfl (by decide) h
set_option maxRecDepth 20000 in
theorem t_X10_isSize {g : fGP} {d : Nat} {σ : fAH} {Q : fRes → fAH → Prop} {D : fSD} {S : Nat → Nat} {sd : Int32} {o w h9 : Nat} (Ms : fMs g σ) (Mr : fMr σ D S sd) (hD : fWD D) (hW : fWS D S) (ho : o < dT D 2) (hw : w < 100) (hh : h9 < 100) (h : Q (.inl (some (.int (nI (bn (msz D o w h9)))))) σ) : fEv g (d) mX10_isSize 0 (fent [.ref 89, .int (nI w), .int (nI h9), .int (nI o)] 4) [] σ Q := by
  obtain ⟨t0, t1, t2, t3, t4, t5, t6⟩ := id hD.1
  obtain ⟨o0, o1, o2, o3, o4, o5, o6, o7, o8⟩ := hD.2.2.2.1 o ho
  show fEv g (d) mX10_isSize 0 [some (.ref 89), some (.int (nI w)), some (.int (nI h9)), some (.int (nI o))] [] σ Q
  refine e_iload_n dX10_isSize_0 rfl rfl ?_
  refine e_aload_n dX10_isSize_1 rfl rfl ?_
  refine e_getR (q := 140) dX10_isSize_2 fl_RX10_40 (Ms.s 89 rfl) (Ms.n (by decide)) rfl (Ms.r 89 16 rfl) (by unfold fscr; omega) ?_
  refine e_iload_n dX10_isSize_5 rfl rfl ?_
  refine e_aaload (q := 141 + o) o dX10_isSize_6 (Ms.s 140 rfl) (by decide) (Ms.n (by decide)) rfl (by omega) (by decide) (Ms.r 140 _ (frf_order _ (by omega))) (by unfold fscr; omega) ?_
  refine e_iconst (nI 0) dX10_isSize_7 (by decide) ?_
  refine e_iaload 0 dX10_isSize_8 (Ms.s _ (fsh_order _ (by omega))) (Ms.n (by omega)) rfl (by omega) (by decide) ?_
  refine e_int (nI (dO D o 0)) (Mr.order o (by omega) 0 (by omega)) ?_
  refine e_icmp_ne 24 dX10_isSize_9 (by decide) (fun c9 => ?_) (fun c9 => ?_)
  · rw [nI_inj (by omega) (by omega)] at c9
    refine e_iload_n dX10_isSize_24 rfl rfl ?_
    refine e_aload_n dX10_isSize_25 rfl rfl ?_
    refine e_getR (q := 140) dX10_isSize_26 fl_RX10_40 (Ms.s 89 rfl) (Ms.n (by decide)) rfl (Ms.r 89 16 rfl) (by unfold fscr; omega) ?_
    refine e_iload_n dX10_isSize_29 rfl rfl ?_
    refine e_aaload (q := 141 + o) o dX10_isSize_30 (Ms.s 140 rfl) (by decide) (Ms.n (by decide)) rfl (by omega) (by decide) (Ms.r 140 _ (frf_order _ (by omega))) (by unfold fscr; omega) ?_
    refine e_iconst (nI 0) dX10_isSize_31 (by decide) ?_
    refine e_iaload 0 dX10_isSize_32 (Ms.s _ (fsh_order _ (by omega))) (Ms.n (by omega)) rfl (by omega) (by decide) ?_
    refine e_int (nI (dO D o 0)) (Mr.order o (by omega) 0 (by omega)) ?_
    refine e_icmp_ne 52 dX10_isSize_33 (by decide) (fun c33 => ?_) (fun c33 => ?_)
    · rw [nI_inj (by omega) (by omega)] at c33
      refine e_iconst (nI 0) dX10_isSize_52 (by decide) ?_
      have hm : msz D o w h9 = false := decide_eq_false (by omega)
      rw [hm] at h
      exact e_ireturn .boolean dX10_isSize_53 rfl (by decide) h
    · rw [nI_inj (by omega) (by omega)] at c33
      refine e_iload_n dX10_isSize_36 rfl rfl ?_
      refine e_aload_n dX10_isSize_37 rfl rfl ?_
      refine e_getR (q := 140) dX10_isSize_38 fl_RX10_40 (Ms.s 89 rfl) (Ms.n (by decide)) rfl (Ms.r 89 16 rfl) (by unfold fscr; omega) ?_
      refine e_iload_n dX10_isSize_41 rfl rfl ?_
      refine e_aaload (q := 141 + o) o dX10_isSize_42 (Ms.s 140 rfl) (by decide) (Ms.n (by decide)) rfl (by omega) (by decide) (Ms.r 140 _ (frf_order _ (by omega))) (by unfold fscr; omega) ?_
      refine e_iconst (nI 1) dX10_isSize_43 (by decide) ?_
      refine e_iaload 1 dX10_isSize_44 (Ms.s _ (fsh_order _ (by omega))) (Ms.n (by omega)) rfl (by omega) (by decide) ?_
      refine e_int (nI (dO D o 1)) (Mr.order o (by omega) 1 (by omega)) ?_
      refine e_icmp_ne 52 dX10_isSize_45 (by decide) (fun c45 => ?_) (fun c45 => ?_)
      · rw [nI_inj (by omega) (by omega)] at c45
        refine e_iconst (nI 0) dX10_isSize_52 (by decide) ?_
        have hm : msz D o w h9 = false := decide_eq_false (by omega)
        rw [hm] at h
        exact e_ireturn .boolean dX10_isSize_53 rfl (by decide) h
      · rw [nI_inj (by omega) (by omega)] at c45
        refine e_iconst (nI 1) dX10_isSize_48 (by decide) ?_
        refine e_goto 53 dX10_isSize_49 (by decide) ?_
        have hm : msz D o w h9 = true := decide_eq_true (by omega)
        rw [hm] at h
        exact e_ireturn .boolean dX10_isSize_53 rfl (by decide) h
  · rw [nI_inj (by omega) (by omega)] at c9
    refine e_iload_n dX10_isSize_12 rfl rfl ?_
    refine e_aload_n dX10_isSize_13 rfl rfl ?_
    refine e_getR (q := 140) dX10_isSize_14 fl_RX10_40 (Ms.s 89 rfl) (Ms.n (by decide)) rfl (Ms.r 89 16 rfl) (by unfold fscr; omega) ?_
    refine e_iload_n dX10_isSize_17 rfl rfl ?_
    refine e_aaload (q := 141 + o) o dX10_isSize_18 (Ms.s 140 rfl) (by decide) (Ms.n (by decide)) rfl (by omega) (by decide) (Ms.r 140 _ (frf_order _ (by omega))) (by unfold fscr; omega) ?_
    refine e_iconst (nI 1) dX10_isSize_19 (by decide) ?_
    refine e_iaload 1 dX10_isSize_20 (Ms.s _ (fsh_order _ (by omega))) (Ms.n (by omega)) rfl (by omega) (by decide) ?_
    refine e_int (nI (dO D o 1)) (Mr.order o (by omega) 1 (by omega)) ?_
    refine e_icmp_eq 48 dX10_isSize_21 (by decide) (fun c21 => ?_) (fun c21 => ?_)
    · rw [nI_inj (by omega) (by omega)] at c21
      refine e_iconst (nI 1) dX10_isSize_48 (by decide) ?_
      refine e_goto 53 dX10_isSize_49 (by decide) ?_
      have hm : msz D o w h9 = true := decide_eq_true (by omega)
      rw [hm] at h
      exact e_ireturn .boolean dX10_isSize_53 rfl (by decide) h
    · rw [nI_inj (by omega) (by omega)] at c21
      refine e_iload_n dX10_isSize_24 rfl rfl ?_
      refine e_aload_n dX10_isSize_25 rfl rfl ?_
      refine e_getR (q := 140) dX10_isSize_26 fl_RX10_40 (Ms.s 89 rfl) (Ms.n (by decide)) rfl (Ms.r 89 16 rfl) (by unfold fscr; omega) ?_
      refine e_iload_n dX10_isSize_29 rfl rfl ?_
      refine e_aaload (q := 141 + o) o dX10_isSize_30 (Ms.s 140 rfl) (by decide) (Ms.n (by decide)) rfl (by omega) (by decide) (Ms.r 140 _ (frf_order _ (by omega))) (by unfold fscr; omega) ?_
      refine e_iconst (nI 0) dX10_isSize_31 (by decide) ?_
      refine e_iaload 0 dX10_isSize_32 (Ms.s _ (fsh_order _ (by omega))) (Ms.n (by omega)) rfl (by omega) (by decide) ?_
      refine e_int (nI (dO D o 0)) (Mr.order o (by omega) 0 (by omega)) ?_
      refine e_icmp_ne 52 dX10_isSize_33 (by decide) (fun c33 => ?_) (fun c33 => ?_)
      · rw [nI_inj (by omega) (by omega)] at c33
        refine e_iconst (nI 0) dX10_isSize_52 (by decide) ?_
        have hm : msz D o w h9 = false := decide_eq_false (by omega)
        rw [hm] at h
        exact e_ireturn .boolean dX10_isSize_53 rfl (by decide) h
      · rw [nI_inj (by omega) (by omega)] at c33
        refine e_iload_n dX10_isSize_36 rfl rfl ?_
        refine e_aload_n dX10_isSize_37 rfl rfl ?_
        refine e_getR (q := 140) dX10_isSize_38 fl_RX10_40 (Ms.s 89 rfl) (Ms.n (by decide)) rfl (Ms.r 89 16 rfl) (by unfold fscr; omega) ?_
        refine e_iload_n dX10_isSize_41 rfl rfl ?_
        refine e_aaload (q := 141 + o) o dX10_isSize_42 (Ms.s 140 rfl) (by decide) (Ms.n (by decide)) rfl (by omega) (by decide) (Ms.r 140 _ (frf_order _ (by omega))) (by unfold fscr; omega) ?_
        refine e_iconst (nI 1) dX10_isSize_43 (by decide) ?_
        refine e_iaload 1 dX10_isSize_44 (Ms.s _ (fsh_order _ (by omega))) (Ms.n (by omega)) rfl (by omega) (by decide) ?_
        refine e_int (nI (dO D o 1)) (Mr.order o (by omega) 1 (by omega)) ?_
        refine e_icmp_ne 52 dX10_isSize_45 (by decide) (fun c45 => ?_) (fun c45 => ?_)
        · rw [nI_inj (by omega) (by omega)] at c45
          refine e_iconst (nI 0) dX10_isSize_52 (by decide) ?_
          have hm : msz D o w h9 = false := decide_eq_false (by omega)
          rw [hm] at h
          exact e_ireturn .boolean dX10_isSize_53 rfl (by decide) h
        · rw [nI_inj (by omega) (by omega)] at c45
          refine e_iconst (nI 1) dX10_isSize_48 (by decide) ?_
          refine e_goto 53 dX10_isSize_49 (by decide) ?_
          have hm : msz D o w h9 = true := decide_eq_true (by omega)
          rw [hm] at h
          exact e_ireturn .boolean dX10_isSize_53 rfl (by decide) h
set_option maxRecDepth 20000 in
theorem l_X3_orderOfSize {g : fGP} {d : Nat} {σ : fAH} {Q : fRes → fAH → Prop} {q : Nat} {D : fSD} {w h9 : Nat} (Gs : fGs g σ q) (Gr : fGr σ q D) (hD : fWD D) (hw : w < 100) (hh : h9 < 100) : ∀ (n i : Nat), i + n = dT D 2 → Q (.inl (some (.int (mo (mfd (fun o => msz D o w h9) n i))))) σ → fEv g (d + 1) mX3_orderOfSize 2 [some (.ref q), some (.int (nI w)), some (.int (nI h9)), some (.int (nI i))] [] σ Q := by
  obtain ⟨⟨g0, g1, g2, g3, g4, g5⟩, ⟨gn, gK⟩, ⟨gr0, gr1, gr2, gr3, gr4⟩⟩ := id Gs
  obtain ⟨t0, t1, t2, t3, t4, t5, t6⟩ := id hD.1
  intro n
  induction n with
  | zero =>
    intro i  hin h
    refine e_iload_n dX3_orderOfSize_2 rfl rfl ?_
    refine e_aload_n dX3_orderOfSize_3 rfl rfl ?_
    refine e_getI dX3_orderOfSize_4 fl_RX3_37 g0 (show q < fnx σ by omega) rfl ?_
    refine e_int (nI (dT D 2)) Gr.1.2.2.1 ?_
    refine e_icmp_ge 28 dX3_orderOfSize_7 (by decide) (fun cz => ?_) (fun cz => absurd ((nI_le' (by omega) (by omega)).mpr (by omega)) cz)
    refine e_iconst (-1) dX3_orderOfSize_28 (by decide) ?_
    exact e_ireturn .int dX3_orderOfSize_29 rfl rfl (h)
  | succ n ih =>
    intro i  hin h
    have hi : i < dT D 2 := by omega
    refine e_iload_n dX3_orderOfSize_2 rfl rfl ?_
    refine e_aload_n dX3_orderOfSize_3 rfl rfl ?_
    refine e_getI dX3_orderOfSize_4 fl_RX3_37 g0 (show q < fnx σ by omega) rfl ?_
    refine e_int (nI (dT D 2)) Gr.1.2.2.1 ?_
    refine e_icmp_ge 28 dX3_orderOfSize_7 (by decide) (fun cz => absurd ((nI_le' (by omega) (by omega)).mp cz) (by omega)) (fun cz => ?_)
    refine e_aload_n dX3_orderOfSize_10 rfl rfl ?_
    refine e_iload_n dX3_orderOfSize_11 rfl rfl ?_
    refine e_iload_n dX3_orderOfSize_12 rfl rfl ?_
    refine e_iload_n dX3_orderOfSize_13 rfl rfl ?_
    refine e_callV (k := q) [.int (nI i), .int (nI w), .int (nI h9)] dX3_orderOfSize_14 cc_X3_isOfSize lk_RX3_64 im_X3_isOfSize se_X3_isOfSize (by decide) g0 (show q < fnx σ by omega) rfl (Nat.le_of_ble_eq_true rfl) (Nat.le_of_ble_eq_true rfl) ?_
    refine t_X3_isOfSize Gs Gr hD (by omega) (by omega) (by omega) (fK_i ?_)
    show fEv g _ mX3_orderOfSize 17 [some (.ref q), some (.int (nI w)), some (.int (nI h9)), some (.int (nI i))] [.int (nI (bn (msz D i w h9)))] σ Q
    refine e_if_eq 22 dX3_orderOfSize_17 (by decide) (fun c17 => ?_) (fun c17 => ?_)
    · have c17 := bn0 c17
      refine e_iinc (v := nI (i + 1)) (L1 := [some (.ref q), some (.int (nI w)), some (.int (nI h9)), some (.int (nI (i + 1)))]) dX3_orderOfSize_22 rfl (show nI i + Int32.ofInt 1 = nI (i + 1) from nI_add i 1) (by decide) rfl ?_
      refine e_goto 2 dX3_orderOfSize_25 (by decide) ?_
      refine ih (i + 1) (by omega) ?_
      rw [mfd_f (f := fun o => msz D o w h9) c17] at h
      exact h
    · have c17 := bn1 c17
      refine e_iload_n dX3_orderOfSize_20 rfl rfl ?_
      rw [mfd_t (f := fun o => msz D o w h9) c17] at h
      exact e_ireturn .int dX3_orderOfSize_21 rfl rfl h
set_option maxRecDepth 20000 in
theorem t_X3_orderOfSize {g : fGP} {d : Nat} {σ : fAH} {Q : fRes → fAH → Prop} {q : Nat} {D : fSD} {w h9 : Nat} (Gs : fGs g σ q) (Gr : fGr σ q D) (hD : fWD D) (hw : w < 100) (hh : h9 < 100) (h : Q (.inl (some (.int (mo (mof D w h9))))) σ) : fEv g (d + 1) mX3_orderOfSize 0 (fent [.ref q, .int (nI w), .int (nI h9)] 4) [] σ Q := by
  show fEv g (d + 1) mX3_orderOfSize 0 [some (.ref q), some (.int (nI w)), some (.int (nI h9)), none] [] σ Q
  refine e_iconst (nI 0) dX3_orderOfSize_0 (by decide) ?_
  refine e_istore_n (L1 := [some (.ref q), some (.int (nI w)), some (.int (nI h9)), some (.int (nI 0))]) dX3_orderOfSize_1 rfl (by decide) rfl ?_
  exact l_X3_orderOfSize Gs Gr hD hw hh (dT D 2) 0 (by omega) h
set_option maxRecDepth 20000 in
theorem l_X10_orderOf {g : fGP} {d : Nat} {σ : fAH} {Q : fRes → fAH → Prop} {D : fSD} {S : Nat → Nat} {sd : Int32} {w h9 : Nat} (Ms : fMs g σ) (Mr : fMr σ D S sd) (hD : fWD D) (hW : fWS D S) (hw : w < 100) (hh : h9 < 100) : ∀ (n i : Nat), i + n = dT D 2 → Q (.inl (some (.int (mo (mfd (fun o => msz D o w h9) n i))))) σ → fEv g (d + 1) mX10_orderOf 2 [some (.ref 89), some (.int (nI w)), some (.int (nI h9)), some (.int (nI i))] [] σ Q := by
  obtain ⟨t0, t1, t2, t3, t4, t5, t6⟩ := id hD.1
  intro n
  induction n with
  | zero =>
    intro i  hin h
    refine e_iload_n dX10_orderOf_2 rfl rfl ?_
    refine e_aload_n dX10_orderOf_3 rfl rfl ?_
    refine e_getR (q := 92) dX10_orderOf_4 fl_RX10_20 (Ms.s 89 rfl) (Ms.n (by decide)) rfl (Ms.r 89 10 rfl) (by unfold fscr; omega) ?_
    refine e_iconst (nI 2) dX10_orderOf_7 (by decide) ?_
    refine e_iaload 2 dX10_orderOf_8 (Ms.s 92 rfl) (Ms.n (by decide)) rfl (by omega) (by decide) ?_
    refine e_int (nI (dT D 2)) (Mr.t 2 (by omega)) ?_
    refine e_icmp_ge 30 dX10_orderOf_9 (by decide) (fun cz => ?_) (fun cz => absurd ((nI_le' (by omega) (by omega)).mpr (by omega)) cz)
    refine e_iconst (-1) dX10_orderOf_30 (by decide) ?_
    exact e_ireturn .int dX10_orderOf_31 rfl rfl (h)
  | succ n ih =>
    intro i  hin h
    have hi : i < dT D 2 := by omega
    refine e_iload_n dX10_orderOf_2 rfl rfl ?_
    refine e_aload_n dX10_orderOf_3 rfl rfl ?_
    refine e_getR (q := 92) dX10_orderOf_4 fl_RX10_20 (Ms.s 89 rfl) (Ms.n (by decide)) rfl (Ms.r 89 10 rfl) (by unfold fscr; omega) ?_
    refine e_iconst (nI 2) dX10_orderOf_7 (by decide) ?_
    refine e_iaload 2 dX10_orderOf_8 (Ms.s 92 rfl) (Ms.n (by decide)) rfl (by omega) (by decide) ?_
    refine e_int (nI (dT D 2)) (Mr.t 2 (by omega)) ?_
    refine e_icmp_ge 30 dX10_orderOf_9 (by decide) (fun cz => absurd ((nI_le' (by omega) (by omega)).mp cz) (by omega)) (fun cz => ?_)
    refine e_aload_n dX10_orderOf_12 rfl rfl ?_
    refine e_iload_n dX10_orderOf_13 rfl rfl ?_
    refine e_iload_n dX10_orderOf_14 rfl rfl ?_
    refine e_iload_n dX10_orderOf_15 rfl rfl ?_
    refine e_callV (k := 89) [.int (nI w), .int (nI h9), .int (nI i)] dX10_orderOf_16 cc_X10_isSize lk_RX10_212 im_X10_isSize se_X10_isSize (by decide) (Ms.s 89 rfl) (Ms.n (by decide)) rfl (Nat.le_of_ble_eq_true rfl) (Nat.le_of_ble_eq_true rfl) ?_
    refine t_X10_isSize Ms Mr hD hW (by omega) (by omega) (by omega) (fK_i ?_)
    show fEv g _ mX10_orderOf 19 [some (.ref 89), some (.int (nI w)), some (.int (nI h9)), some (.int (nI i))] [.int (nI (bn (msz D i w h9)))] σ Q
    refine e_if_eq 24 dX10_orderOf_19 (by decide) (fun c19 => ?_) (fun c19 => ?_)
    · have c19 := bn0 c19
      refine e_iinc (v := nI (i + 1)) (L1 := [some (.ref 89), some (.int (nI w)), some (.int (nI h9)), some (.int (nI (i + 1)))]) dX10_orderOf_24 rfl (show nI i + Int32.ofInt 1 = nI (i + 1) from nI_add i 1) (by decide) rfl ?_
      refine e_goto 2 dX10_orderOf_27 (by decide) ?_
      refine ih (i + 1) (by omega) ?_
      rw [mfd_f (f := fun o => msz D o w h9) c19] at h
      exact h
    · have c19 := bn1 c19
      refine e_iload_n dX10_orderOf_22 rfl rfl ?_
      rw [mfd_t (f := fun o => msz D o w h9) c19] at h
      exact e_ireturn .int dX10_orderOf_23 rfl rfl h
set_option maxRecDepth 20000 in
theorem t_X10_orderOf {g : fGP} {d : Nat} {σ : fAH} {Q : fRes → fAH → Prop} {D : fSD} {S : Nat → Nat} {sd : Int32} {w h9 : Nat} (Ms : fMs g σ) (Mr : fMr σ D S sd) (hD : fWD D) (hW : fWS D S) (hw : w < 100) (hh : h9 < 100) (h : Q (.inl (some (.int (mo (mof D w h9))))) σ) : fEv g (d + 1) mX10_orderOf 0 (fent [.ref 89, .int (nI w), .int (nI h9)] 4) [] σ Q := by
  show fEv g (d + 1) mX10_orderOf 0 [some (.ref 89), some (.int (nI w)), some (.int (nI h9)), none] [] σ Q
  refine e_iconst (nI 0) dX10_orderOf_0 (by decide) ?_
  refine e_istore_n (L1 := [some (.ref 89), some (.int (nI w)), some (.int (nI h9)), some (.int (nI 0))]) dX10_orderOf_1 rfl (by decide) rfl ?_
  exact l_X10_orderOf Ms Mr hD hW hw hh (dT D 2) 0 (by omega) h
set_option maxRecDepth 20000 in
theorem t_X8_pieceWide {g : fGP} {d : Nat} {σ : fAH} {Q : fRes → fAH → Prop} {k q m : Nat} {D : fSD} {S : Nat → Nat} {sd : Int32} {p : Nat} (hD : fWD D) (Ys : fYs g σ k q) (Yr : fYr σ k D S m sd) (hW : fWS D S) (hp : p < S 120) (h : Q (.inl (some (.int (nI (mwd S p))))) σ) : fEv g (d) mX8_pieceWide 0 (fent [.ref k, .int (nI p)] 2) [] σ Q := by
  obtain ⟨⟨y0, y1, y2, y3, y4, y5, y6⟩, ⟨yn, yK⟩, ⟨yr0, yr1, yr2, yr3, yr4, yr5, yr6⟩⟩ := id Ys
  have np := hW.n hD
  obtain ⟨p0, p1, p2, p3, p4, p5⟩ := hW.2.1 p hp
  show fEv g (d) mX8_pieceWide 0 [some (.ref k), some (.int (nI p))] [] σ Q
  refine e_aload_n dX8_pieceWide_0 rfl rfl ?_
  refine e_getR (q := k + 1) dX8_pieceWide_1 fl_RX8_9 y0 (show k < fnx σ by omega) rfl yr1 (by unfold fscr; omega) ?_
  refine e_iload_n dX8_pieceWide_4 rfl rfl ?_
  refine e_bipush (nI 6) dX8_pieceWide_5 (by decide) ?_
  refine e_imul dX8_pieceWide_7 ?_
  refine e_int (nI (p * 6)) (pk_mul p 6) ?_
  refine e_iconst (nI 2) dX8_pieceWide_8 (by decide) ?_
  refine e_iadd dX8_pieceWide_9 ?_
  refine e_int (nI (p * 6 + 2)) (nI_add (p * 6) 2) ?_
  refine e_iaload (p * 6 + 2) dX8_pieceWide_10 y1 (show k + 1 < fnx σ by omega) rfl (by omega) (by decide) ?_
  refine e_int (nI (S (p * 6 + 2))) (Yr.2.1 p (by omega) 2 (by decide)) ?_
  refine e_aload_n dX8_pieceWide_11 rfl rfl ?_
  refine e_getR (q := k + 1) dX8_pieceWide_12 fl_RX8_9 y0 (show k < fnx σ by omega) rfl yr1 (by unfold fscr; omega) ?_
  refine e_iload_n dX8_pieceWide_15 rfl rfl ?_
  refine e_bipush (nI 6) dX8_pieceWide_16 (by decide) ?_
  refine e_imul dX8_pieceWide_18 ?_
  refine e_int (nI (p * 6)) (pk_mul p 6) ?_
  refine e_iconst (nI 1) dX8_pieceWide_19 (by decide) ?_
  refine e_iadd dX8_pieceWide_20 ?_
  refine e_int (nI (p * 6 + 1)) (nI_add (p * 6) 1) ?_
  refine e_iaload (p * 6 + 1) dX8_pieceWide_21 y1 (show k + 1 < fnx σ by omega) rfl (by omega) (by decide) ?_
  refine e_int (nI (S (p * 6 + 1))) (Yr.2.1 p (by omega) 1 (by decide)) ?_
  refine e_isub dX8_pieceWide_22 ?_
  refine e_int (nI ((S (p * 6 + 2)) - (S (p * 6 + 1)))) (pk_sub (by omega)) ?_
  exact e_ireturn .int dX8_pieceWide_23 rfl rfl (h)
set_option maxRecDepth 20000 in
theorem t_X8_pieceHigh {g : fGP} {d : Nat} {σ : fAH} {Q : fRes → fAH → Prop} {k q m : Nat} {D : fSD} {S : Nat → Nat} {sd : Int32} {p : Nat} (hD : fWD D) (Ys : fYs g σ k q) (Yr : fYr σ k D S m sd) (hW : fWS D S) (hp : p < S 120) (h : Q (.inl (some (.int (nI (mhg S p))))) σ) : fEv g (d) mX8_pieceHigh 0 (fent [.ref k, .int (nI p)] 2) [] σ Q := by
  obtain ⟨⟨y0, y1, y2, y3, y4, y5, y6⟩, ⟨yn, yK⟩, ⟨yr0, yr1, yr2, yr3, yr4, yr5, yr6⟩⟩ := id Ys
  have np := hW.n hD
  obtain ⟨p0, p1, p2, p3, p4, p5⟩ := hW.2.1 p hp
  show fEv g (d) mX8_pieceHigh 0 [some (.ref k), some (.int (nI p))] [] σ Q
  refine e_aload_n dX8_pieceHigh_0 rfl rfl ?_
  refine e_getR (q := k + 1) dX8_pieceHigh_1 fl_RX8_9 y0 (show k < fnx σ by omega) rfl yr1 (by unfold fscr; omega) ?_
  refine e_iload_n dX8_pieceHigh_4 rfl rfl ?_
  refine e_bipush (nI 6) dX8_pieceHigh_5 (by decide) ?_
  refine e_imul dX8_pieceHigh_7 ?_
  refine e_int (nI (p * 6)) (pk_mul p 6) ?_
  refine e_iconst (nI 4) dX8_pieceHigh_8 (by decide) ?_
  refine e_iadd dX8_pieceHigh_9 ?_
  refine e_int (nI (p * 6 + 4)) (nI_add (p * 6) 4) ?_
  refine e_iaload (p * 6 + 4) dX8_pieceHigh_10 y1 (show k + 1 < fnx σ by omega) rfl (by omega) (by decide) ?_
  refine e_int (nI (S (p * 6 + 4))) (Yr.2.1 p (by omega) 4 (by decide)) ?_
  refine e_aload_n dX8_pieceHigh_11 rfl rfl ?_
  refine e_getR (q := k + 1) dX8_pieceHigh_12 fl_RX8_9 y0 (show k < fnx σ by omega) rfl yr1 (by unfold fscr; omega) ?_
  refine e_iload_n dX8_pieceHigh_15 rfl rfl ?_
  refine e_bipush (nI 6) dX8_pieceHigh_16 (by decide) ?_
  refine e_imul dX8_pieceHigh_18 ?_
  refine e_int (nI (p * 6)) (pk_mul p 6) ?_
  refine e_iconst (nI 3) dX8_pieceHigh_19 (by decide) ?_
  refine e_iadd dX8_pieceHigh_20 ?_
  refine e_int (nI (p * 6 + 3)) (nI_add (p * 6) 3) ?_
  refine e_iaload (p * 6 + 3) dX8_pieceHigh_21 y1 (show k + 1 < fnx σ by omega) rfl (by omega) (by decide) ?_
  refine e_int (nI (S (p * 6 + 3))) (Yr.2.1 p (by omega) 3 (by decide)) ?_
  refine e_isub dX8_pieceHigh_22 ?_
  refine e_int (nI ((S (p * 6 + 4)) - (S (p * 6 + 3)))) (pk_sub (by omega)) ?_
  exact e_ireturn .int dX8_pieceHigh_23 rfl rfl (h)
set_option maxRecDepth 20000 in
theorem t_X8_isLying {g : fGP} {d : Nat} {σ : fAH} {Q : fRes → fAH → Prop} {k q m : Nat} {D : fSD} {S : Nat → Nat} {sd : Int32} {p : Nat} (hD : fWD D) (Ys : fYs g σ k q) (Yr : fYr σ k D S m sd) (hW : fWS D S) (hp : p < S 120) (h : Q (.inl (some (.int (nI (bn (decide (S (p * 6 + 5) = 1))))))) σ) : fEv g (d) mX8_isLying 0 (fent [.ref k, .int (nI p)] 2) [] σ Q := by
  obtain ⟨⟨y0, y1, y2, y3, y4, y5, y6⟩, ⟨yn, yK⟩, ⟨yr0, yr1, yr2, yr3, yr4, yr5, yr6⟩⟩ := id Ys
  have np := hW.n hD
  obtain ⟨p0, p1, p2, p3, p4, p5⟩ := hW.2.1 p hp
  show fEv g (d) mX8_isLying 0 [some (.ref k), some (.int (nI p))] [] σ Q
  refine e_aload_n dX8_isLying_0 rfl rfl ?_
  refine e_getR (q := k + 1) dX8_isLying_1 fl_RX8_9 y0 (show k < fnx σ by omega) rfl yr1 (by unfold fscr; omega) ?_
  refine e_iload_n dX8_isLying_4 rfl rfl ?_
  refine e_bipush (nI 6) dX8_isLying_5 (by decide) ?_
  refine e_imul dX8_isLying_7 ?_
  refine e_int (nI (p * 6)) (pk_mul p 6) ?_
  refine e_iconst (nI 5) dX8_isLying_8 (by decide) ?_
  refine e_iadd dX8_isLying_9 ?_
  refine e_int (nI (p * 6 + 5)) (nI_add (p * 6) 5) ?_
  refine e_iaload (p * 6 + 5) dX8_isLying_10 y1 (show k + 1 < fnx σ by omega) rfl (by omega) (by decide) ?_
  refine e_int (nI (S (p * 6 + 5))) (Yr.2.1 p (by omega) 5 (by decide)) ?_
  refine e_iconst (nI 1) dX8_isLying_11 (by decide) ?_
  refine e_icmp_ne 19 dX8_isLying_12 (by decide) (fun c12 => ?_) (fun c12 => ?_)
  · rw [nI_inj (by omega) (by omega)] at c12
    refine e_iconst (nI 0) dX8_isLying_19 (by decide) ?_
    have hm : decide (S (p * 6 + 5) = 1) = false := decide_eq_false (by omega)
    rw [hm] at h
    exact e_ireturn .boolean dX8_isLying_20 rfl (by decide) h
  · rw [nI_inj (by omega) (by omega)] at c12
    refine e_iconst (nI 1) dX8_isLying_15 (by decide) ?_
    refine e_goto 20 dX8_isLying_16 (by decide) ?_
    have hm : decide (S (p * 6 + 5) = 1) = true := decide_eq_true (by omega)
    rw [hm] at h
    exact e_ireturn .boolean dX8_isLying_20 rfl (by decide) h
set_option maxRecDepth 20000 in
theorem t_X10_area {g : fGP} {d : Nat} {σ : fAH} {Q : fRes → fAH → Prop} {D : fSD} {S : Nat → Nat} {sd : Int32} {p : Nat} (Ms : fMs g σ) (Mr : fMr σ D S sd) (hD : fWD D) (hW : fWS D S) (hp : p < S 120) (h : Q (.inl (some (.int (nI (mwd S p * mhg S p))))) σ) : fEv g (d) mX10_area 0 (fent [.ref 89, .int (nI p)] 2) [] σ Q := by
  have np := hW.n hD
  obtain ⟨p0, p1, p2, p3, p4, p5⟩ := hW.2.1 p hp
  show fEv g (d) mX10_area 0 [some (.ref 89), some (.int (nI p))] [] σ Q
  refine e_aload_n dX10_area_0 rfl rfl ?_
  refine e_getR (q := 197) dX10_area_1 fl_RX10_49 (Ms.s 89 rfl) (Ms.n (by decide)) rfl (Ms.r 89 19 rfl) (by unfold fscr; omega) ?_
  refine e_bipush (nI 6) dX10_area_4 (by decide) ?_
  refine e_iload_n dX10_area_6 rfl rfl ?_
  refine e_imul dX10_area_7 ?_
  refine e_int (nI (6 * p)) (pk_mul 6 p) ?_
  refine e_iconst (nI 2) dX10_area_8 (by decide) ?_
  refine e_iadd dX10_area_9 ?_
  refine e_int (nI (6 * p + 2)) (nI_add (6 * p) 2) ?_
  refine e_iaload (6 * p + 2) dX10_area_10 (Ms.s 197 rfl) (Ms.n (by decide)) rfl (by omega) (by decide) ?_
  refine e_int (nI (S (p * 6 + 2))) (Mr.sm p 2 (by omega)) ?_
  refine e_aload_n dX10_area_11 rfl rfl ?_
  refine e_getR (q := 197) dX10_area_12 fl_RX10_49 (Ms.s 89 rfl) (Ms.n (by decide)) rfl (Ms.r 89 19 rfl) (by unfold fscr; omega) ?_
  refine e_bipush (nI 6) dX10_area_15 (by decide) ?_
  refine e_iload_n dX10_area_17 rfl rfl ?_
  refine e_imul dX10_area_18 ?_
  refine e_int (nI (6 * p)) (pk_mul 6 p) ?_
  refine e_iconst (nI 1) dX10_area_19 (by decide) ?_
  refine e_iadd dX10_area_20 ?_
  refine e_int (nI (6 * p + 1)) (nI_add (6 * p) 1) ?_
  refine e_iaload (6 * p + 1) dX10_area_21 (Ms.s 197 rfl) (Ms.n (by decide)) rfl (by omega) (by decide) ?_
  refine e_int (nI (S (p * 6 + 1))) (Mr.sm p 1 (by omega)) ?_
  refine e_isub dX10_area_22 ?_
  refine e_int (nI ((S (p * 6 + 2)) - (S (p * 6 + 1)))) (pk_sub (by omega)) ?_
  refine e_aload_n dX10_area_23 rfl rfl ?_
  refine e_getR (q := 197) dX10_area_24 fl_RX10_49 (Ms.s 89 rfl) (Ms.n (by decide)) rfl (Ms.r 89 19 rfl) (by unfold fscr; omega) ?_
  refine e_bipush (nI 6) dX10_area_27 (by decide) ?_
  refine e_iload_n dX10_area_29 rfl rfl ?_
  refine e_imul dX10_area_30 ?_
  refine e_int (nI (6 * p)) (pk_mul 6 p) ?_
  refine e_iconst (nI 4) dX10_area_31 (by decide) ?_
  refine e_iadd dX10_area_32 ?_
  refine e_int (nI (6 * p + 4)) (nI_add (6 * p) 4) ?_
  refine e_iaload (6 * p + 4) dX10_area_33 (Ms.s 197 rfl) (Ms.n (by decide)) rfl (by omega) (by decide) ?_
  refine e_int (nI (S (p * 6 + 4))) (Mr.sm p 4 (by omega)) ?_
  refine e_aload_n dX10_area_34 rfl rfl ?_
  refine e_getR (q := 197) dX10_area_35 fl_RX10_49 (Ms.s 89 rfl) (Ms.n (by decide)) rfl (Ms.r 89 19 rfl) (by unfold fscr; omega) ?_
  refine e_bipush (nI 6) dX10_area_38 (by decide) ?_
  refine e_iload_n dX10_area_40 rfl rfl ?_
  refine e_imul dX10_area_41 ?_
  refine e_int (nI (6 * p)) (pk_mul 6 p) ?_
  refine e_iconst (nI 3) dX10_area_42 (by decide) ?_
  refine e_iadd dX10_area_43 ?_
  refine e_int (nI (6 * p + 3)) (nI_add (6 * p) 3) ?_
  refine e_iaload (6 * p + 3) dX10_area_44 (Ms.s 197 rfl) (Ms.n (by decide)) rfl (by omega) (by decide) ?_
  refine e_int (nI (S (p * 6 + 3))) (Mr.sm p 3 (by omega)) ?_
  refine e_isub dX10_area_45 ?_
  refine e_int (nI ((S (p * 6 + 4)) - (S (p * 6 + 3)))) (pk_sub (by omega)) ?_
  refine e_imul dX10_area_46 ?_
  refine e_int (nI (((S (p * 6 + 2)) - (S (p * 6 + 1))) * ((S (p * 6 + 4)) - (S (p * 6 + 3))))) (pk_mul ((S (p * 6 + 2)) - (S (p * 6 + 1))) ((S (p * 6 + 4)) - (S (p * 6 + 3)))) ?_
  exact e_ireturn .int dX10_area_47 rfl rfl (h)
set_option maxRecDepth 20000 in
theorem t_X8_isDone {g : fGP} {d : Nat} {σ : fAH} {Q : fRes → fAH → Prop} {k q m : Nat} {D : fSD} {S : Nat → Nat} {sd : Int32} {o : Nat} (Gs : fGs g σ q) (Gr : fGr σ q D) (hD : fWD D) (Ys : fYs g σ k q) (Yr : fYr σ k D S m sd) (hW : fWS D S) (ho : o < dT D 2) (h : Q (.inl (some (.int (nI (bn (mdone D S o)))))) σ) : fEv g (d) mX8_isDone 0 (fent [.ref k, .int (nI o)] 2) [] σ Q := by
  obtain ⟨⟨g0, g1, g2, g3, g4, g5⟩, ⟨gn, gK⟩, ⟨gr0, gr1, gr2, gr3, gr4⟩⟩ := id Gs
  obtain ⟨⟨y0, y1, y2, y3, y4, y5, y6⟩, ⟨yn, yK⟩, ⟨yr0, yr1, yr2, yr3, yr4, yr5, yr6⟩⟩ := id Ys
  obtain ⟨t0, t1, t2, t3, t4, t5, t6⟩ := id hD.1
  obtain ⟨o0, o1, o2, o3, o4, o5, o6, o7, o8⟩ := hD.2.2.2.1 o ho
  have oh := hW.2.2.2.1 o ho
  show fEv g (d) mX8_isDone 0 [some (.ref k), some (.int (nI o))] [] σ Q
  refine e_aload_n dX8_isDone_0 rfl rfl ?_
  refine e_getR (q := k + 3) dX8_isDone_1 fl_RX8_25 y0 (show k < fnx σ by omega) rfl yr3 (by unfold fscr; omega) ?_
  refine e_iload_n dX8_isDone_4 rfl rfl ?_
  refine e_iaload o dX8_isDone_5 y3 (show k + 3 < fnx σ by omega) rfl (by omega) (by decide) ?_
  refine e_int (nI (S (145 + o))) (Yr.2.2.2.1 o (by omega)) ?_
  refine e_aload_n dX8_isDone_6 rfl rfl ?_
  refine e_getR (q := q) dX8_isDone_7 fl_RX8_56 y0 (show k < fnx σ by omega) rfl yr0 (by unfold fscr; omega) ?_
  refine e_getR (q := q + 3) dX8_isDone_10 fl_RX8_180 g0 (show q < fnx σ by omega) rfl gr2 (by unfold fscr; omega) ?_
  refine e_iload_n dX8_isDone_13 rfl rfl ?_
  refine e_iconst (nI 5) dX8_isDone_14 (by decide) ?_
  refine e_imul dX8_isDone_15 ?_
  refine e_int (nI (o * 5)) (pk_mul o 5) ?_
  refine e_iconst (nI 2) dX8_isDone_16 (by decide) ?_
  refine e_iadd dX8_isDone_17 ?_
  refine e_int (nI (o * 5 + 2)) (nI_add (o * 5) 2) ?_
  refine e_iaload (o * 5 + 2) dX8_isDone_18 g3 (show q + 3 < fnx σ by omega) rfl (by omega) (by decide) ?_
  refine e_int (nI (dO D o 2)) (Gr.2.2.2.1 o (by omega) 2 (by decide)) ?_
  refine e_icmp_lt 26 dX8_isDone_19 (by decide) (fun c19 => ?_) (fun c19 => ?_)
  · rw [nI_lt' (by omega) (by omega)] at c19
    refine e_iconst (nI 0) dX8_isDone_26 (by decide) ?_
    have hm : mdone D S o = false := decide_eq_false (by omega)
    rw [hm] at h
    exact e_ireturn .boolean dX8_isDone_27 rfl (by decide) h
  · rw [nI_lt' (by omega) (by omega)] at c19
    refine e_iconst (nI 1) dX8_isDone_22 (by decide) ?_
    refine e_goto 27 dX8_isDone_23 (by decide) ?_
    have hm : mdone D S o = true := decide_eq_true (by omega)
    rw [hm] at h
    exact e_ireturn .boolean dX8_isDone_27 rfl (by decide) h
set_option maxRecDepth 20000 in
theorem t_X8_isOpen {g : fGP} {d : Nat} {σ : fAH} {Q : fRes → fAH → Prop} {k q m : Nat} {D : fSD} {S : Nat → Nat} {sd : Int32} {o : Nat} (Gs : fGs g σ q) (Gr : fGr σ q D) (hD : fWD D) (Ys : fYs g σ k q) (Yr : fYr σ k D S m sd) (hW : fWS D S) (ho : o < dT D 2) (h : Q (.inl (some (.int (nI (bn (mopen D S o)))))) σ) : fEv g (d + 1) mX8_isOpen 0 (fent [.ref k, .int (nI o)] 2) [] σ Q := by
  obtain ⟨⟨g0, g1, g2, g3, g4, g5⟩, ⟨gn, gK⟩, ⟨gr0, gr1, gr2, gr3, gr4⟩⟩ := id Gs
  obtain ⟨⟨y0, y1, y2, y3, y4, y5, y6⟩, ⟨yn, yK⟩, ⟨yr0, yr1, yr2, yr3, yr4, yr5, yr6⟩⟩ := id Ys
  obtain ⟨t0, t1, t2, t3, t4, t5, t6⟩ := id hD.1
  obtain ⟨o0, o1, o2, o3, o4, o5, o6, o7, o8⟩ := hD.2.2.2.1 o ho
  have oh := hW.2.2.2.2
  show fEv g (d + 1) mX8_isOpen 0 [some (.ref k), some (.int (nI o))] [] σ Q
  refine e_aload_n dX8_isOpen_0 rfl rfl ?_
  refine e_iload_n dX8_isOpen_1 rfl rfl ?_
  refine e_callV (k := k) [.int (nI o)] dX8_isOpen_2 cc_X8_isDone lk_RX8_183 im_X8_isDone se_X8_isDone (by decide) y0 (show k < fnx σ by omega) rfl (Nat.le_of_ble_eq_true rfl) (Nat.le_of_ble_eq_true rfl) ?_
  refine t_X8_isDone Gs Gr hD Ys Yr hW (by omega) (fK_i ?_)
  show fEv g _ mX8_isOpen 5 [some (.ref k), some (.int (nI o))] [.int (nI (bn (mdone D S o)))] σ Q
  refine e_if_ne 32 dX8_isOpen_5 (by decide) (fun c5 => ?_) (fun c5 => ?_)
  · have c5 := bn1 c5
    refine e_iconst (nI 0) dX8_isOpen_32 (by decide) ?_
    have hm : mopen D S o = false := (by unfold mopen; first | (rw [c5]; rfl) | (rw [c5, decide_eq_false (show ¬ S 155 ≤ dO D o 3 by omega)]; rfl))
    rw [hm] at h
    exact e_ireturn .boolean dX8_isOpen_33 rfl (by decide) h
  · have c5 := bn0 c5
    refine e_aload_n dX8_isOpen_8 rfl rfl ?_
    refine e_getI dX8_isOpen_9 fl_RX8_41 y0 (show k < fnx σ by omega) rfl ?_
    refine e_int (nI (S 155)) Yr.1.2.2.1 ?_
    refine e_aload_n dX8_isOpen_12 rfl rfl ?_
    refine e_getR (q := q) dX8_isOpen_13 fl_RX8_56 y0 (show k < fnx σ by omega) rfl yr0 (by unfold fscr; omega) ?_
    refine e_getR (q := q + 3) dX8_isOpen_16 fl_RX8_180 g0 (show q < fnx σ by omega) rfl gr2 (by unfold fscr; omega) ?_
    refine e_iload_n dX8_isOpen_19 rfl rfl ?_
    refine e_iconst (nI 5) dX8_isOpen_20 (by decide) ?_
    refine e_imul dX8_isOpen_21 ?_
    refine e_int (nI (o * 5)) (pk_mul o 5) ?_
    refine e_iconst (nI 3) dX8_isOpen_22 (by decide) ?_
    refine e_iadd dX8_isOpen_23 ?_
    refine e_int (nI (o * 5 + 3)) (nI_add (o * 5) 3) ?_
    refine e_iaload (o * 5 + 3) dX8_isOpen_24 g3 (show q + 3 < fnx σ by omega) rfl (by omega) (by decide) ?_
    refine e_int (nI (dO D o 3)) (Gr.2.2.2.1 o (by omega) 3 (by decide)) ?_
    refine e_icmp_gt 32 dX8_isOpen_25 (by decide) (fun c25 => ?_) (fun c25 => ?_)
    · rw [nI_lt' (by omega) (by omega)] at c25
      refine e_iconst (nI 0) dX8_isOpen_32 (by decide) ?_
      have hm : mopen D S o = false := (by unfold mopen; first | (rw [c5]; rfl) | (rw [c5, decide_eq_false (show ¬ S 155 ≤ dO D o 3 by omega)]; rfl))
      rw [hm] at h
      exact e_ireturn .boolean dX8_isOpen_33 rfl (by decide) h
    · rw [nI_lt' (by omega) (by omega)] at c25
      refine e_iconst (nI 1) dX8_isOpen_28 (by decide) ?_
      refine e_goto 33 dX8_isOpen_29 (by decide) ?_
      have hm : mopen D S o = true := (by unfold mopen; rw [c5, decide_eq_true (show S 155 ≤ dO D o 3 by omega)]; rfl)
      rw [hm] at h
      exact e_ireturn .boolean dX8_isOpen_33 rfl (by decide) h
set_option maxRecDepth 20000 in
theorem t_X10_isOver {g : fGP} {d : Nat} {σ : fAH} {Q : fRes → fAH → Prop} {D : fSD} {S : Nat → Nat} {sd : Int32} (Ms : fMs g σ) (Mr : fMr σ D S sd) (hD : fWD D) (hW : fWS D S) (h : Q (.inl (some (.int (nI (bn (decide (S 155 = 30))))))) σ) : fEv g (d) mX10_isOver 0 (fent [.ref 89] 1) [] σ Q := by
  have oh := hW.2.2.2.2
  show fEv g (d) mX10_isOver 0 [some (.ref 89)] [] σ Q
  refine e_aload_n dX10_isOver_0 rfl rfl ?_
  refine e_getR (q := 197) dX10_isOver_1 fl_RX10_49 (Ms.s 89 rfl) (Ms.n (by decide)) rfl (Ms.r 89 19 rfl) (by unfold fscr; omega) ?_
  refine e_sipush (nI 155) dX10_isOver_4 (by decide) ?_
  refine e_iaload 155 dX10_isOver_7 (Ms.s 197 rfl) (Ms.n (by decide)) rfl (by omega) (by decide) ?_
  refine e_int (nI (S 155)) (Mr.s 155 (by omega)) ?_
  refine e_bipush (nI 30) dX10_isOver_8 (by decide) ?_
  refine e_icmp_ne 17 dX10_isOver_10 (by decide) (fun c10 => ?_) (fun c10 => ?_)
  · rw [nI_inj (by omega) (by omega)] at c10
    refine e_iconst (nI 0) dX10_isOver_17 (by decide) ?_
    have hm : decide (S 155 = 30) = false := decide_eq_false (by omega)
    rw [hm] at h
    exact e_ireturn .boolean dX10_isOver_18 rfl (by decide) h
  · rw [nI_inj (by omega) (by omega)] at c10
    refine e_iconst (nI 1) dX10_isOver_13 (by decide) ?_
    refine e_goto 18 dX10_isOver_14 (by decide) ?_
    have hm : decide (S 155 = 30) = true := decide_eq_true (by omega)
    rw [hm] at h
    exact e_ireturn .boolean dX10_isOver_18 rfl (by decide) h
set_option maxRecDepth 20000 in
theorem t_X10_mayStray {g : fGP} {d : Nat} {σ : fAH} {Q : fRes → fAH → Prop} {D : fSD} {S : Nat → Nat} {sd : Int32} {s c9 : Nat} (Ms : fMs g σ) (Mr : fMr σ D S sd) (hD : fWD D) (hW : fWS D S) (hs : s < dT D 1) (hc : c9 < 100) (h : Q (.inl (some (.int (nI (bn (mstr D S s c9)))))) σ) : fEv g (d + 2) mX10_mayStray 0 (fent [.ref 89, .int (nI s), .int (nI c9)] 3) [] σ Q := by
  have nd : mneed D S s ≤ 6 := by unfold mneed; split <;> omega
  show fEv g (d + 2) mX10_mayStray 0 [some (.ref 89), some (.int (nI s)), some (.int (nI c9))] [] σ Q
  refine e_aload_n dX10_mayStray_0 rfl rfl ?_
  refine e_iload_n dX10_mayStray_1 rfl rfl ?_
  refine e_callV (k := 89) [.int (nI s)] dX10_mayStray_2 cc_X10_isAcross lk_RX10_174 im_X10_isAcross se_X10_isAcross (by decide) (Ms.s 89 rfl) (Ms.n (by decide)) rfl (Nat.le_of_ble_eq_true rfl) (Nat.le_of_ble_eq_true rfl) ?_
  refine t_X10_isAcross Ms Mr hD hW (by omega) (fK_i ?_)
  show fEv g _ mX10_mayStray 5 [some (.ref 89), some (.int (nI s)), some (.int (nI c9))] [.int (nI (bn (macr D s)))] σ Q
  refine e_if_eq 23 dX10_mayStray_5 (by decide) (fun c5 => ?_) (fun c5 => ?_)
  · have c5 := bn0 c5
    refine e_iconst (nI 0) dX10_mayStray_23 (by decide) ?_
    have hm : mstr D S s c9 = false := (by unfold mstr; first | (rw [c5]; rfl) | (rw [c5, decide_eq_false (show ¬ c9 < mneed D S s + 2 by omega)]; rfl))
    rw [hm] at h
    exact e_ireturn .boolean dX10_mayStray_24 rfl (by decide) h
  · have c5 := bn1 c5
    refine e_iload_n dX10_mayStray_8 rfl rfl ?_
    refine e_aload_n dX10_mayStray_9 rfl rfl ?_
    refine e_iload_n dX10_mayStray_10 rfl rfl ?_
    refine e_callV (k := 89) [.int (nI s)] dX10_mayStray_11 cc_X10_needOf lk_RX10_180 im_X10_needOf se_X10_needOf (by decide) (Ms.s 89 rfl) (Ms.n (by decide)) rfl (Nat.le_of_ble_eq_true rfl) (Nat.le_of_ble_eq_true rfl) ?_
    refine t_X10_needOf Ms Mr hD hW (by omega) (fK_i ?_)
    show fEv g _ mX10_mayStray 14 [some (.ref 89), some (.int (nI s)), some (.int (nI c9))] [.int (nI (mneed D S s)), .int (nI c9)] σ Q
    refine e_iconst (nI 2) dX10_mayStray_14 (by decide) ?_
    refine e_iadd dX10_mayStray_15 ?_
    refine e_int (nI (mneed D S s + 2)) (nI_add (mneed D S s) 2) ?_
    refine e_icmp_ge 23 dX10_mayStray_16 (by decide) (fun c16 => ?_) (fun c16 => ?_)
    · rw [nI_le' (by omega) (by omega)] at c16
      refine e_iconst (nI 0) dX10_mayStray_23 (by decide) ?_
      have hm : mstr D S s c9 = false := (by unfold mstr; first | (rw [c5]; rfl) | (rw [c5, decide_eq_false (show ¬ c9 < mneed D S s + 2 by omega)]; rfl))
      rw [hm] at h
      exact e_ireturn .boolean dX10_mayStray_24 rfl (by decide) h
    · rw [nI_le' (by omega) (by omega)] at c16
      refine e_iconst (nI 1) dX10_mayStray_19 (by decide) ?_
      refine e_goto 24 dX10_mayStray_20 (by decide) ?_
      have hm : mstr D S s c9 = true := (by unfold mstr; rw [c5, decide_eq_true (show c9 < mneed D S s + 2 by omega)]; rfl)
      rw [hm] at h
      exact e_ireturn .boolean dX10_mayStray_24 rfl (by decide) h
