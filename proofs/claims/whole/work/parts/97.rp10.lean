theorem mc_s {q : Nat} (h : q < 157) : mcA q = 197 ∧ mcI q = q := ⟨if_pos h, if_pos h⟩
theorem mc_P {k : Nat} (h : k < 30) : mcA (159 + 2 * k) = 219 ∧ mcI (159 + 2 * k) = k := by
  unfold mcA mcI
  rw [if_neg (by omega), if_neg (by omega), if_pos (by omega), if_neg (by omega), if_neg (by omega), if_pos (by omega)]
  omega
theorem mc_C {k : Nat} (h : k < 30) : mcA (160 + 2 * k) = 220 ∧ mcI (160 + 2 * k) = k := by
  unfold mcA mcI
  rw [if_neg (by omega), if_neg (by omega), if_pos (by omega), if_neg (by omega), if_neg (by omega), if_pos (by omega)]
  omega
theorem mc_R {r : Nat} (h : r < 60) : (mcA (219 + 2 * r) = 222 + r ∧ mcI (219 + 2 * r) = 0) ∧ mcA (220 + 2 * r) = 222 + r ∧ mcI (220 + 2 * r) = 1 := by
  unfold mcA mcI
  rw [if_neg (by omega), if_neg (by omega), if_neg (by omega), if_pos (by omega), if_neg (by omega), if_neg (by omega), if_neg (by omega), if_pos (by omega), if_neg (by omega), if_neg (by omega), if_neg (by omega), if_pos (by omega), if_neg (by omega), if_neg (by omega), if_neg (by omega), if_pos (by omega)]
  omega
theorem mc_T {r c : Nat} (h : r < 12) (hc : c < 4) : mcA (339 + 4 * r + c) = 283 + r ∧ mcI (339 + 4 * r + c) = c := by
  unfold mcA mcI
  rw [if_neg (by omega), if_neg (by omega), if_neg (by omega), if_neg (by omega), if_neg (by omega), if_neg (by omega), if_neg (by omega), if_neg (by omega)]
  omega
theorem fKp.put {σ σ' : fAH} {o : Nat} {D : fSD} {i : fIm} (hm : ∀ q, q < 387 → fI σ' o q = fI σ (mcA q) (mcI q)) (Mr : fMr σ D (iS i) (iq i)) (Mt : fMt σ (iS i) (iT i)) (Rc : fRc σ i) (b1 : ipn i ≤ 30) (b2 : irn i ≤ 60) (b3 : iS i 155 ≤ 30) (b4 : iS i 152 ≤ 12) : fKp σ' o i := by
  refine ⟨fun q hq => ⟨?_, (Mr.2.2.2.2.2.1 q hq).2⟩, ?_, ?_, ?_, fun k hk => ?_, fun k hk => ?_, fun r hr => ⟨?_, ?_⟩, fun r hr c hc => ?_⟩
  · rw [hm q (by omega), (mc_s (by omega)).1, (mc_s (by omega)).2]; exact (Mr.2.2.2.2.2.1 q hq).1
  · rw [hm 156 (by omega)]; exact Mr.2.2.2.2.2.2
  · rw [hm 157 (by omega)]; exact Rc.1
  · rw [hm 158 (by omega)]; exact Rc.2.2.1
  · rw [hm _ (by omega), (mc_P (by omega)).1, (mc_P (by omega)).2]; exact Rc.2.1 k hk
  · rw [hm _ (by omega), (mc_C (by omega)).1, (mc_C (by omega)).2]; exact Mt.2 k hk
  · rw [hm _ (by omega), (mc_R (by omega)).1.1, (mc_R (by omega)).1.2]; exact (Rc.2.2.2 r hr).1
  · rw [hm _ (by omega), (mc_R (by omega)).2.1, (mc_R (by omega)).2.2]; exact (Rc.2.2.2 r hr).2
  · rw [hm _ (by omega), (mc_T (by omega) hc).1, (mc_T (by omega) hc).2]; exact Mt.1 r hr c hc
theorem fKp.get {σ σ' : fAH} {o : Nat} {i : fIm} (K : fKp σ o i) (hm : ∀ q, q < 387 → fI σ' (mcA q) (mcI q) = fI σ o q) (b1 : ipn i ≤ 30) (b2 : irn i ≤ 60) (b3 : iS i 155 ≤ 30) (b4 : iS i 152 ≤ 12) : ((∀ q, q < 156 → fI σ' 197 q = nI (iS i q) ∧ iS i q < 100000) ∧ fI σ' 197 156 = iq i) ∧ fMt σ' (iS i) (iT i) ∧ fRc σ' i := by
  obtain ⟨k1, k2, k3, k4, k5, k6, k7, k8⟩ := K
  have hs : ∀ q, q < 157 → fI σ' 197 q = fI σ o q := fun q hq => by
    have := hm q (by omega)
    rw [(mc_s hq).1, (mc_s hq).2] at this
    exact this
  refine ⟨⟨fun q hq => ⟨(hs q (by omega)).trans (k1 q hq).1, (k1 q hq).2⟩, (hs 156 (by omega)).trans k2⟩, ⟨fun r hr c hc => ?_, fun t ht => ?_⟩, ⟨(hm 157 (by omega)).trans k3, fun k hk => ?_, (hm 158 (by omega)).trans k4, fun r hr => ⟨?_, ?_⟩⟩⟩
  · have h := hm (339 + 4 * r + c) (by omega)
    rw [(mc_T (by omega) hc).1, (mc_T (by omega) hc).2] at h
    exact h.trans (k8 r hr c hc)
  · have h := hm (160 + 2 * t) (by omega)
    rw [(mc_C (by omega)).1, (mc_C (by omega)).2] at h
    exact h.trans (k6 t ht)
  · have h := hm (159 + 2 * k) (by omega)
    rw [(mc_P (by omega)).1, (mc_P (by omega)).2] at h
    exact h.trans (k5 k hk)
  · have h := hm (219 + 2 * r) (by omega)
    rw [(mc_R (by omega)).1.1, (mc_R (by omega)).1.2] at h
    exact h.trans (k7 r hr).1
  · have h := hm (220 + 2 * r) (by omega)
    rw [(mc_R (by omega)).2.1, (mc_R (by omega)).2.2] at h
    exact h.trans (k7 r hr).2
theorem fMr.pt {σ σ1 : fAH} {D : fSD} {S S' : Nat → Nat} {sd sd' : Int32} (h : fMr σ D S sd) (hD : fWD D) (k : ∀ a q, a < 197 → a ≠ 89 → fI σ1 a q = fI σ a q) (hs : (∀ q, q < 156 → fI σ1 197 q = nI (S' q) ∧ S' q < 100000) ∧ fI σ1 197 156 = sd') : fMr σ1 D S' sd' := by
  obtain ⟨t0, t1, t2, t3, t4, t5, t6⟩ := id hD.1
  obtain ⟨h1, h2, h3, h4, h5, h6, h7⟩ := h
  refine ⟨fun i hi => ?_, fun b hb c hc => ?_, fun b hb c hc => ?_, fun b hb c hc => ?_, fun b hb c hc => ?_, hs.1, hs.2⟩
  · rw [k _ _ (by omega) (by omega)]; exact h1 i hi
  · rw [k _ _ (by omega) (by omega)]; exact h2 b hb c hc
  · rw [k _ _ (by omega) (by omega)]; exact h3 b hb c hc
  · rw [k _ _ (by omega) (by omega)]; exact h4 b hb c hc
  · rw [k _ _ (by omega) (by omega)]; exact h5 b hb c hc
set_option maxRecDepth 20000 in
theorem lp_X10_imageN {g : fGP} {d : Nat} {σ : fAH} {Q : fRes → fAH → Prop} {x : fXS}  (Ms : fMs g σ) (ok : fOK x) (Ir : fIr σ x) (hz : fI σ 89 0 = nI 0) (hi : xm x = 3) (h : ∀ σ', fSm fRfA σ σ' → fIr σ' x → fI σ' 89 0 = nI 0 → Q (.inl (some (.int (-1)))) σ') : fEv g (d + 2) mX10_image 5 [some (.ref 89)] [] σ Q := by
  obtain ⟨D, ⟨S, T, sd, pn, P, rn, R⟩, B, tp, pl, im, Im⟩ := x
  have hD : fWD D := ok.1
  have hW : fWS D S := ok.2.1.1
  have hC : fWC D S := ok.2.1.2.1
  have hN : fWN S 0 0 := ok.2.1.2.2.1
  have Mr : fMr σ D S sd := Ir.1
  have Mt : fMt σ S T := Ir.2.1
  obtain ⟨t0, t1, t2, t3, t4, t5, t6⟩ := id hD.1
  have np := hW.n hD
  have n5 := hW.2.2.2.2
  have tp6 : tp ≤ 600 := ok.2.2.2.1
  have im3 : im ≤ 3 := ok.2.2.2.2.1
  have pn3 : pn ≤ 30 := ok.2.1.2.2.2.1
  have rn6 : rn ≤ 60 := ok.2.1.2.2.2.2.2.1
  have Rc : fRc σ (S, T, sd, pn, P, rn, R) := Ir.2.2.2.2.1
  have w52 := hW.1
  have hi : im = 3 := hi
  show fEv g (d + 2) mX10_image 5 [some (.ref 89)] [] σ Q
  refine e_aload_n dX10_image_5 rfl rfl ?_
  refine e_getI dX10_image_6 fl_RX10_165 (Ms.s 89 rfl) (Ms.n (by decide)) rfl ?_
  refine e_int (nI im) Ir.2.2.1.2.2.2.2.2 ?_
  refine e_iconst (nI 3) dX10_image_9 (by decide) ?_
  refine e_icmp_ne 15 dX10_image_10 (by decide) (fun c10 => ?_) (fun c10 => ?_)
  · rw [nI_inj (by omega) (by omega)] at c10
    exact absurd hi c10
  · rw [nI_inj (by omega) (by omega)] at c10
    refine e_iconst (-1) dX10_image_13 (by decide) ?_
    exact e_ireturn .int dX10_image_14 rfl rfl (h σ fSm.rfl' Ir hz)
set_option maxRecDepth 20000 in
theorem t_X10_imageN {g : fGP} {d : Nat} {σ : fAH} {Q : fRes → fAH → Prop} {x : fXS}  (Ms : fMs g σ) (ok : fOK x) (Ir : fIr σ x) (hi : xm x = 3) (h : ∀ σ', fSm fRfA σ σ' → fIr σ' x → fI σ' 89 0 = nI 0 → Q (.inl (some (.int (-1)))) σ') : fEv g (d + 2) mX10_image 0 (fent [.ref 89] 1) [] σ Q := by
  have S9 : fSm (fun a => a = 89) σ (fsI σ 89 0 (nI 0)) := fSm_I rfl
  show fEv g (d + 2) mX10_image 0 [some (.ref 89)] [] σ Q
  refine e_aload_n dX10_image_0 rfl rfl ?_
  refine e_iconst (nI 0) dX10_image_1 (by decide) ?_
  refine e_putI dX10_image_2 fl_RX10_76 (Ms.s 89 rfl) (Ms.n (by decide)) rfl rfl ?_
  exact lp_X10_imageN (Ms.sm S9) ok (Ir.f0 ok S9 (fun a (q : a = 89) => Or.inl (by omega)) (fun j hj => by simp only [List.mem_cons, List.not_mem_nil, or_false] at hj; rw [fI_I, if_neg (by omega)])) (by rw [fI_I, if_pos ⟨rfl, rfl⟩]) hi (fun σ' Sm' => h σ' ((S9.to (fun a (q : a = 89) => by unfold fRfA; omega)).tr Sm'))
set_option maxRecDepth 20000 in
theorem lp_X10_image {g : fGP} {d : Nat} {σ : fAH} {Q : fRes → fAH → Prop} {x : fXS}  (Ms : fMs g σ) (ok : fOK x) (Ir : fIr σ x) (hz : fI σ 89 0 = nI 0) (hi : xm x < 3) (h : ∀ σ', fSm fRfA σ σ' → fIr σ' (xImg x) → fI σ' 89 0 = nI 0 → Q (.inl (some (.int (nI (xm x + 1))))) σ') : fEv g (d + 2) mX10_image 5 [some (.ref 89)] [] σ Q := by
  obtain ⟨D, ⟨S, T, sd, pn, P, rn, R⟩, B, tp, pl, im, Im⟩ := x
  have hD : fWD D := ok.1
  have hW : fWS D S := ok.2.1.1
  have hC : fWC D S := ok.2.1.2.1
  have hN : fWN S 0 0 := ok.2.1.2.2.1
  have Mr : fMr σ D S sd := Ir.1
  have Mt : fMt σ S T := Ir.2.1
  obtain ⟨t0, t1, t2, t3, t4, t5, t6⟩ := id hD.1
  have np := hW.n hD
  have n5 := hW.2.2.2.2
  have tp6 : tp ≤ 600 := ok.2.2.2.1
  have im3 : im ≤ 3 := ok.2.2.2.2.1
  have pn3 : pn ≤ 30 := ok.2.1.2.2.2.1
  have rn6 : rn ≤ 60 := ok.2.1.2.2.2.2.2.1
  have Rc : fRc σ (S, T, sd, pn, P, rn, R) := Ir.2.2.2.2.1
  have w52 := hW.1
  have hi : im < 3 := hi
  have w12 : S 152 ≤ 12 := by have := hW.1.2; omega
  show fEv g (d + 2) mX10_image 5 [some (.ref 89)] [] σ Q
  refine e_aload_n dX10_image_5 rfl rfl ?_
  refine e_getI dX10_image_6 fl_RX10_165 (Ms.s 89 rfl) (Ms.n (by decide)) rfl ?_
  refine e_int (nI im) Ir.2.2.1.2.2.2.2.2 ?_
  refine e_iconst (nI 3) dX10_image_9 (by decide) ?_
  refine e_icmp_ne 15 dX10_image_10 (by decide) (fun _ => ?_) (fun c => absurd ((nI_inj (by omega) (by omega)).mp c) (by omega))
  refine e_aload_n dX10_image_15 rfl rfl ?_
  refine e_aload_n dX10_image_16 rfl rfl ?_
  refine e_getR (q := 295) dX10_image_17 fl_RX10_67 (Ms.s 89 rfl) (Ms.n (by decide)) rfl (Ms.r 89 30 rfl) (by unfold fscr; omega) ?_
  refine e_aload_n dX10_image_20 rfl rfl ?_
  refine e_getI dX10_image_21 fl_RX10_165 (Ms.s 89 rfl) (Ms.n (by decide)) rfl ?_
  refine e_int (nI im) Ir.2.2.1.2.2.2.2.2 ?_
  refine e_aaload (q := 296 + im) im dX10_image_24 (Ms.s 295 rfl) (by decide) (Ms.n (by decide)) rfl (by omega) (by decide) (Ms.r 295 _ (frf_kept _ (by omega))) (by unfold fscr; omega) ?_
  refine e_iconst (nI 0) dX10_image_25 (by decide) ?_
  refine e_callV (k := 89) [.ref (296 + im), .int (nI 0)] dX10_image_26 cc_X10_movesAll lk_RX10_323 im_X10_movesAll se_X10_movesAll (by decide) (Ms.s 89 rfl) (Ms.n (by decide)) rfl (Nat.le_of_ble_eq_true rfl) (Nat.le_of_ble_eq_true rfl) ?_
  refine t_X10_movesAll0 (j := im) Ms hi (fun σ1 J1 => fK_v ?_)
  show fEv g _ mX10_image 29 [some (.ref 89)] [] σ1 Q
  have Ms1 := J1.1
  have e1 : ∀ a q, a ≠ 296 + im → ¬ (a = 89 ∧ q = 25) → fI σ1 a q = fI σ a q := J1.2.2.2.2
  refine e_aload_n dX10_image_29 rfl rfl ?_
  refine e_dup dX10_image_30 rfl ?_
  refine e_getI dX10_image_31 fl_RX10_165 (Ms1.s 89 rfl) (Ms1.n (by decide)) rfl ?_
  refine e_int (nI im) ((e1 89 24 (by omega) (by omega)).trans Ir.2.2.1.2.2.2.2.2) ?_
  refine e_iconst (nI 1) dX10_image_34 (by decide) ?_
  refine e_iadd dX10_image_35 ?_
  refine e_int (nI (im + 1)) (nI_add im 1) ?_
  refine e_putI dX10_image_36 fl_RX10_165 (Ms1.s 89 rfl) (Ms1.n (by decide)) rfl rfl ?_
  refine e_aload_n dX10_image_39 rfl rfl ?_
  refine e_getI dX10_image_40 fl_RX10_165 (Ms1.s 89 rfl) (Ms1.n (by decide)) rfl ?_
  refine e_int (nI (im + 1)) (by rw [fI_I, if_pos ⟨rfl, rfl⟩]) ?_
  have eH : ∀ a q, a ≠ 296 + im → ¬ (a = 89 ∧ (q = 25 ∨ q = 24)) → fI (fsI σ1 89 24 (nI (im + 1))) a q = fI σ a q := fun a q h1 h2 => by rw [fI_I, if_neg (by omega)]; exact e1 a q h1 (by omega)
  have A9 : fSm fRfA σ (fsI σ1 89 24 (nI (im + 1))) := (J1.2.1.to (fun a q => by unfold fMvA at q; unfold fRfA; omega)).tr (fSm_I (by unfold fRfA; omega))
  have f9 : ∀ j, j ≠ 24 → j ≠ 25 → fI (fsI σ1 89 24 (nI (im + 1))) 89 j = fI σ 89 j := fun j h1 h2 => eH 89 j (by omega) (by omega)
  refine e_ireturn .int dX10_image_43 rfl rfl (h _ A9 ⟨?_, Mt.cg hD hW (fun q => eH 220 q (by omega) (by omega)) (fun r hr q => eH (283 + r) q (by omega) (by omega)), ⟨(f9 21 (by decide) (by decide)).trans Ir.2.2.1.1, (f9 31 (by decide) (by decide)).trans Ir.2.2.1.2.1, (f9 33 (by decide) (by decide)).trans Ir.2.2.1.2.2.1, (f9 1 (by decide) (by decide)).trans Ir.2.2.1.2.2.2.1, (f9 3 (by decide) (by decide)).trans Ir.2.2.1.2.2.2.2.1, by rw [fI_I, if_pos ⟨rfl, rfl⟩]; rfl⟩, fun i hi => (eH 90 i (by omega) (by omega)).trans (Ir.2.2.2.1 i hi), Rc.cg rn6 (f9 22 (by decide) (by decide)) (f9 23 (by decide) (by decide)) (fun q => eH 219 q (by omega) (by omega)) (fun r hr q => eH (222 + r) q (by omega) (by omega)), fun j hj => ?_⟩ ((f9 0 (by decide) (by decide)).trans hz))
  · exact Mr.pt hD (fun a q h1 h2 => eH a q (by omega) (by omega)) ⟨fun q hq => ⟨(eH 197 q (by omega) (by omega)).trans (Mr.2.2.2.2.2.1 q hq).1, (Mr.2.2.2.2.2.1 q hq).2⟩, (eH 197 156 (by omega) (by omega)).trans Mr.2.2.2.2.2.2⟩
  · have hj : j < im + 1 := hj
    show fKp (fsI σ1 89 24 (nI (im + 1))) (296 + j) (if j = im then (S, T, sd, pn, P, rn, R) else Im j)
    by_cases e : j = im
    · rw [if_pos e, e]
      exact fKp.put (D := D) (σ := σ) (fun q hq => by rw [fI_I, if_neg (by omega)]; exact J1.2.2.2.1 q hq) Mr Mt Rc pn3 rn6 n5 w12
    · rw [if_neg e]
      exact (Ir.2.2.2.2.2 j (show j < im by omega)).cg (fun q => eH (296 + j) q (by omega) (by omega))
set_option maxRecDepth 20000 in
theorem t_X10_image {g : fGP} {d : Nat} {σ : fAH} {Q : fRes → fAH → Prop} {x : fXS}  (Ms : fMs g σ) (ok : fOK x) (Ir : fIr σ x) (hi : xm x < 3) (h : ∀ σ', fSm fRfA σ σ' → fIr σ' (xImg x) → fI σ' 89 0 = nI 0 → Q (.inl (some (.int (nI (xm x + 1))))) σ') : fEv g (d + 2) mX10_image 0 (fent [.ref 89] 1) [] σ Q := by
  have S9 : fSm (fun a => a = 89) σ (fsI σ 89 0 (nI 0)) := fSm_I rfl
  show fEv g (d + 2) mX10_image 0 [some (.ref 89)] [] σ Q
  refine e_aload_n dX10_image_0 rfl rfl ?_
  refine e_iconst (nI 0) dX10_image_1 (by decide) ?_
  refine e_putI dX10_image_2 fl_RX10_76 (Ms.s 89 rfl) (Ms.n (by decide)) rfl rfl ?_
  exact lp_X10_image (Ms.sm S9) ok (Ir.f0 ok S9 (fun a (q : a = 89) => Or.inl (by omega)) (fun j hj => by simp only [List.mem_cons, List.not_mem_nil, or_false] at hj; rw [fI_I, if_neg (by omega)])) (by rw [fI_I, if_pos ⟨rfl, rfl⟩]) hi (fun σ' Sm' => h σ' ((S9.to (fun a (q : a = 89) => by unfold fRfA; omega)).tr Sm'))
set_option maxRecDepth 20000 in
theorem lp_X10_restoreN {g : fGP} {d : Nat} {σ : fAH} {Q : fRes → fAH → Prop} {x : fXS}  (Ms : fMs g σ) (ok : fOK x) (Ir : fIr σ x) (hz : fI σ 89 0 = nI 0) (hi : xm x = 0) (h : ∀ σ', fSm fRfA σ σ' → fIr σ' x → fI σ' 89 0 = nI 0 → Q (.inl (some (.int (-1)))) σ') : fEv g (d + 2) mX10_restore 5 [some (.ref 89)] [] σ Q := by
  obtain ⟨D, ⟨S, T, sd, pn, P, rn, R⟩, B, tp, pl, im, Im⟩ := x
  have hD : fWD D := ok.1
  have hW : fWS D S := ok.2.1.1
  have hC : fWC D S := ok.2.1.2.1
  have hN : fWN S 0 0 := ok.2.1.2.2.1
  have Mr : fMr σ D S sd := Ir.1
  have Mt : fMt σ S T := Ir.2.1
  obtain ⟨t0, t1, t2, t3, t4, t5, t6⟩ := id hD.1
  have np := hW.n hD
  have n5 := hW.2.2.2.2
  have tp6 : tp ≤ 600 := ok.2.2.2.1
  have im3 : im ≤ 3 := ok.2.2.2.2.1
  have pn3 : pn ≤ 30 := ok.2.1.2.2.2.1
  have rn6 : rn ≤ 60 := ok.2.1.2.2.2.2.2.1
  have Rc : fRc σ (S, T, sd, pn, P, rn, R) := Ir.2.2.2.2.1
  have w52 := hW.1
  have hi : im = 0 := hi
  show fEv g (d + 2) mX10_restore 5 [some (.ref 89)] [] σ Q
  refine e_aload_n dX10_restore_5 rfl rfl ?_
  refine e_getI dX10_restore_6 fl_RX10_165 (Ms.s 89 rfl) (Ms.n (by decide)) rfl ?_
  refine e_int (nI im) Ir.2.2.1.2.2.2.2.2 ?_
  refine e_if_ne 14 dX10_restore_9 (by decide) (fun c9 => ?_) (fun c9 => ?_)
  · rw [nI_z (by omega)] at c9
    exact absurd hi c9
  · rw [nI_z (by omega)] at c9
    refine e_iconst (-1) dX10_restore_12 (by decide) ?_
    exact e_ireturn .int dX10_restore_13 rfl rfl (h σ fSm.rfl' Ir hz)
set_option maxRecDepth 20000 in
theorem t_X10_restoreN {g : fGP} {d : Nat} {σ : fAH} {Q : fRes → fAH → Prop} {x : fXS}  (Ms : fMs g σ) (ok : fOK x) (Ir : fIr σ x) (hi : xm x = 0) (h : ∀ σ', fSm fRfA σ σ' → fIr σ' x → fI σ' 89 0 = nI 0 → Q (.inl (some (.int (-1)))) σ') : fEv g (d + 2) mX10_restore 0 (fent [.ref 89] 1) [] σ Q := by
  have S9 : fSm (fun a => a = 89) σ (fsI σ 89 0 (nI 0)) := fSm_I rfl
  show fEv g (d + 2) mX10_restore 0 [some (.ref 89)] [] σ Q
  refine e_aload_n dX10_restore_0 rfl rfl ?_
  refine e_iconst (nI 0) dX10_restore_1 (by decide) ?_
  refine e_putI dX10_restore_2 fl_RX10_76 (Ms.s 89 rfl) (Ms.n (by decide)) rfl rfl ?_
  exact lp_X10_restoreN (Ms.sm S9) ok (Ir.f0 ok S9 (fun a (q : a = 89) => Or.inl (by omega)) (fun j hj => by simp only [List.mem_cons, List.not_mem_nil, or_false] at hj; rw [fI_I, if_neg (by omega)])) (by rw [fI_I, if_pos ⟨rfl, rfl⟩]) hi (fun σ' Sm' => h σ' ((S9.to (fun a (q : a = 89) => by unfold fRfA; omega)).tr Sm'))
set_option maxRecDepth 20000 in
theorem lp_X10_restore {g : fGP} {d : Nat} {σ : fAH} {Q : fRes → fAH → Prop} {x : fXS}  (Ms : fMs g σ) (ok : fOK x) (Ir : fIr σ x) (hz : fI σ 89 0 = nI 0) (hi : 0 < xm x) (h : ∀ σ', fSm fRfA σ σ' → fIr σ' (xRst x) → fI σ' 89 0 = nI 0 → Q (.inl (some (.int (nI (xm x - 1))))) σ') : fEv g (d + 2) mX10_restore 5 [some (.ref 89)] [] σ Q := by
  obtain ⟨D, ⟨S, T, sd, pn, P, rn, R⟩, B, tp, pl, im, Im⟩ := x
  have hD : fWD D := ok.1
  have hW : fWS D S := ok.2.1.1
  have hC : fWC D S := ok.2.1.2.1
  have hN : fWN S 0 0 := ok.2.1.2.2.1
  have Mr : fMr σ D S sd := Ir.1
  have Mt : fMt σ S T := Ir.2.1
  obtain ⟨t0, t1, t2, t3, t4, t5, t6⟩ := id hD.1
  have np := hW.n hD
  have n5 := hW.2.2.2.2
  have tp6 : tp ≤ 600 := ok.2.2.2.1
  have im3 : im ≤ 3 := ok.2.2.2.2.1
  have pn3 : pn ≤ 30 := ok.2.1.2.2.2.1
  have rn6 : rn ≤ 60 := ok.2.1.2.2.2.2.2.1
  have Rc : fRc σ (S, T, sd, pn, P, rn, R) := Ir.2.2.2.2.1
  have w52 := hW.1
  have hi : 0 < im := hi
  show fEv g (d + 2) mX10_restore 5 [some (.ref 89)] [] σ Q
  refine e_aload_n dX10_restore_5 rfl rfl ?_
  refine e_getI dX10_restore_6 fl_RX10_165 (Ms.s 89 rfl) (Ms.n (by decide)) rfl ?_
  refine e_int (nI im) Ir.2.2.1.2.2.2.2.2 ?_
  refine e_if_ne 14 dX10_restore_9 (by decide) (fun _ => ?_) (fun c => absurd ((nI_z (by omega)).mp c) (by omega))
  refine e_aload_n dX10_restore_14 rfl rfl ?_
  refine e_dup dX10_restore_15 rfl ?_
  refine e_getI dX10_restore_16 fl_RX10_165 (Ms.s 89 rfl) (Ms.n (by decide)) rfl ?_
  refine e_int (nI im) Ir.2.2.1.2.2.2.2.2 ?_
  refine e_iconst (nI 1) dX10_restore_19 (by decide) ?_
  refine e_isub dX10_restore_20 ?_
  refine e_int (nI (im - 1)) (pk_sub (by omega)) ?_
  refine e_putI dX10_restore_21 fl_RX10_165 (Ms.s 89 rfl) (Ms.n (by decide)) rfl rfl ?_
  refine e_aload_n dX10_restore_24 rfl rfl ?_
  refine e_aload_n dX10_restore_25 rfl rfl ?_
  refine e_getR (q := 295) dX10_restore_26 fl_RX10_67 (Ms.s 89 rfl) (Ms.n (by decide)) rfl (Ms.r 89 30 rfl) (by unfold fscr; omega) ?_
  refine e_aload_n dX10_restore_29 rfl rfl ?_
  refine e_getI dX10_restore_30 fl_RX10_165 (Ms.s 89 rfl) (Ms.n (by decide)) rfl ?_
  refine e_int (nI (im - 1)) (by rw [fI_I, if_pos ⟨rfl, rfl⟩]) ?_
  refine e_aaload (q := 296 + (im - 1)) (im - 1) dX10_restore_33 (Ms.s 295 rfl) (by decide) (Ms.n (by decide)) rfl (by omega) (by decide) (Ms.r 295 _ (frf_kept _ (by omega))) (by unfold fscr; omega) ?_
  refine e_iconst (nI 1) dX10_restore_34 (by decide) ?_
  refine e_callV (k := 89) [.ref (296 + (im - 1)), .int (nI 1)] dX10_restore_35 cc_X10_movesAll lk_RX10_323 im_X10_movesAll se_X10_movesAll (by decide) (Ms.s 89 rfl) (Ms.n (by decide)) rfl (Nat.le_of_ble_eq_true rfl) (Nat.le_of_ble_eq_true rfl) ?_
  refine t_X10_movesAll1 (σ := fsI σ 89 24 (nI (im - 1))) (j := im - 1) (Ms.sm (A := fun a => a = 89) (fSm_I rfl)) (by omega) (fun σ1 J1 => fK_v ?_)
  show fEv g _ mX10_restore 38 [some (.ref 89)] [] σ1 Q
  have Ms1 := J1.1
  have e1 : ∀ a q, (a ≠ 197 ∧ a ≠ 219 ∧ a ≠ 220 ∧ ¬ (222 ≤ a ∧ a < 282) ∧ ¬ (283 ≤ a ∧ a < 295)) → ¬ (a = 89 ∧ (q = 22 ∨ q = 23 ∨ q = 25)) → fI σ1 a q = fI (fsI σ 89 24 (nI (im - 1))) a q := fun a q h1 h2 => J1.2.2.2.2 a q (fun p hp q9 => by have := mc_r hp; omega) (by omega)
  refine e_aload_n dX10_restore_38 rfl rfl ?_
  refine e_getI dX10_restore_39 fl_RX10_165 (Ms1.s 89 rfl) (Ms1.n (by decide)) rfl ?_
  refine e_int (nI (im - 1)) ((e1 89 24 (by omega) (by omega)).trans (by rw [fI_I, if_pos ⟨rfl, rfl⟩])) ?_
  have eH : ∀ a q, (a ≠ 197 ∧ a ≠ 219 ∧ a ≠ 220 ∧ ¬ (222 ≤ a ∧ a < 282) ∧ ¬ (283 ≤ a ∧ a < 295)) → ¬ (a = 89 ∧ (q = 22 ∨ q = 23 ∨ q = 24 ∨ q = 25)) → fI σ1 a q = fI σ a q := fun a q h1 h2 => (e1 a q h1 (by omega)).trans (by rw [fI_I, if_neg (by omega)])
  have A9 : fSm fRfA σ σ1 := (fSm_I (A := fRfA) (by unfold fRfA; omega)).tr (J1.2.1.to (fun a q => by unfold fMvA at q; unfold fRfA; omega))
  have f9 : ∀ j, j ≠ 22 → j ≠ 23 → j ≠ 24 → j ≠ 25 → fI σ1 89 j = fI σ 89 j := fun j h1 h2 h3 h4 => eH 89 j (by omega) (by omega)
  have hO := ok.2.2.2.2.2 (im - 1) (show im - 1 < im by omega)
  have hO : fOI D (Im (im - 1)) := hO
  have wi := hO.1.1.2
  have K9 := (Ir.2.2.2.2.2 (im - 1) (show im - 1 < im by omega)).get (σ' := σ1) (fun q hq => (J1.2.2.2.1 q hq).trans (by rw [fI_I, if_neg (by omega)])) hO.2.2.2.1 hO.2.2.2.2.2.1 hO.1.2.2.2.2 (show iS (Im (im - 1)) 152 ≤ 12 by omega)
  refine e_ireturn .int dX10_restore_42 rfl rfl (h σ1 A9 ⟨Mr.pt hD (fun a q h1 h2 => eH a q (by omega) (by omega)) K9.1, K9.2.1, ⟨(f9 21 (by decide) (by decide) (by decide) (by decide)).trans Ir.2.2.1.1, (f9 31 (by decide) (by decide) (by decide) (by decide)).trans Ir.2.2.1.2.1, (f9 33 (by decide) (by decide) (by decide) (by decide)).trans Ir.2.2.1.2.2.1, (f9 1 (by decide) (by decide) (by decide) (by decide)).trans Ir.2.2.1.2.2.2.1, (f9 3 (by decide) (by decide) (by decide) (by decide)).trans Ir.2.2.1.2.2.2.2.1, (e1 89 24 (by omega) (by omega)).trans (by rw [fI_I, if_pos ⟨rfl, rfl⟩]; rfl)⟩, fun i hi => (eH 90 i (by omega) (by omega)).trans (Ir.2.2.2.1 i hi), K9.2.2, fun j hj => ?_⟩ ((f9 0 (by decide) (by decide) (by decide) (by decide)).trans hz))
  have hj : j < im - 1 := hj
  exact (Ir.2.2.2.2.2 j (show j < im by omega)).cg (fun q => eH (296 + j) q (by omega) (by omega))
set_option maxRecDepth 20000 in
theorem t_X10_restore {g : fGP} {d : Nat} {σ : fAH} {Q : fRes → fAH → Prop} {x : fXS}  (Ms : fMs g σ) (ok : fOK x) (Ir : fIr σ x) (hi : 0 < xm x) (h : ∀ σ', fSm fRfA σ σ' → fIr σ' (xRst x) → fI σ' 89 0 = nI 0 → Q (.inl (some (.int (nI (xm x - 1))))) σ') : fEv g (d + 2) mX10_restore 0 (fent [.ref 89] 1) [] σ Q := by
  have S9 : fSm (fun a => a = 89) σ (fsI σ 89 0 (nI 0)) := fSm_I rfl
  show fEv g (d + 2) mX10_restore 0 [some (.ref 89)] [] σ Q
  refine e_aload_n dX10_restore_0 rfl rfl ?_
  refine e_iconst (nI 0) dX10_restore_1 (by decide) ?_
  refine e_putI dX10_restore_2 fl_RX10_76 (Ms.s 89 rfl) (Ms.n (by decide)) rfl rfl ?_
  exact lp_X10_restore (Ms.sm S9) ok (Ir.f0 ok S9 (fun a (q : a = 89) => Or.inl (by omega)) (fun j hj => by simp only [List.mem_cons, List.not_mem_nil, or_false] at hj; rw [fI_I, if_neg (by omega)])) (by rw [fI_I, if_pos ⟨rfl, rfl⟩]) hi (fun σ' Sm' => h σ' ((S9.to (fun a (q : a = 89) => by unfold fRfA; omega)).tr Sm'))
