set_option maxRecDepth 20000 in
theorem fZx : fZ 89 (xRf fR0) fI00 fJ00 := by
  unfold xRf
  repeat' first | exact fZ0.to (Nat.zero_le _) | refine fZ.up ?_ (by decide) | refine fZ.yR ?_ (by decide) | refine fZ.dR ?_ (by decide) | refine fZ.gR ?_ (by decide) | refine fZ.tR ?_ (by decide) | refine fZ.rR ?_ (by decide) | refine fZ.oR ?_ (by decide)
theorem frft_300 {a : Nat} (h : 300 ≤ a) (j : Nat) : frft a j = none := by
  by_cases e : a = 300
  · subst e
    unfold frft
    rw [show frl.getD 300 [] = [] from by decide +kernel]
    rfl
  · exact frft_hi (by omega)
/-- the law, from its first instruction -/
theorem law_start {g : fGP} {d : Nat} {Q : fRes → fAH → Prop} (hG : gsh g = fshp) (hL : gLL g ≤ 3072) (h : ∀ σ, Q (.inl (some (.int (nI 1)))) σ) : fEv g (d + 45) mL_law 0 [some (.ref fscr), none, none, none, none, none, none, none] [] ((0, 0, 0), fR0, fI00, fJ00) Q := by
  have hsh : ∀ (k : Nat) {x : Nat ⊕ (Nat × Nat)}, fshp k = x → gsh g k = x := fun k x e => by rw [hG]; exact e
  refine n_new (c9 := 8) 1 17 dL_law_0 nw_RL_8 (by decide) fZ0 (hsh 0 rfl) (by decide) (by decide) (by decide) (by decide) ?_
  refine e_dup dL_law_3 rfl ?_
  refine e_callI (k := 0) [] dL_law_4 cc_X9_init rfl lk_RL_84 im_X9_init rfl rfl (Nat.le_of_ble_eq_true rfl) (Nat.le_of_ble_eq_true rfl) ?_
  refine t_X9_init hsh fZ0 (fun I1 J1 a1 b1 c1 g1 => fK_v ?_)
  show fEv g _ mL_law 7 [some (.ref fscr), none, none, none, none, none, none, none] [.ref 0] ((89, 0, 3391), xRf fR0, I1, J1) Q
  have z1 : fZ 89 (xRf fR0) I1 J1 := fZx.ij (fun a ha => a1 a (by omega))
  refine e_astore_n (L1 := [some (.ref fscr), some (.ref 0), none, none, none, none, none, none]) dL_law_7 rfl (by decide) rfl ?_
  refine n_new (c9 := 9) 90 3427 dL_law_8 nw_RL_85 (by decide) z1 (hsh 89 rfl) (by decide) (by decide) (by decide) (by decide) ?_
  refine e_dup dL_law_11 rfl ?_
  refine e_callI (k := 89) [] dL_law_12 cc_X10_init rfl lk_RL_87 im_X10_init rfl rfl (Nat.le_of_ble_eq_true rfl) (Nat.le_of_ble_eq_true rfl) ?_
  refine t_X10_init hsh z1 (by decide) (fun I2 J2 a2 b2 c2 => fK_v ?_)
  show fEv g _ mL_law 15 [some (.ref fscr), some (.ref 0), none, none, none, none, none, none] [.ref 89] ((300, 0, 9388), zRf (xRf fR0), I2, J2) Q
  rw [R_end]
  have zI : ∀ a, ¬ (a = 0 ∨ (2 ≤ a ∧ a < 15)) → ¬ (a = 89 ∨ a = 91 ∨ a = 92) → I2 a = fI00 a ∧ (300 ≤ a → J2 a = fJ00 a) := fun a h1 h2 => ⟨(a2 a h2).1.trans (a1 a h1).1, fun _ => (a2 a h2).2.trans (a1 a h1).2⟩
  have z2 : fZ 300 frft I2 J2 := fun a ha j => ⟨frft_300 ha j, by rw [(zI a (by omega) (by omega)).1]; rfl, by rw [(zI a (by omega) (by omega)).2 ha]; rfl⟩
  refine e_astore_n (L1 := [some (.ref fscr), some (.ref 0), some (.ref 89), none, none, none, none, none]) dL_law_15 rfl (by decide) rfl ?_
  refine e_iconst (nI 1) dL_law_16 (by decide) ?_
  refine n_newarr (t := 2) (N := 1) 301 9389 dL_law_17 rfl (by decide) ac_2 rfl (by decide) z2 (hsh 300 rfl) (by decide) (by decide) (by decide) (by decide) ?_
  refine e_astore_n (L1 := [some (.ref fscr), some (.ref 0), some (.ref 89), some (.ref 300), none, none, none, none]) dL_law_19 rfl (by decide) rfl ?_
  refine e_iconst (nI 0) dL_law_20 (by decide) ?_
  refine e_istore (L1 := [some (.ref fscr), some (.ref 0), some (.ref 89), some (.ref 300), some (.int (nI 0)), none, none, none]) dL_law_21 (by decide) rfl ?_
  refine e_loose ?_
  show fEv g (d + 45) mL_law 23 [some (.ref fscr), some (.ref 0), some (.ref 89), some (.ref 300), some (.int (nI 0)), none, none, none] [] ((301, 1, 9389), frft, I2, J2) Q
  refine l_law (by omega) h 512 0 _ x0 none none ⟨by omega, by omega⟩ ⟨⟨hG, rfl, rfl, (show 0 < 1 by decide)⟩, fOK0, ?_, ?_, (show 301 + 1 + 512 ≤ 601024 by decide), (show 9389 + 6 * 512 ≤ 7293034 by decide)⟩
  · refine fIc0 (g1.cgI (fun i hi => ((a2 (2 + i) (by omega)).1).symm)) (fun j => ?_) (fun a h1 h2 j => ?_)
    · show I2 0 j = _
      rw [(a2 0 (by omega)).1]
      exact b1 j
    · show I2 a j = 0
      rw [(zI a h2 (by omega)).1]
      rfl
  · refine fIr0 c2 b2 (fun a h1 h2 j => ?_)
    show I2 a j = 0
    rw [(zI a (by omega) h2).1]
    rfl
