theorem mdp_b {S : Nat → Nat} {k : Nat} : mup (mdp S k) (121 + k) (S (121 + k)) = S := by
  funext j
  unfold mdp mup
  by_cases e : j = 121 + k
  · rw [if_pos e, e]
  · rw [if_neg e, if_neg e]
set_option maxRecDepth 20000 in
theorem l_X10_deep {g : fGP} {d : Nat} {Q : fRes → fAH → Prop} {D : fSD} {S : Nat → Nat} {T : Nat → Int32} {sd : Int32} {pn : Nat} {P : Nat → Nat} {rn : Nat} {R : Nat → Nat} {B : Nat → Nat} {tp : Nat} {pl : Int32} {im : Nat} {Im : Nat → fIm} (ok : fOK (D, (S, T, sd, pn, P, rn, R), B, tp, pl, im, Im)) (hn : S 155 < 30) : ∀ (n i : Nat) (v : Option Nat) (b : Option Nat) (o6 : Option Value) (o7 : Option Value) (σ : fAH), i + n = dT D 1 → fMs g σ → fIr σ (D, (S, T, sd, pn, P, rn, R), B, tp, pl, im, Im) → fI σ 89 0 = nI 0 → (∀ y, v = some y → y ≤ 1000000000) → (∀ σ', fSm fRfA σ σ' → fIr σ' (D, (S, T, sd, pn, P, rn, R), B, tp, pl, im, Im) → fI σ' 89 0 = nI 0 → Q (.inl (some (.int (mo (mdpr D S n i v b))))) σ') → fEv g (d + 39) mX10_deeper 33 [some (.ref 89), some (.int (mo b)), some (.int (nI (mbits D S))), some (.long (ob v)), none, some (.int (nI i)), o6, o7, none] [] σ Q := by
  intro n
  induction n with
  | zero =>
    intro i v b o6 o7 σ hin Ms Ir hz hv h
    have hD : fWD D := ok.1
    have hW : fWS D S := ok.2.1.1
    have hC : fWC D S := ok.2.1.2.1
    have hN : fWN S 0 0 := ok.2.1.2.2.1
    have Mr : fMr σ D S sd := Ir.1
    have Mt : fMt σ S T := Ir.2.1
    obtain ⟨t0, t1, t2, t3, t4, t5, t6⟩ := id hD.1
    have np := hW.n hD
    have n5 := hW.2.2.2.2
    have tp6 : tp ≤ 600 := ok.2.2.2.1
    have im3 : im ≤ 3 := ok.2.2.2.2.1
    have pn3 : pn ≤ 30 := ok.2.1.2.2.2.1
    have rn6 : rn ≤ 60 := ok.2.1.2.2.2.2.2.1
    have Rc : fRc σ (S, T, sd, pn, P, rn, R) := Ir.2.2.2.2.1
    have w52 := hW.1
    refine e_iload dX10_deeper_33 rfl ?_
    refine e_aload_n dX10_deeper_35 rfl rfl ?_
    refine e_getR (q := 92) dX10_deeper_36 fl_RX10_20 (Ms.s 89 rfl) (Ms.n (by decide)) rfl (Ms.r 89 10 rfl) (by unfold fscr; omega) ?_
    refine e_iconst (nI 1) dX10_deeper_39 (by decide) ?_
    refine e_iaload 1 dX10_deeper_40 (Ms.s 92 rfl) (Ms.n (by decide)) rfl (by omega) (by decide) ?_
    refine e_int (nI (dT D 1)) (Mr.t 1 (by omega)) ?_
    refine e_icmp_ge 134 dX10_deeper_41 (by decide) (fun cz => ?_) (fun cz => absurd ((nI_le' (by omega) (by omega)).mpr (by omega)) cz)
    refine e_iload_n dX10_deeper_134 rfl rfl ?_
    exact e_ireturn .int dX10_deeper_135 rfl rfl (h σ fSm.rfl' Ir hz)
  | succ n ih =>
    intro i v b o6 o7 σ hin Ms Ir hz hv h
    have hD : fWD D := ok.1
    have hW : fWS D S := ok.2.1.1
    have hC : fWC D S := ok.2.1.2.1
    have hN : fWN S 0 0 := ok.2.1.2.2.1
    have Mr : fMr σ D S sd := Ir.1
    have Mt : fMt σ S T := Ir.2.1
    obtain ⟨t0, t1, t2, t3, t4, t5, t6⟩ := id hD.1
    have np := hW.n hD
    have n5 := hW.2.2.2.2
    have tp6 : tp ≤ 600 := ok.2.2.2.1
    have im3 : im ≤ 3 := ok.2.2.2.2.1
    have pn3 : pn ≤ 30 := ok.2.1.2.2.2.1
    have rn6 : rn ≤ 60 := ok.2.1.2.2.2.2.2.1
    have Rc : fRc σ (S, T, sd, pn, P, rn, R) := Ir.2.2.2.2.1
    have w52 := hW.1
    have hi : i < dT D 1 := by omega
    have fw := fW_dp hD hW hC hi
    have ws := hW.2.2.1 i hi
    obtain ⟨v9, hv9⟩ := mft_some (S := mdp S i) hD
    have vl := mft_le hD fw.1 fw.2.1 (by rw [fw.2.2.1]; exact hn) v9 hv9
    have hN1 : fWN (mdp S i) 0 0 := by unfold fWN; rw [fw.2.2.2 151 (by omega), fw.2.2.2 152 (by omega), fw.2.2.2 153 (by omega), fw.2.2.2 154 (by omega), fw.2.2.2 155 (by omega)]; exact hN
    have mb := mbits_lt hD S
    have md : mbits D S / 2 ^ i ≤ mbits D S := Nat.div_le_self _ _
    have mb2 : mal D S i = decide (mbits D S / 2 ^ i % 2 = 1) := by rw [mbits_b, decide_eq_true hi, Bool.true_and]
    refine e_iload dX10_deeper_33 rfl ?_
    refine e_aload_n dX10_deeper_35 rfl rfl ?_
    refine e_getR (q := 92) dX10_deeper_36 fl_RX10_20 (Ms.s 89 rfl) (Ms.n (by decide)) rfl (Ms.r 89 10 rfl) (by unfold fscr; omega) ?_
    refine e_iconst (nI 1) dX10_deeper_39 (by decide) ?_
    refine e_iaload 1 dX10_deeper_40 (Ms.s 92 rfl) (Ms.n (by decide)) rfl (by omega) (by decide) ?_
    refine e_int (nI (dT D 1)) (Mr.t 1 (by omega)) ?_
    refine e_icmp_ge 134 dX10_deeper_41 (by decide) (fun cz => absurd ((nI_le' (by omega) (by omega)).mp cz) (by omega)) (fun cz => ?_)
    refine e_iload_n dX10_deeper_44 rfl rfl ?_
    refine e_iload dX10_deeper_45 rfl ?_
    refine e_ishr dX10_deeper_47 ?_
    refine e_int (nI (mbits D S / 2 ^ i)) (nI_shr (by omega) (by omega)) ?_
    refine e_iconst (nI 1) dX10_deeper_48 (by decide) ?_
    refine e_iand dX10_deeper_49 ?_
    refine e_int (nI (mbits D S / 2 ^ i % 2)) (nI_and1 (by omega)) ?_
    refine e_if_ne 56 dX10_deeper_50 (by decide) (fun c50 => ?_) (fun c50 => ?_)
    · rw [nI_z (by omega)] at c50
      refine e_aload_n dX10_deeper_56 rfl rfl ?_
      refine e_getR (q := 197) dX10_deeper_57 fl_RX10_49 (Ms.s 89 rfl) (Ms.n (by decide)) rfl (Ms.r 89 19 rfl) (by unfold fscr; omega) ?_
      refine e_bipush (nI 121) dX10_deeper_60 (by decide) ?_
      refine e_iload dX10_deeper_62 rfl ?_
      refine e_iadd dX10_deeper_64 ?_
      refine e_int (nI (121 + i)) (nI_add 121 i) ?_
      refine e_iaload (121 + i) dX10_deeper_65 (Ms.s 197 rfl) (Ms.n (by decide)) rfl (by omega) (by decide) ?_
      refine e_int (nI (S (121 + i))) (Mr.s (121 + i) (by omega)) ?_
      refine e_istore (L1 := [some (.ref 89), some (.int (mo b)), some (.int (nI (mbits D S))), some (.long (ob v)), none, some (.int (nI i)), some (.int (nI (S (121 + i)))), o7, none]) dX10_deeper_66 (by decide) rfl ?_
      refine e_aload_n dX10_deeper_68 rfl rfl ?_
      refine e_getR (q := 197) dX10_deeper_69 fl_RX10_49 (Ms.s 89 rfl) (Ms.n (by decide)) rfl (Ms.r 89 19 rfl) (by unfold fscr; omega) ?_
      refine e_bipush (nI 121) dX10_deeper_72 (by decide) ?_
      refine e_iload dX10_deeper_74 rfl ?_
      refine e_iadd dX10_deeper_76 ?_
      refine e_int (nI (121 + i)) (nI_add 121 i) ?_
      refine e_iload dX10_deeper_77 rfl ?_
      refine e_bipush (nI 9) dX10_deeper_79 (by decide) ?_
      refine e_icmp_ge 91 dX10_deeper_81 (by decide) (fun c81 => ?_) (fun c81 => ?_)
      · rw [nI_le' (by omega) (by omega)] at c81
        refine e_bipush (nI 9) dX10_deeper_91 (by decide) ?_
        refine e_iastore (121 + i) dX10_deeper_93 (Ms.s 197 rfl) (Ms.n (by decide)) rfl (by omega) (by decide) ?_
        have Mr1 : fMr (fsI σ 197 (121 + i) (nI 9)) D (mdp S i) sd := by have q := Mr.set hD (i := 121 + i) (v := 9) (by omega) (by omega); rw [show mdp S i = mup S (121 + i) (9) by unfold mdp; rw [show min 9 (S (121 + i) + 1) = 9 by omega]]; exact q
        have Sm1 : fSm (fun a => a = 197) σ (fsI σ 197 (121 + i) (nI 9)) := fSm_I rfl
        have Ms1 := Ms.sm Sm1
        generalize fsI σ 197 (121 + i) (nI 9) = σ1 at Mr1 Sm1 Ms1 ⊢
        have n1 : ∀ a, a ≠ 197 → ∀ j, fI σ1 a j = fI σ a j := fun a ha j => Sm1.i (fun q => ha q) j
        refine e_aload_n dX10_deeper_94 rfl rfl ?_
        refine e_callV (k := 89) [] dX10_deeper_95 cc_X10_findTonight lk_RX10_298 im_X10_findTonight se_X10_findTonight (by decide) (Ms1.s 89 rfl) (Ms1.n (by decide)) rfl (Nat.le_of_ble_eq_true rfl) (Nat.le_of_ble_eq_true rfl) ?_
        refine t_X10_findTonight (S := mdp S i) (dp := 0) Ms1 Mr1 hD fw.1 fw.2.1 (by rw [fw.2.2.1]; exact hn) hN1 ((n1 89 (by omega) 31).trans Ir.2.2.1.2.1) ((n1 89 (by omega) 21).trans Ir.2.2.1.1) (by omega) (fun σ2 Sm2 Mr2 k2 h33 h34 hJ2 => fK_i ?_)
        show fEv g _ mX10_deeper 98 [some (.ref 89), some (.int (mo b)), some (.int (nI (mbits D S))), some (.long (ob v)), none, some (.int (nI i)), some (.int (nI (S (121 + i)))), o7, none] [.long (ob (mft D (mdp S i)).1)] σ2 Q
        have Ms2 := Ms1.sm Sm2
        refine e_long (nL v9) (by rw [hv9]; rfl) ?_
        refine e_lstore (L1 := [some (.ref 89), some (.int (mo b)), some (.int (nI (mbits D S))), some (.long (ob v)), none, some (.int (nI i)), some (.int (nI (S (121 + i)))), some (.long (nL v9)), none]) dX10_deeper_98 (by decide) rfl ?_
        refine e_aload_n dX10_deeper_100 rfl rfl ?_
        refine e_getR (q := 197) dX10_deeper_101 fl_RX10_49 (Ms2.s 89 rfl) (Ms2.n (by decide)) rfl (Ms2.r 89 19 rfl) (by unfold fscr; omega) ?_
        refine e_bipush (nI 121) dX10_deeper_104 (by decide) ?_
        refine e_iload dX10_deeper_106 rfl ?_
        refine e_iadd dX10_deeper_108 ?_
        refine e_int (nI (121 + i)) (nI_add 121 i) ?_
        refine e_iload dX10_deeper_109 rfl ?_
        refine e_iastore (121 + i) dX10_deeper_111 (Ms2.s 197 rfl) (Ms2.n (by decide)) rfl (by omega) (by decide) ?_
        have Mr3 : fMr (fsI σ2 197 (121 + i) (nI (S (121 + i)))) D S sd := by have q := Mr2.set hD (i := 121 + i) (v := S (121 + i)) (by omega) (by omega); rw [mdp_b] at q; exact q
        have Sm3 : fSm (fun a => a = 89 ∨ a = 197 ∨ (199 ≤ a ∧ a < 219)) σ (fsI σ2 197 (121 + i) (nI (S (121 + i)))) := ((Sm1.to (fun a (q : a = 197) => Or.inr (Or.inl q))).tr (Sm2.to (fun a q => by unfold fBA at q; omega))).tr (fSm_I (Or.inr (Or.inl rfl)))
        have k3 : ∀ j, j ≠ 33 → j ≠ 34 → fI (fsI σ2 197 (121 + i) (nI (S (121 + i)))) 89 j = fI σ 89 j := fun j h1 h2 => by rw [fI_I, if_neg (by omega), k2 j h1 h2]; exact n1 89 (by omega) j
        have h333 : fI (fsI σ2 197 (121 + i) (nI (S (121 + i)))) 89 33 = nI 0 := by rw [fI_I, if_neg (by omega)]; exact h33
        have Ms3 := Ms.sm Sm3
        generalize fsI σ2 197 (121 + i) (nI (S (121 + i))) = σ3 at Mr3 Sm3 k3 h333 Ms3 ⊢
        have Ir3 := Ir.back ok Sm3 (fun a q => q) (fun j hj => by simp only [List.mem_cons, List.not_mem_nil, or_false] at hj; by_cases e : j = 33; rw [e, h333, Ir.2.2.1.2.2.1]; exact k3 j e (by omega)) Mr3
        have hz3 := (k3 0 (by decide) (by decide)).trans hz
        have Q3 : fSm fRfA σ σ3 := Sm3.to (fun a q => by unfold fRfA; omega)
        refine e_lload dX10_deeper_112 rfl ?_
        refine e_lload_n dX10_deeper_114 rfl rfl ?_
        refine e_lcmp dX10_deeper_115 ?_
        refine e_if_gt 122 dX10_deeper_116 (by decide) (fun c116 => ?_) (fun c116 => ?_)
        · rw [lc_gt] at c116
          have c116 := (ob_lt (by omega) (fun y hy => by have := hv y hy; omega)).mp c116
          refine e_iload dX10_deeper_122 rfl ?_
          refine e_istore_n (L1 := [some (.ref 89), some (.int (nI i)), some (.int (nI (mbits D S))), some (.long (ob v)), none, some (.int (nI i)), some (.int (nI (S (121 + i)))), some (.long (nL v9)), none]) dX10_deeper_124 rfl (by decide) rfl ?_
          refine e_lload dX10_deeper_125 rfl ?_
          refine e_lstore_n (L1 := [some (.ref 89), some (.int (nI i)), some (.int (nI (mbits D S))), some (.long (nL v9)), none, some (.int (nI i)), some (.int (nI (S (121 + i)))), some (.long (nL v9)), none]) dX10_deeper_127 rfl (by decide) rfl ?_
          refine e_iinc (v := nI (i + 1)) (L1 := [some (.ref 89), some (.int (nI i)), some (.int (nI (mbits D S))), some (.long (nL v9)), none, some (.int (nI (i + 1))), some (.int (nI (S (121 + i)))), some (.long (nL v9)), none]) dX10_deeper_128 rfl (show nI i + Int32.ofInt 1 = nI (i + 1) from nI_add i 1) (by decide) rfl ?_
          refine e_goto 33 dX10_deeper_131 (by decide) ?_
          have hb9 : mbt v ((mft D (mdp S i)).1.getD 0) = true := by rw [hv9]; exact c116
          rw [show mdpr D S (n + 1) i v b = mdpr D S n (i + 1) (some ((mft D (mdp S i)).1.getD 0)) (some i) from if_pos ⟨by rw [mb2]; exact decide_eq_true (by omega), hb9⟩, hv9] at h
          exact ih (i + 1) (some v9) (some i) _ _ σ3 (by omega) Ms3 Ir3 hz3 (fun y hy => by cases hy; omega) (fun σ' Sm' => h σ' (Q3.tr Sm'))
        · rw [lc_gt] at c116
          have c116 : mbt v v9 = false := Bool.eq_false_iff.mpr (fun q => c116 ((ob_lt (by omega) (fun y hy => by have := hv y hy; omega)).mpr q))
          refine e_goto 128 dX10_deeper_119 (by decide) ?_
          refine e_iinc (v := nI (i + 1)) (L1 := [some (.ref 89), some (.int (mo b)), some (.int (nI (mbits D S))), some (.long (ob v)), none, some (.int (nI (i + 1))), some (.int (nI (S (121 + i)))), some (.long (nL v9)), none]) dX10_deeper_128 rfl (show nI i + Int32.ofInt 1 = nI (i + 1) from nI_add i 1) (by decide) rfl ?_
          refine e_goto 33 dX10_deeper_131 (by decide) ?_
          have hb9 : mbt v ((mft D (mdp S i)).1.getD 0) = false := by rw [hv9]; exact c116
          rw [show mdpr D S (n + 1) i v b = mdpr D S n (i + 1) v b from if_neg (fun q => by rw [hb9] at q; exact absurd q.2 Bool.false_ne_true)] at h
          exact ih (i + 1) v b _ _ σ3 (by omega) Ms3 Ir3 hz3 hv (fun σ' Sm' => h σ' (Q3.tr Sm'))
      · rw [nI_le' (by omega) (by omega)] at c81
        refine e_iload dX10_deeper_84 rfl ?_
        refine e_iconst (nI 1) dX10_deeper_86 (by decide) ?_
        refine e_iadd dX10_deeper_87 ?_
        refine e_int (nI (S (121 + i) + 1)) (nI_add (S (121 + i)) 1) ?_
        refine e_goto 93 dX10_deeper_88 (by decide) ?_
        refine e_iastore (121 + i) dX10_deeper_93 (Ms.s 197 rfl) (Ms.n (by decide)) rfl (by omega) (by decide) ?_
        have Mr1 : fMr (fsI σ 197 (121 + i) (nI (S (121 + i) + 1))) D (mdp S i) sd := by have q := Mr.set hD (i := 121 + i) (v := S (121 + i) + 1) (by omega) (by omega); rw [show mdp S i = mup S (121 + i) (S (121 + i) + 1) by unfold mdp; rw [show min 9 (S (121 + i) + 1) = S (121 + i) + 1 by omega]]; exact q
        have Sm1 : fSm (fun a => a = 197) σ (fsI σ 197 (121 + i) (nI (S (121 + i) + 1))) := fSm_I rfl
        have Ms1 := Ms.sm Sm1
        generalize fsI σ 197 (121 + i) (nI (S (121 + i) + 1)) = σ1 at Mr1 Sm1 Ms1 ⊢
        have n1 : ∀ a, a ≠ 197 → ∀ j, fI σ1 a j = fI σ a j := fun a ha j => Sm1.i (fun q => ha q) j
        refine e_aload_n dX10_deeper_94 rfl rfl ?_
        refine e_callV (k := 89) [] dX10_deeper_95 cc_X10_findTonight lk_RX10_298 im_X10_findTonight se_X10_findTonight (by decide) (Ms1.s 89 rfl) (Ms1.n (by decide)) rfl (Nat.le_of_ble_eq_true rfl) (Nat.le_of_ble_eq_true rfl) ?_
        refine t_X10_findTonight (S := mdp S i) (dp := 0) Ms1 Mr1 hD fw.1 fw.2.1 (by rw [fw.2.2.1]; exact hn) hN1 ((n1 89 (by omega) 31).trans Ir.2.2.1.2.1) ((n1 89 (by omega) 21).trans Ir.2.2.1.1) (by omega) (fun σ2 Sm2 Mr2 k2 h33 h34 hJ2 => fK_i ?_)
        show fEv g _ mX10_deeper 98 [some (.ref 89), some (.int (mo b)), some (.int (nI (mbits D S))), some (.long (ob v)), none, some (.int (nI i)), some (.int (nI (S (121 + i)))), o7, none] [.long (ob (mft D (mdp S i)).1)] σ2 Q
        have Ms2 := Ms1.sm Sm2
        refine e_long (nL v9) (by rw [hv9]; rfl) ?_
        refine e_lstore (L1 := [some (.ref 89), some (.int (mo b)), some (.int (nI (mbits D S))), some (.long (ob v)), none, some (.int (nI i)), some (.int (nI (S (121 + i)))), some (.long (nL v9)), none]) dX10_deeper_98 (by decide) rfl ?_
        refine e_aload_n dX10_deeper_100 rfl rfl ?_
        refine e_getR (q := 197) dX10_deeper_101 fl_RX10_49 (Ms2.s 89 rfl) (Ms2.n (by decide)) rfl (Ms2.r 89 19 rfl) (by unfold fscr; omega) ?_
        refine e_bipush (nI 121) dX10_deeper_104 (by decide) ?_
        refine e_iload dX10_deeper_106 rfl ?_
        refine e_iadd dX10_deeper_108 ?_
        refine e_int (nI (121 + i)) (nI_add 121 i) ?_
        refine e_iload dX10_deeper_109 rfl ?_
        refine e_iastore (121 + i) dX10_deeper_111 (Ms2.s 197 rfl) (Ms2.n (by decide)) rfl (by omega) (by decide) ?_
        have Mr3 : fMr (fsI σ2 197 (121 + i) (nI (S (121 + i)))) D S sd := by have q := Mr2.set hD (i := 121 + i) (v := S (121 + i)) (by omega) (by omega); rw [mdp_b] at q; exact q
        have Sm3 : fSm (fun a => a = 89 ∨ a = 197 ∨ (199 ≤ a ∧ a < 219)) σ (fsI σ2 197 (121 + i) (nI (S (121 + i)))) := ((Sm1.to (fun a (q : a = 197) => Or.inr (Or.inl q))).tr (Sm2.to (fun a q => by unfold fBA at q; omega))).tr (fSm_I (Or.inr (Or.inl rfl)))
        have k3 : ∀ j, j ≠ 33 → j ≠ 34 → fI (fsI σ2 197 (121 + i) (nI (S (121 + i)))) 89 j = fI σ 89 j := fun j h1 h2 => by rw [fI_I, if_neg (by omega), k2 j h1 h2]; exact n1 89 (by omega) j
        have h333 : fI (fsI σ2 197 (121 + i) (nI (S (121 + i)))) 89 33 = nI 0 := by rw [fI_I, if_neg (by omega)]; exact h33
        have Ms3 := Ms.sm Sm3
        generalize fsI σ2 197 (121 + i) (nI (S (121 + i))) = σ3 at Mr3 Sm3 k3 h333 Ms3 ⊢
        have Ir3 := Ir.back ok Sm3 (fun a q => q) (fun j hj => by simp only [List.mem_cons, List.not_mem_nil, or_false] at hj; by_cases e : j = 33; rw [e, h333, Ir.2.2.1.2.2.1]; exact k3 j e (by omega)) Mr3
        have hz3 := (k3 0 (by decide) (by decide)).trans hz
        have Q3 : fSm fRfA σ σ3 := Sm3.to (fun a q => by unfold fRfA; omega)
        refine e_lload dX10_deeper_112 rfl ?_
        refine e_lload_n dX10_deeper_114 rfl rfl ?_
        refine e_lcmp dX10_deeper_115 ?_
        refine e_if_gt 122 dX10_deeper_116 (by decide) (fun c116 => ?_) (fun c116 => ?_)
        · rw [lc_gt] at c116
          have c116 := (ob_lt (by omega) (fun y hy => by have := hv y hy; omega)).mp c116
          refine e_iload dX10_deeper_122 rfl ?_
          refine e_istore_n (L1 := [some (.ref 89), some (.int (nI i)), some (.int (nI (mbits D S))), some (.long (ob v)), none, some (.int (nI i)), some (.int (nI (S (121 + i)))), some (.long (nL v9)), none]) dX10_deeper_124 rfl (by decide) rfl ?_
          refine e_lload dX10_deeper_125 rfl ?_
          refine e_lstore_n (L1 := [some (.ref 89), some (.int (nI i)), some (.int (nI (mbits D S))), some (.long (nL v9)), none, some (.int (nI i)), some (.int (nI (S (121 + i)))), some (.long (nL v9)), none]) dX10_deeper_127 rfl (by decide) rfl ?_
          refine e_iinc (v := nI (i + 1)) (L1 := [some (.ref 89), some (.int (nI i)), some (.int (nI (mbits D S))), some (.long (nL v9)), none, some (.int (nI (i + 1))), some (.int (nI (S (121 + i)))), some (.long (nL v9)), none]) dX10_deeper_128 rfl (show nI i + Int32.ofInt 1 = nI (i + 1) from nI_add i 1) (by decide) rfl ?_
          refine e_goto 33 dX10_deeper_131 (by decide) ?_
          have hb9 : mbt v ((mft D (mdp S i)).1.getD 0) = true := by rw [hv9]; exact c116
          rw [show mdpr D S (n + 1) i v b = mdpr D S n (i + 1) (some ((mft D (mdp S i)).1.getD 0)) (some i) from if_pos ⟨by rw [mb2]; exact decide_eq_true (by omega), hb9⟩, hv9] at h
          exact ih (i + 1) (some v9) (some i) _ _ σ3 (by omega) Ms3 Ir3 hz3 (fun y hy => by cases hy; omega) (fun σ' Sm' => h σ' (Q3.tr Sm'))
        · rw [lc_gt] at c116
          have c116 : mbt v v9 = false := Bool.eq_false_iff.mpr (fun q => c116 ((ob_lt (by omega) (fun y hy => by have := hv y hy; omega)).mpr q))
          refine e_goto 128 dX10_deeper_119 (by decide) ?_
          refine e_iinc (v := nI (i + 1)) (L1 := [some (.ref 89), some (.int (mo b)), some (.int (nI (mbits D S))), some (.long (ob v)), none, some (.int (nI (i + 1))), some (.int (nI (S (121 + i)))), some (.long (nL v9)), none]) dX10_deeper_128 rfl (show nI i + Int32.ofInt 1 = nI (i + 1) from nI_add i 1) (by decide) rfl ?_
          refine e_goto 33 dX10_deeper_131 (by decide) ?_
          have hb9 : mbt v ((mft D (mdp S i)).1.getD 0) = false := by rw [hv9]; exact c116
          rw [show mdpr D S (n + 1) i v b = mdpr D S n (i + 1) v b from if_neg (fun q => by rw [hb9] at q; exact absurd q.2 Bool.false_ne_true)] at h
          exact ih (i + 1) v b _ _ σ3 (by omega) Ms3 Ir3 hz3 hv (fun σ' Sm' => h σ' (Q3.tr Sm'))
    · rw [nI_z (by omega)] at c50
      refine e_goto 128 dX10_deeper_53 (by decide) ?_
      refine e_iinc (v := nI (i + 1)) (L1 := [some (.ref 89), some (.int (mo b)), some (.int (nI (mbits D S))), some (.long (ob v)), none, some (.int (nI (i + 1))), o6, o7, none]) dX10_deeper_128 rfl (show nI i + Int32.ofInt 1 = nI (i + 1) from nI_add i 1) (by decide) rfl ?_
      refine e_goto 33 dX10_deeper_131 (by decide) ?_
      rw [show mdpr D S (n + 1) i v b = mdpr D S n (i + 1) v b from if_neg (fun q => by rw [mb2, c50] at q; exact absurd q.1 (by decide))] at h
      exact ih (i + 1) v b _ _ σ (by omega) Ms Ir hz hv h
set_option maxRecDepth 20000 in
theorem lp_X10_deeper {g : fGP} {d : Nat} {σ : fAH} {Q : fRes → fAH → Prop} {x : fXS}  (Ms : fMs g σ) (ok : fOK x) (Ir : fIr σ x) (hz : fI σ 89 0 = nI 0) (hn : (iS (xI x)) 155 < 30) (h : ∀ σ', fSm fRfA σ σ' → fIr σ' x → fI σ' 89 0 = nI 0 → Q (.inl (some (.int (mo (mdpr (xD x) (iS (xI x)) (dT (xD x) 1) 0 none none))))) σ') : fEv g (d + 39) mX10_deeper 5 [some (.ref 89), none, none, none, none, none, none, none, none] [] σ Q := by
  obtain ⟨D, ⟨S, T, sd, pn, P, rn, R⟩, B, tp, pl, im, Im⟩ := x
  have hD : fWD D := ok.1
  have hW : fWS D S := ok.2.1.1
  have hC : fWC D S := ok.2.1.2.1
  have hN : fWN S 0 0 := ok.2.1.2.2.1
  have Mr : fMr σ D S sd := Ir.1
  have Mt : fMt σ S T := Ir.2.1
  obtain ⟨t0, t1, t2, t3, t4, t5, t6⟩ := id hD.1
  have np := hW.n hD
  have n5 := hW.2.2.2.2
  have tp6 : tp ≤ 600 := ok.2.2.2.1
  have im3 : im ≤ 3 := ok.2.2.2.2.1
  have pn3 : pn ≤ 30 := ok.2.1.2.2.2.1
  have rn6 : rn ≤ 60 := ok.2.1.2.2.2.2.2.1
  have Rc : fRc σ (S, T, sd, pn, P, rn, R) := Ir.2.2.2.2.1
  have w52 := hW.1
  have hn : S 155 < 30 := hn
  show fEv g (d + 39) mX10_deeper 5 [some (.ref 89), none, none, none, none, none, none, none, none] [] σ Q
  refine e_aload_n dX10_deeper_5 rfl rfl ?_
  refine e_aload_n dX10_deeper_6 rfl rfl ?_
  refine e_callV (k := 89) [] dX10_deeper_7 cc_X10_isOver lk_RX10_224 im_X10_isOver se_X10_isOver (by decide) (Ms.s 89 rfl) (Ms.n (by decide)) rfl (Nat.le_of_ble_eq_true rfl) (Nat.le_of_ble_eq_true rfl) ?_
  refine t_X10_isOverF Ms Mr hD hW hn (fK_i ?_)
  show fEv g _ mX10_deeper 10 [some (.ref 89), none, none, none, none, none, none, none, none] [.int (nI 0), .ref 89] σ Q
  refine e_iconst (nI 1) dX10_deeper_10 (by decide) ?_
  refine e_callV (k := 89) [.int (nI 0), .int (nI 1)] dX10_deeper_11 cc_X10_bad lk_RX10_148 im_X10_bad se_X10_bad (by decide) (Ms.s 89 rfl) (Ms.n (by decide)) rfl (Nat.le_of_ble_eq_true rfl) (Nat.le_of_ble_eq_true rfl) ?_
  refine t_X10_bad0 Ms hz (by decide) (fK_i ?_)
  show fEv g _ mX10_deeper 14 [some (.ref 89), none, none, none, none, none, none, none, none] [.int (nI 0)] σ Q
  refine e_if_eq 19 dX10_deeper_14 (by decide) (fun _ => ?_) (fun c => absurd c (by decide))
  refine e_iconst (-1) dX10_deeper_19 (by decide) ?_
  refine e_istore_n (L1 := [some (.ref 89), some (.int ((-1))), none, none, none, none, none, none, none]) dX10_deeper_20 rfl (by decide) rfl ?_
  refine e_aload_n dX10_deeper_21 rfl rfl ?_
  refine e_callV (k := 89) [] dX10_deeper_22 cc_X10_alive lk_RX10_215 im_X10_alive se_X10_alive (by decide) (Ms.s 89 rfl) (Ms.n (by decide)) rfl (Nat.le_of_ble_eq_true rfl) (Nat.le_of_ble_eq_true rfl) ?_
  refine t_X10_alive Ms Mr hD hW (fK_i ?_)
  show fEv g _ mX10_deeper 25 [some (.ref 89), some (.int ((-1))), none, none, none, none, none, none, none] [.int (nI (mbits D S))] σ Q
  refine e_istore_n (L1 := [some (.ref 89), some (.int ((-1))), some (.int (nI (mbits D S))), none, none, none, none, none, none]) dX10_deeper_25 rfl (by decide) rfl ?_
  refine e_ldc2 (-1) dX10_deeper_26 kc_RX10_293 ?_
  refine e_lstore_n (L1 := [some (.ref 89), some (.int ((-1))), some (.int (nI (mbits D S))), some (.long ((-1))), none, none, none, none, none]) dX10_deeper_29 rfl (by decide) rfl ?_
  refine e_iconst (nI 0) dX10_deeper_30 (by decide) ?_
  refine e_istore (L1 := [some (.ref 89), some (.int ((-1))), some (.int (nI (mbits D S))), some (.long ((-1))), none, some (.int (nI 0)), none, none, none]) dX10_deeper_31 (by decide) rfl ?_
  exact l_X10_deep ok hn (dT D 1) 0 none none none none σ (by omega) Ms Ir hz (fun y hy => by cases hy) h
set_option maxRecDepth 20000 in
theorem t_X10_deeper {g : fGP} {d : Nat} {σ : fAH} {Q : fRes → fAH → Prop} {x : fXS}  (Ms : fMs g σ) (ok : fOK x) (Ir : fIr σ x) (hn : (iS (xI x)) 155 < 30) (h : ∀ σ', fSm fRfA σ σ' → fIr σ' x → fI σ' 89 0 = nI 0 → Q (.inl (some (.int (mo (mdpr (xD x) (iS (xI x)) (dT (xD x) 1) 0 none none))))) σ') : fEv g (d + 39) mX10_deeper 0 (fent [.ref 89] 9) [] σ Q := by
  have S9 : fSm (fun a => a = 89) σ (fsI σ 89 0 (nI 0)) := fSm_I rfl
  show fEv g (d + 39) mX10_deeper 0 [some (.ref 89), none, none, none, none, none, none, none, none] [] σ Q
  refine e_aload_n dX10_deeper_0 rfl rfl ?_
  refine e_iconst (nI 0) dX10_deeper_1 (by decide) ?_
  refine e_putI dX10_deeper_2 fl_RX10_76 (Ms.s 89 rfl) (Ms.n (by decide)) rfl rfl ?_
  exact lp_X10_deeper (Ms.sm S9) ok (Ir.f0 ok S9 (fun a (q : a = 89) => Or.inl (by omega)) (fun j hj => by simp only [List.mem_cons, List.not_mem_nil, or_false] at hj; rw [fI_I, if_neg (by omega)])) (by rw [fI_I, if_pos ⟨rfl, rfl⟩]) hn (fun σ' Sm' => h σ' ((S9.to (fun a (q : a = 89) => by unfold fRfA; omega)).tr Sm'))
set_option maxRecDepth 20000 in
theorem lp_X10_deeperE {g : fGP} {d : Nat} {σ : fAH} {Q : fRes → fAH → Prop} {x : fXS}  (Ms : fMs g σ) (ok : fOK x) (Ir : fIr σ x) (hz : fI σ 89 0 = nI 0) (hn : ¬ (iS (xI x)) 155 < 30) (h : ∀ σ', fSm fRfA σ σ' → fIr σ' x → fI σ' 89 0 = nI 1 → Q (.inl (some (.int (nI 0)))) σ') : fEv g (d + 1) mX10_deeper 5 [some (.ref 89), none, none, none, none, none, none, none, none] [] σ Q := by
  obtain ⟨D, ⟨S, T, sd, pn, P, rn, R⟩, B, tp, pl, im, Im⟩ := x
  have hD : fWD D := ok.1
  have hW : fWS D S := ok.2.1.1
  have hC : fWC D S := ok.2.1.2.1
  have hN : fWN S 0 0 := ok.2.1.2.2.1
  have Mr : fMr σ D S sd := Ir.1
  have Mt : fMt σ S T := Ir.2.1
  obtain ⟨t0, t1, t2, t3, t4, t5, t6⟩ := id hD.1
  have np := hW.n hD
  have n5 := hW.2.2.2.2
  have tp6 : tp ≤ 600 := ok.2.2.2.1
  have im3 : im ≤ 3 := ok.2.2.2.2.1
  have pn3 : pn ≤ 30 := ok.2.1.2.2.2.1
  have rn6 : rn ≤ 60 := ok.2.1.2.2.2.2.2.1
  have Rc : fRc σ (S, T, sd, pn, P, rn, R) := Ir.2.2.2.2.1
  have w52 := hW.1
  show fEv g (d + 1) mX10_deeper 5 [some (.ref 89), none, none, none, none, none, none, none, none] [] σ Q
  refine e_aload_n dX10_deeper_5 rfl rfl ?_
  refine e_aload_n dX10_deeper_6 rfl rfl ?_
  refine e_callV (k := 89) [] dX10_deeper_7 cc_X10_isOver lk_RX10_224 im_X10_isOver se_X10_isOver (by decide) (Ms.s 89 rfl) (Ms.n (by decide)) rfl (Nat.le_of_ble_eq_true rfl) (Nat.le_of_ble_eq_true rfl) ?_
  refine t_X10_isOverT Ms Mr hD hW hn (fK_i ?_)
  show fEv g _ mX10_deeper 10 [some (.ref 89), none, none, none, none, none, none, none, none] [.int (nI 1), .ref 89] σ Q
  refine e_iconst (nI 1) dX10_deeper_10 (by decide) ?_
  refine e_callV (k := 89) [.int (nI 1), .int (nI 1)] dX10_deeper_11 cc_X10_bad lk_RX10_148 im_X10_bad se_X10_bad (by decide) (Ms.s 89 rfl) (Ms.n (by decide)) rfl (Nat.le_of_ble_eq_true rfl) (Nat.le_of_ble_eq_true rfl) ?_
  refine t_X10_bad1 Ms hz (by decide) (fK_i ?_)
  show fEv g _ mX10_deeper 14 [some (.ref 89), none, none, none, none, none, none, none, none] [.int (nI 1)] (fsI σ 89 0 (nI 1)) Q
  refine e_if_eq 19 dX10_deeper_14 (by decide) (fun c => absurd c (by decide)) (fun _ => ?_)
  refine e_iconst (nI 0) dX10_deeper_17 (by decide) ?_
  exact e_ireturn .int dX10_deeper_18 rfl rfl (h _ (fSm_I (by unfold fRfA; omega)) (Ir.f0 ok (A := fun a => a = 89) (fSm_I rfl) (fun a (q : a = 89) => Or.inl (by omega)) (fun j hj => by simp only [List.mem_cons, List.not_mem_nil, or_false] at hj; rw [fI_I, if_neg (by omega)])) (by rw [fI_I, if_pos ⟨rfl, rfl⟩]))
set_option maxRecDepth 20000 in
theorem t_X10_deeperE {g : fGP} {d : Nat} {σ : fAH} {Q : fRes → fAH → Prop} {x : fXS}  (Ms : fMs g σ) (ok : fOK x) (Ir : fIr σ x) (hn : ¬ (iS (xI x)) 155 < 30) (h : ∀ σ', fSm fRfA σ σ' → fIr σ' x → fI σ' 89 0 = nI 1 → Q (.inl (some (.int (nI 0)))) σ') : fEv g (d + 1) mX10_deeper 0 (fent [.ref 89] 9) [] σ Q := by
  have S9 : fSm (fun a => a = 89) σ (fsI σ 89 0 (nI 0)) := fSm_I rfl
  show fEv g (d + 1) mX10_deeper 0 [some (.ref 89), none, none, none, none, none, none, none, none] [] σ Q
  refine e_aload_n dX10_deeper_0 rfl rfl ?_
  refine e_iconst (nI 0) dX10_deeper_1 (by decide) ?_
  refine e_putI dX10_deeper_2 fl_RX10_76 (Ms.s 89 rfl) (Ms.n (by decide)) rfl rfl ?_
  exact lp_X10_deeperE (Ms.sm S9) ok (Ir.f0 ok S9 (fun a (q : a = 89) => Or.inl (by omega)) (fun j hj => by simp only [List.mem_cons, List.not_mem_nil, or_false] at hj; rw [fI_I, if_neg (by omega)])) (by rw [fI_I, if_pos ⟨rfl, rfl⟩]) hn (fun σ' Sm' => h σ' ((S9.to (fun a (q : a = 89) => by unfold fRfA; omega)).tr Sm'))
