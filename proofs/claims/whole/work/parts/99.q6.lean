theorem ins_at {c : Nat} (h : c < 10) : Cond.instantiable (fKC c) (fKN c) ∈ lw_tbl := by
  rcases (show c = 0 ∨ c = 1 ∨ c = 2 ∨ c = 3 ∨ c = 4 ∨ c = 5 ∨ c = 6 ∨ c = 7 ∨ c = 8 ∨ c = 9 by omega) with h | h | h | h | h | h | h | h | h | h <;> subst h
  · exact nw_RX9_48.2.1
  · exact nw_RX9_66.2.1
  · exact nw_RX9_20.2.1
  · exact nw_RX8_34.2.1
  · exact nw_RX9_27.2.1
  · exact nw_RX9_73.2.1
  · exact nw_RX2_17.2.1
  · exact nw_RX9_36.2.1
  · exact nw_RL_8.2.1
  · exact nw_RL_85.2.1
theorem aov_sp {args : Array Value} {s : State} (h : (Cond.arrayOver (.array .int)).before args s = true) : ∃ comp c k, s.vm.classes[c]? = some k ∧ k.kind = .array comp (.array .int) ∧ s.vm.findClass ("[" ++ (FieldType.array .int).toString) = some c := by
  simp only [Cond.before, Cond.holds, Cond.value, beq_iff_eq] at h
  cases hc : s.vm.findClass (FieldType.array .int).toString with
  | none => simp [hc] at h
  | some comp =>
    simp only [hc, Option.bind_some, Option.bind_eq_some_iff, Option.map_eq_some_iff] at h
    obtain ⟨c, hi, k, hk, hb⟩ := h
    cases hkind : k.kind with
    | array component ty =>
      rw [hkind] at hb
      simp at hb
      exact ⟨component, c, k, hk, by rw [hkind, hb.1], hb.2⟩
    | _ => rw [hkind] at hb; simp at hb
theorem arr_at {args : Array Value} {s : State} (hts : ∀ w ∈ lw_tbl, w.before args s = true) (t : Nat) : ∃ cA : ClassId, t < 7 → ArrOfT s cA (fTy t) ∧ va_RA s cA (fTy t) := by
  by_cases h : t < 7
  · rcases (show t = 0 ∨ t = 1 ∨ t = 2 ∨ t = 3 ∨ t = 4 ∨ t = 5 ∨ t = 6 by omega) with h | h | h | h | h | h | h <;> subst h
    · obtain ⟨c, k, comp, h1, h2, h3⟩ := Cond.arrayClass_spec (hts _ ac_0)
      exact ⟨c, fun _ => ⟨fun N z => ⟨(fun k h => by cases h), k, h2, comp, h3⟩, h1⟩⟩
    · obtain ⟨c, k, comp, h1, h2, h3⟩ := Cond.arrayClass_spec (hts _ ac_1)
      exact ⟨c, fun _ => ⟨fun N z => ⟨(fun k h => by cases h), k, h2, comp, h3⟩, h1⟩⟩
    · obtain ⟨c, k, comp, h1, h2, h3⟩ := Cond.arrayClass_spec (hts _ ac_2)
      exact ⟨c, fun _ => ⟨fun N z => ⟨(fun k h => by cases h), k, h2, comp, h3⟩, h1⟩⟩
    · obtain ⟨comp, c, k, h1, -, h2, h3, h4⟩ := Cond.arrayOver_spec (hts (Cond.arrayOver (.object RX8)) (List.mem_of_getElem? (i := 377) (by decide +kernel)))
      exact ⟨c, fun _ => ⟨fun N z => ⟨(fun k h => by cases h), k, h2, comp, h3⟩, ⟨k, comp, h2, h3, h1, h4⟩⟩⟩
    · obtain ⟨comp, c, k, h1, -, h2, h3, h4⟩ := Cond.arrayOver_spec (hts (Cond.arrayOver (.object RX0)) (List.mem_of_getElem? (i := 378) (by decide +kernel)))
      exact ⟨c, fun _ => ⟨fun N z => ⟨(fun k h => by cases h), k, h2, comp, h3⟩, ⟨k, comp, h2, h3, h1, h4⟩⟩⟩
    · obtain ⟨comp, c, k, h1, -, h2, h3, h4⟩ := Cond.arrayOver_spec (hts (Cond.arrayOver (.object RX7)) (List.mem_of_getElem? (i := 387) (by decide +kernel)))
      exact ⟨c, fun _ => ⟨fun N z => ⟨(fun k h => by cases h), k, h2, comp, h3⟩, ⟨k, comp, h2, h3, h1, h4⟩⟩⟩
    · obtain ⟨comp, c, k, h2, h3, h4⟩ := aov_sp (hts (Cond.arrayOver (.array .int)) (List.mem_of_getElem? (i := 1255) (by decide +kernel)))
      exact ⟨c, fun _ => ⟨fun N z => ⟨(fun k h => by cases h), k, h2, comp, h3⟩, h4⟩⟩
  · exact ⟨0, fun q => absurd q h⟩
def fnr : List Cond := flatC (Cond.and given_1 narrow_1)
def ftm (i : Nat) : Term := .string RX5 (fsix i)
theorem nr_ex : ∀ i, i < 7 → Cond.exactly (ftm i) "java/lang/String" ∈ fnr := by decide +kernel
theorem nr_co : ∀ i, i < 7 → Cond.eq (.field (ftm i) "java/lang/String" "coder" "B") (.int 0) ∈ fnr := by decide +kernel
theorem nr_ar : ∀ i, i < 7 → Cond.arrayOf (.field (ftm i) "java/lang/String" "value" "[B") .byte ∈ fnr := by decide +kernel
theorem nr_le : ∀ i, i < 7 → Cond.eq (.length (.field (ftm i) "java/lang/String" "value" "[B")) (.int (Int32.ofNat (fsln.getD i 0))) ∈ fnr := by decide +kernel
theorem nr_el : ∀ i, i < 7 → ∀ j, j < fsln.getD i 0 → Cond.eq (.elem (.field (ftm i) "java/lang/String" "value" "[B") (.int (Int32.ofNat j))) (.int ((fsby.getD i []).getD j 0)) ∈ fnr := by decide +kernel
theorem nr_ne : ∀ i, i < 7 → ∀ j, j < 7 → i ≠ j → Cond.not (Cond.eq (ftm i) (ftm j)) ∈ fnr ∨ Cond.not (Cond.eq (ftm j) (ftm i)) ∈ fnr := by decide +kernel
theorem nr_tx : ∀ q ∈ fstr, Cond.exactly (.string RX9 q.1) "java/lang/String" ∈ fnr := by decide +kernel
theorem nr_nc : ∀ q ∈ fnc, Cond.not (.castable q.1 q.2) ∈ fnr := by decide +kernel
theorem nr_u : Cond.isRef (.static Bundle.tN "UNASSIGNED_STACK" Bundle.steD) ∈ fnr := by decide +kernel
theorem nr_s : Cond.isRef (.static Bundle.tN "SUPPRESSED_SENTINEL" Bundle.listD) ∈ fnr := by decide +kernel
theorem nr_c : Cond.eq (.static RJ0 "COMPACT_STRINGS" "Z") (.int 1) ∈ fnr := by decide +kernel
theorem nr_f : Cond.isRef (.static RJ3 "SIOOBE_FORMATTER" "Ljava/util/function/BiFunction;") ∈ fnr := by decide +kernel
theorem sr_at : ∀ i, i < 7 → Cond.stringRef RX5 (fsix i) (fstx i) ∈ lw_tbl := by
  intro i hi
  rcases (show i = 0 ∨ i = 1 ∨ i = 2 ∨ i = 3 ∨ i = 4 ∨ i = 5 ∨ i = 6 by omega) with h | h | h | h | h | h | h <;> subst h
  · exact List.mem_of_getElem? (i := 714) (by decide +kernel)
  · exact List.mem_of_getElem? (i := 767) (by decide +kernel)
  · exact List.mem_of_getElem? (i := 768) (by decide +kernel)
  · exact List.mem_of_getElem? (i := 769) (by decide +kernel)
  · exact List.mem_of_getElem? (i := 770) (by decide +kernel)
  · exact List.mem_of_getElem? (i := 771) (by decide +kernel)
  · exact List.mem_of_getElem? (i := 772) (by decide +kernel)
theorem sx_at : ∀ q ∈ fstr, Cond.stringRef RX9 q.1 q.2 ∈ lw_tbl := by
  intro q hq
  simp only [fstr, List.mem_cons, List.not_mem_nil, or_false] at hq
  rcases hq with rfl | rfl | rfl | rfl | rfl | rfl | rfl | rfl | rfl | rfl
  · exact List.mem_of_getElem? (i := 670) (by decide +kernel)
  · exact List.mem_of_getElem? (i := 847) (by decide +kernel)
  · exact List.mem_of_getElem? (i := 869) (by decide +kernel)
  · exact List.mem_of_getElem? (i := 879) (by decide +kernel)
  · exact List.mem_of_getElem? (i := 901) (by decide +kernel)
  · exact List.mem_of_getElem? (i := 919) (by decide +kernel)
  · exact List.mem_of_getElem? (i := 945) (by decide +kernel)
  · exact List.mem_of_getElem? (i := 952) (by decide +kernel)
  · exact List.mem_of_getElem? (i := 966) (by decide +kernel)
  · exact List.mem_of_getElem? (i := 1113) (by decide +kernel)
/-- at the law's entry: the numbers of the claim, and all that every state says -/
theorem fEN_start {l : Launch} {s : State} {b L : Nat} {xs : Nat → Int32} (hl : l.stackTraces = false) (hts : ∀ w ∈ lw_tbl, w.before #[Value.ref b] s = true) (hX : va_X b L xs s s.heap) (hbl : b < s.heap.size) (hgv : (Cond.and given_1 narrow_1).before #[Value.ref b] s = true) : ∃ g : fGP, gl g = l ∧ gsh g = fshp ∧ gLL g = L ∧ gbb g = b ∧ gz g = s.heap.size ∧ fEN g s := by
  have hs : ∀ w ∈ fnr, w.before #[Value.ref b] s = true := flat_of_before _ hgv
  have hK : ∀ c : Nat, ∃ q : ClassId × (Nat → Nat), c < 10 → u_Kn s (fKC c) (fKT c) (fKN c) q.1 q.2 := fun c => by
    by_cases h : c < 10
    · obtain ⟨cC, iS, hk⟩ := u_known (C := fKC c) (T := fKT c) (N := fKN c) (n := fKN c) hts (fin_at h) (hts _ (ins_at h))
      exact ⟨(cC, iS), fun _ => hk⟩
    · exact ⟨(0, fun _ => 0), fun q => absurd q h⟩
  obtain ⟨f, hf⟩ := Classical.axiomOfChoice hK
  obtain ⟨A, hA⟩ := Classical.axiomOfChoice (arr_at hts)
  have hq : ∀ a : Nat, a < s.heap.size → ¬ s.heap.size ≤ a := fun a h => Nat.not_le.mpr h
  obtain ⟨adK, adV, hS, hev⟩ := vk_Sof (args := #[Value.ref b]) (s := s) (N := 7) (tm := ftm) (len := fsln) (byt := fsby) (A := fun q => s.heap.size ≤ q) (by decide) (fun i hi => hs _ (nr_ex i hi)) (fun i hi => hs _ (nr_co i hi)) (fun i hi => hs _ (nr_ar i hi)) (fun i hi => hs _ (nr_le i hi)) (fun i hi j hj => hs _ (nr_el i hi j hj)) (fun i j hi hj hne => (nr_ne i hi j hj hne).elim (fun q => Or.inl (hs _ q)) (fun q => Or.inr (hs _ q))) hq
  have hF : va_Zq RJ3 "SIOOBE_FORMATTER" "Ljava/util/function/BiFunction;" (fun q => s.heap.size ≤ q) s s.heap := va_Zqof (hts _ (List.mem_of_getElem? (i := 744) (by decide +kernel))) (hts _ (List.mem_of_getElem? (i := 152) (by decide +kernel))) (hs _ nr_f) hq
  obtain ⟨fa, hfa⟩ : ∃ fa : Nat, va_Z RJ3 "SIOOBE_FORMATTER" "Ljava/util/function/BiFunction;" .null (fun q => s.heap.size ≤ q) s s.heap ∨ va_Z RJ3 "SIOOBE_FORMATTER" "Ljava/util/function/BiFunction;" (.ref fa) (fun q => s.heap.size ≤ q) s s.heap := by
    rcases hF with h | ⟨t, h⟩
    · exact ⟨0, Or.inl h⟩
    · exact ⟨t, Or.inr h⟩
  obtain ⟨st, e1, e2, e3⟩ : ∃ st : Nat → Nat, (∀ i, i < 7 → st (1 + i) = adK i) ∧ (∀ i, i < 7 → st (8 + i) = adV i) ∧ st 15 = fa := by
    refine ⟨fun n => if n = 15 then fa else if n < 8 then adK (n - 1) else adV (n - 8), fun i hi => ?_, fun i hi => ?_, if_pos rfl⟩
    · show (if 1 + i = 15 then fa else if 1 + i < 8 then adK (1 + i - 1) else adV (1 + i - 8)) = adK i
      rw [if_neg (by omega), if_pos (by omega), Nat.add_sub_cancel_left]
    · show (if 8 + i = 15 then fa else if 8 + i < 8 then adK (8 + i - 1) else adV (8 + i - 8)) = adV i
      rw [if_neg (by omega), if_neg (by omega), Nat.add_sub_cancel_left]
  refine ⟨(l, (fun c => (f c).1, fun c => (f c).2), A, s.heap.size, b, L, xs, fshp, st), rfl, rfl, rfl, rfl, rfl, ?_⟩
  refine ⟨fun w hw hg a => word_at (State.WarmedH.refl s) (good_of_word hg) (hts w hw), fun w hw hn => va_Nw.of (by cases w <;> first | rfl | cases hn) (hts w hw), ⟨fun c q h => ?_, fun k q h => ?_⟩, ⟨vx_Zqof (hts _ (List.mem_of_getElem? (i := 655) (by decide +kernel))) (hts _ (List.mem_of_getElem? (i := 145) (by decide +kernel))) (hs _ nr_u) hq, vx_Zqof (hts _ (List.mem_of_getElem? (i := 657) (by decide +kernel))) (hts _ (List.mem_of_getElem? (i := 145) (by decide +kernel))) (hs _ nr_s) hq⟩, ⟨fun q h => va_Nc.of (hs _ (nr_nc q h)), ⟨⟨fun i hi => ?_, fun i j hi hj e => ?_⟩, fun i hi => ?_, va_Zof (hts _ (List.mem_of_getElem? (i := 728) (by decide +kernel))) (hts _ (List.mem_of_getElem? (i := 150) (by decide +kernel))) (va_eqt (hs _ nr_c)) hq, ?_⟩⟩, fun q h => ?_, fun q h => ?_, hts (Cond.arrayOver (.array .int)) (List.mem_of_getElem? (i := 1255) (by decide +kernel)), hX, hbl, Nat.le_refl _, hl⟩
  · have hc : c < 10 := (List.getElem?_eq_some_iff.mp h).1
    rw [fcl_at hc] at h
    cases h
    exact hf c hc
  · have hk : k < 7 := by
      have := (List.getElem?_eq_some_iff.mp h).1
      simpa [ftys] using this
    rw [ftys_at _ hk] at h
    cases h
    exact hA k hk
  · have := hS.1 i hi
    show va_O _ (st (1 + i)) _ _ _ ∧ va_OF _ _ _ _ (st (1 + i)) _ _ _ ∧ va_OF _ _ _ (.ref (st (8 + i))) (st (1 + i)) _ _ _ ∧ va_T _ (st (8 + i)) _ _ _ _ _
    rw [e1 i hi, e2 i hi]
    exact this
  · have e : st (1 + i) = st (1 + j) := e
    rw [e1 i hi, e1 j hj] at e
    exact hS.2 i j hi hj e
  · show vk_R RX5 (fsix i) (fstx i) (st (1 + i)) s
    rw [e1 i hi]
    exact vk_R.of (hts _ (sr_at i hi)) (hev i hi)
  · show _ ∨ va_Z _ _ _ (.ref (st 15)) _ _ _
    rw [e3]
    exact hfa
  · obtain ⟨a, c, cA, kA, q1, -⟩ := Cond.exactly_spec (args := #[Value.ref b]) (first := s) (o := none) (s := s) (idx := []) (t := .string RX9 q.1) (cls := "java/lang/String") (hs _ (nr_tx q h))
    exact ⟨a, vk_R.of (hts _ (sx_at q h)) q1⟩
  · simp only [List.mem_cons, List.not_mem_nil, or_false] at h
    rcases h with rfl | rfl | rfl
    · exact va_AO.of (hts (Cond.arrayOver (.object RX8)) (List.mem_of_getElem? (i := 377) (by decide +kernel)))
    · exact va_AO.of (hts (Cond.arrayOver (.object RX0)) (List.mem_of_getElem? (i := 378) (by decide +kernel)))
    · exact va_AO.of (hts (Cond.arrayOver (.object RX7)) (List.mem_of_getElem? (i := 387) (by decide +kernel)))
