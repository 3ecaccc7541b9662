/-! ===== the walk over an abstract heap: cells are numbers k, the cell k lies at gz + k; fEv says that a frame comes to its end ===== -/
abbrev fAH : Type := (Nat × Nat × Nat) × (Nat → Nat → Option Nat) × (Nat → Nat → Int32) × (Nat → Nat → Int64)
/-- cells made, cells of exceptions, slots used -/
abbrev fnx (σ : fAH) : Nat := σ.1.1
abbrev fgb (σ : fAH) : Nat := σ.1.2.1
abbrev fsu (σ : fAH) : Nat := σ.1.2.2
abbrev fR (σ : fAH) : Nat → Nat → Option Nat := σ.2.1
abbrev fI (σ : fAH) : Nat → Nat → Int32 := σ.2.2.1
abbrev fJ (σ : fAH) : Nat → Nat → Int64 := σ.2.2.2
def fup {α : Type} (f : Nat → Nat → α) (k j : Nat) (v : α) : Nat → Nat → α := fun a b => if a = k ∧ b = j then v else f a b
def fsI (σ : fAH) (k j : Nat) (v : Int32) : fAH := (σ.1, σ.2.1, fup σ.2.2.1 k j v, σ.2.2.2)
def fsJ (σ : fAH) (k j : Nat) (v : Int64) : fAH := (σ.1, σ.2.1, σ.2.2.1, fup σ.2.2.2 k j v)
def fsR (σ : fAH) (k j : Nat) (v : Option Nat) : fAH := (σ.1, fup σ.2.1 k j v, σ.2.2.1, σ.2.2.2)
/-- one more exception has been made -/
def fthr (σ : fAH) : fAH := ((σ.1.1, σ.1.2.1 + 1, σ.1.2.2 + 6), σ.2)
/-- n more cells of w slots in all; they are born empty -/
def fgrow (σ : fAH) (n w : Nat) : fAH := ((σ.1.1 + n, σ.1.2.1, σ.1.2.2 + w), fun k j => if σ.1.1 ≤ k ∧ k < σ.1.1 + n then none else σ.2.1 k j, fun k j => if σ.1.1 ≤ k ∧ k < σ.1.1 + n then 0 else σ.2.2.1 k j, fun k j => if σ.1.1 ≤ k ∧ k < σ.1.1 + n then 0 else σ.2.2.2 k j)
/-- the classes of objects, by their place in vwCl -/
def fKC : Nat → String := fun c => match c with
  | 0 => RX0 | 1 => RX2 | 2 => RX3 | 3 => RX4 | 4 => RX5 | 5 => RX6 | 6 => RX7 | 7 => RX8 | 8 => RX9 | _ => RX10
def fKT : Nat → u_T := fun c => match c with
  | 0 => TX0 | 1 => TX2 | 2 => TX3 | 3 => TX4 | 4 => TX5 | 5 => TX6 | 6 => TX7 | 7 => TX8 | 8 => TX9 | _ => TX10
def fKy : Nat → Nat → FieldType := fun c => match c with
  | 0 => tyX0 | 1 => tyX2 | 2 => tyX3 | 3 => tyX4 | 4 => tyX5 | 5 => tyX6 | 6 => tyX7 | 7 => tyX8 | 8 => tyX9 | _ => tyX10
def fKN : Nat → Nat := fun c => match c with
  | 0 => 3 | 1 => 4 | 2 => 12 | 3 => 1 | 4 => 7 | 5 => 4 | 6 => 3 | 7 => 14 | 8 => 17 | _ => 36
/-- the kinds of arrays -/
def fTy : Nat → FieldType := fun t => match t with
  | 0 => .int | 1 => .byte | 2 => .long | 3 => .object RX8 | 4 => .object RX0 | 5 => .object RX7 | _ => .array .int
abbrev fGP : Type := Launch × va_G × (Nat → ClassId) × Nat × Nat × Nat × (Nat → Int32) × (Nat → Nat ⊕ (Nat × Nat)) × (Nat → Nat)
abbrev gl (g : fGP) : Launch := g.1
abbrev gD (g : fGP) : va_G := g.2.1
abbrev gA (g : fGP) : Nat → ClassId := g.2.2.1
abbrev gz (g : fGP) : Nat := g.2.2.2.1
abbrev gbb (g : fGP) : Nat := g.2.2.2.2.1
abbrev gLL (g : fGP) : Nat := g.2.2.2.2.2.1
abbrev gxs (g : fGP) : Nat → Int32 := g.2.2.2.2.2.2.1
/-- the shapes: an object of a class, or an array of a kind and its length -/
abbrev gsh (g : fGP) : Nat → Nat ⊕ (Nat × Nat) := g.2.2.2.2.2.2.2.1
/-- where the texts lie: 1 to 7 the words, 8 to 14 their bytes, 15 a formatter that nobody asks -/
abbrev gst (g : fGP) : Nat → Nat := g.2.2.2.2.2.2.2.2
/-- the script's number -/
def fscr : Nat := 1000000
def fad (g : fGP) (k : Nat) : Nat := if fscr ≤ k then (if k = fscr then gbb g else gst g (k - fscr)) else gz g + k
def fvm (g : fGP) : Value → Value
  | .ref k => .ref (fad g k)
  | .int x => .int x
  | .long x => .long x
  | .float x => .float x
  | .double x => .double x
  | .null => .null
  | .retAddr x => .retAddr x
def ffv (g : fGP) (σ : fAH) (c k j : Nat) : Value := match fKy c j with
  | .int => .int (fI σ k j)
  | .boolean => .int (fI σ k j)
  | .long => .long (fJ σ k j)
  | _ => va_rf ((fR σ k j).map fun q => gz g + q)
def fct (g : fGP) (σ : fAH) (t k : Nat) : (Nat → Int32) ⊕ (Nat → Int64) ⊕ (Nat → UInt32) ⊕ (Nat → UInt64) ⊕ (Nat → Option Nat) := match t with
  | 0 => .inl (fI σ k)
  | 1 => .inl (fI σ k)
  | 2 => .inr (.inl (fJ σ k))
  | _ => .inr (.inr (.inr (.inr (fun j => (fR σ k j).map fun q => gz g + q))))
def fce (g : fGP) (σ : fAH) (k : Nat) : va_E := match gsh g k with
  | .inl c => .inr (c, (List.range (fKN c)).map (ffv g σ c k))
  | .inr (t, n) => .inl (gA g t, n, fct g σ t k)
def fws (g : fGP) (σ : fAH) : va_W := (List.range (fnx σ)).map fun k => (gz g + k, fce g σ k)
abbrev fAA (g : fGP) : Nat → Prop := fun q => gz g ≤ q
def fRP (g : fGP) (σ : fAH) (H : Heap) : Prop := va_P (gD g) vwCl (fws g σ) H ∧ gz g + fnx σ ≤ H.size ∧ (fgb σ = 0 → H.size = gz g + fnx σ) ∧ fnx σ ≤ 601024
def ftys (g : fGP) : List (ClassId × FieldType) := (List.range 7).map fun t => (gA g t, fTy t)
theorem fws_at (g : fGP) (σ : fAH) {k : Nat} (h : k < fnx σ) : (fws g σ)[k]? = some (gz g + k, fce g σ k) := by
  unfold fws
  rw [List.getElem?_map, List.getElem?_range h]
  rfl
theorem fws_of (g : fGP) (σ : fAH) {k : Nat} {q : Nat × va_E} (h : (fws g σ)[k]? = some q) : k < fnx σ ∧ q = (gz g + k, fce g σ k) := by
  have hl : k < (fws g σ).length := (List.getElem?_eq_some_iff.mp h).1
  have hk : k < fnx σ := by simpa [fws] using hl
  rw [fws_at g σ hk] at h
  exact ⟨hk, (Option.some.inj h).symm⟩
theorem fD (g : fGP) (σ : fAH) : va_D (fAA g) (fws g σ) := by
  refine ⟨fun i j p q hi hj e => ?_, fun k q h => ?_⟩
  · obtain ⟨-, rfl⟩ := fws_of g σ hi
    obtain ⟨-, rfl⟩ := fws_of g σ hj
    have e : gz g + i = gz g + j := e
    omega
  · obtain ⟨-, rfl⟩ := fws_of g σ h
    show gz g ≤ gz g + k
    omega
theorem ftys_at (g : fGP) {t : Nat} (h : t < 7) : (ftys g)[t]? = some (gA g t, fTy t) := by
  unfold ftys
  rw [List.getElem?_map, List.getElem?_range h]
  rfl
theorem fcl_at {c : Nat} (h : c < 10) : vwCl[c]? = some (fKC c, fKT c, fKN c) := by
  rcases (show c = 0 ∨ c = 1 ∨ c = 2 ∨ c = 3 ∨ c = 4 ∨ c = 5 ∨ c = 6 ∨ c = 7 ∨ c = 8 ∨ c = 9 by omega) with h | h | h | h | h | h | h | h | h | h <;> subst h <;> rfl
theorem fin_at {c : Nat} (h : c < 10) : ∀ w ∈ u_ws (fKC c) (fKT c) (fKN c), w ∈ lw_tbl := by
  rcases (show c = 0 ∨ c = 1 ∨ c = 2 ∨ c = 3 ∨ c = 4 ∨ c = 5 ∨ c = 6 ∨ c = 7 ∨ c = 8 ∨ c = 9 by omega) with h | h | h | h | h | h | h | h | h | h <;> subst h
  · exact inX0
  · exact inX2
  · exact inX3
  · exact inX4
  · exact inX5
  · exact inX6
  · exact inX7
  · exact inX8
  · exact inX9
  · exact inX10
theorem fty_at {c : Nat} (h : c < 10) : ∀ k, k < fKN c → parseFieldDescriptor (fKT c k).2.2.1 = some (fKy c k) := by
  rcases (show c = 0 ∨ c = 1 ∨ c = 2 ∨ c = 3 ∨ c = 4 ∨ c = 5 ∨ c = 6 ∨ c = 7 ∨ c = 8 ∨ c = 9 by omega) with h | h | h | h | h | h | h | h | h | h <;> subst h
  · exact tyX0_ok
  · exact tyX2_ok
  · exact tyX3_ok
  · exact tyX4_ok
  · exact tyX5_ok
  · exact tyX6_ok
  · exact tyX7_ok
  · exact tyX8_ok
  · exact tyX9_ok
  · exact tyX10_ok
theorem fnm_at {c : Nat} (h : c < 10) : ∀ a, a < fKN c → ∀ b, b < fKN c → a ≠ b → (fKT c a).2.1 ≠ (fKT c b).2.1 := by
  rcases (show c = 0 ∨ c = 1 ∨ c = 2 ∨ c = 3 ∨ c = 4 ∨ c = 5 ∨ c = 6 ∨ c = 7 ∨ c = 8 ∨ c = 9 by omega) with h | h | h | h | h | h | h | h | h | h <;> subst h
  · exact nmX0
  · exact nmX2
  · exact nmX3
  · exact nmX4
  · exact nmX5
  · exact nmX6
  · exact nmX7
  · exact nmX8
  · exact nmX9
  · exact nmX10
/-! what a state must say of the tables and of the old heap; it goes over to every callee -/
def fnw (w : Cond) : Bool := match w with
  | .fieldLinkNest .. => true
  | .methodLinkNest .. => true
  | .castable .. => true
  | .declares .. => true
  | _ => false
/-- texts of exceptions: place and text, in the class FrostMason -/
def fstr : List (Nat × String) := [(100, "so many bytes are not on the tape"), (148, "no such what"), (331, "no such slot"), (345, "no such number"), (334, "no such order"), (186, "no such piece"), (336, "slots that are not alive"), (338, "more slots than there is water for"), (342, "all nights are gone"), (261, "no such slots")]
/-- classes of exceptions that are not each other's -/
def fnc : List (String × String) := [("java/lang/IllegalArgumentException", "java/util/NoSuchElementException"), ("java/lang/IllegalArgumentException", "java/lang/IndexOutOfBoundsException"), ("java/lang/IllegalStateException", "java/lang/IllegalArgumentException")]
/-- the words that a quarry knows: their places, their texts, their bytes -/
def fsix : Nat → Nat := fun i => [72, 78, 80, 82, 84, 86, 88].getD i 0
def fstx : Nat → String := fun i => ["block", "slot", "order", "odds", "water", "sledge", "thaw"].getD i ""
def fsby : List (List Int32) := [[98, 108, 111, 99, 107], [115, 108, 111, 116], [111, 114, 100, 101, 114], [111, 100, 100, 115], [119, 97, 116, 101, 114], [115, 108, 101, 100, 103, 101], [116, 104, 97, 119]]
def fsln : List Nat := [5, 4, 5, 4, 5, 6, 4]
def fSt (g : fGP) (s : State) : Prop := vk_S 7 fsln fsby (fun i => gst g (1 + i)) (fun i => gst g (8 + i)) (fAA g) s s.heap ∧ (∀ i, i < 7 → vk_R RX5 (fsix i) (fstx i) (gst g (1 + i)) s) ∧ va_Z RJ0 "COMPACT_STRINGS" "Z" (.int 1) (fAA g) s s.heap ∧ (va_Z RJ3 "SIOOBE_FORMATTER" "Ljava/util/function/BiFunction;" .null (fAA g) s s.heap ∨ va_Z RJ3 "SIOOBE_FORMATTER" "Ljava/util/function/BiFunction;" (.ref (gst g 15)) (fAA g) s s.heap)
theorem fSt.go {g : fGP} {s U : State} (h : fSt g s) (hW : s.WarmedH U.vm) (hk : ∀ a : Nat, a < s.heap.size → ¬ fAA g a → U.heap[a]? = s.heap[a]?) : fSt g U :=
  ⟨(h.1.kept hk).moved hW.alike, fun i hi => (h.2.1 i hi).warm hW, (h.2.2.1.kept hk).moved hW.alike, h.2.2.2.elim (fun q => Or.inl ((q.kept hk).moved hW.alike)) (fun q => Or.inr ((q.kept hk).moved hW.alike))⟩
def fEN (g : fGP) (s : State) : Prop :=
  (∀ w ∈ lw_tbl, goodWord w = true → ∀ a : Array Value, w.before a s = true) ∧ (∀ w ∈ lw_tbl, fnw w = true → va_Nw w s) ∧ va_K (gD g) vwCl (ftys g) s ∧
  (vx_Zq Bundle.tN "UNASSIGNED_STACK" Bundle.steD (fAA g) s s.heap ∧ vx_Zq Bundle.tN "SUPPRESSED_SENTINEL" Bundle.listD (fAA g) s s.heap) ∧
  ((∀ q ∈ fnc, va_Nc q.1 q.2 s) ∧ fSt g s) ∧ (∀ q ∈ fstr, ∃ sa : Nat, vk_R RX9 q.1 q.2 sa s) ∧
  (∀ q ∈ [RX8, RX0, RX7], va_AO q s) ∧ va_AOA .int s ∧ va_X (gbb g) (gLL g) (gxs g) s s.heap ∧ gbb g < gz g ∧ gz g ≤ s.heap.size ∧ (gl g).stackTraces = false
theorem va_AOA.moved {u U : State} (hvm : u.vm.Alike U.vm) (h : va_AOA .int u) : va_AOA .int U := Jvm.Stand.arrayOver_alikeB hvm h
theorem fEN.go {g : fGP} {s U : State} (h : fEN g s) (hW : s.WarmedH U.vm) (hh : ∀ q : Nat, q < gz g → U.heap[q]? = s.heap[q]?) (hz : s.heap.size ≤ U.heap.size) : fEN g U := by
  obtain ⟨h1, h2, h3, ⟨h4, h5⟩, h6, h7, h8, h9, h10, h11, h12, h13⟩ := h
  have hk : ∀ a : Nat, a < s.heap.size → ¬ fAA g a → U.heap[a]? = s.heap[a]? := fun a _ ha => hh a (Nat.not_le.mp ha)
  refine ⟨fun w hw hg a => word_at (args := #[]) hW (good_of_word hg) (h1 w hw hg #[]), fun w hw hn => ?_, va_K.moved hW.alike h3, ⟨(vx_Zq.kept h4 hk).moved hW.alike, (vx_Zq.kept h5 hk).moved hW.alike⟩, ⟨fun q hq => (h6.1 q hq).moved hW.alike, h6.2.go hW hk⟩, fun q hq => ?_, fun q hq => (h8 q hq).moved hW.alike, h9.moved hW.alike, (h10.kept (hh _ h11)).moved hW.alike, h11, Nat.le_trans h12 hz, h13⟩
  · have h := h2 w hw hn
    cases w <;> first | exact va_Nw.warmF hW h | exact va_Nw.warmM hW h | exact va_Nw.warmC hW h | exact va_Nw.warmD hW h | (cases hn)
  · obtain ⟨sa, hs⟩ := h7 q hq
    exact ⟨sa, hs.warm hW⟩
/-! the frame: its method, its locals -/
abbrev fMT : Type := MethodName × ByteArray × Nat × Option FieldType × List (Nat × Nat × Nat × Nat)
abbrev fRes : Type := Option Value ⊕ String
def flv (g : fGP) : Nat → List (Option Value) → List (Nat × Value)
  | _, [] => []
  | i, some v :: t => (i, fvm g v) :: flv g (i + 1) t
  | i, none :: t => flv g (i + 1) t
theorem flv_mem (g : fGP) (L : List (Option Value)) : ∀ (i : Nat) (q : Nat × Value), q ∈ flv g i L ↔ ∃ (j : Nat) (v : Value), L[j]? = some (some v) ∧ q = (i + j, fvm g v) := by
  induction L with
  | nil => intro i q; simp [flv]
  | cons x t ih =>
    intro i q
    cases x with
    | none =>
      rw [flv, ih]
      constructor
      · rintro ⟨j, v, h, rfl⟩
        exact ⟨j + 1, v, by simpa using h, by rw [show i + (j + 1) = i + 1 + j by omega]⟩
      · rintro ⟨j, v, h, rfl⟩
        cases j with
        | zero => simp at h
        | succ j => exact ⟨j, v, by simpa using h, by rw [show i + (j + 1) = i + 1 + j by omega]⟩
    | some w =>
      rw [flv, List.mem_cons, ih]
      constructor
      · rintro (rfl | ⟨j, v, h, rfl⟩)
        · exact ⟨0, w, rfl, rfl⟩
        · exact ⟨j + 1, v, by simpa using h, by rw [show i + (j + 1) = i + 1 + j by omega]⟩
      · rintro ⟨j, v, h, rfl⟩
        cases j with
        | zero =>
          left
          simp at h
          rw [h]
          rfl
        | succ j => exact Or.inr ⟨j, v, by simpa using h, by rw [show i + (j + 1) = i + 1 + j by omega]⟩
def flr (g : fGP) (n : Nat) (ls : Array Slot) (L : List (Option Value)) : Prop := lv_has ls n (flv g 0 L)
def fld (L : List (Option Value)) (k : Nat) : Option Value := (L[k]?).getD none
theorem fld_at {g : fGP} {n : Nat} {ls : Array Slot} {L : List (Option Value)} (h : flr g n ls L) {k : Nat} {v : Value} (hk : fld L k = some v) : ls[k]? = some (.val (fvm g v)) := by
  refine h.2.2 (k, fvm g v) ((flv_mem g L 0 _).mpr ⟨k, v, ?_, by rw [Nat.zero_add]⟩)
  unfold fld at hk
  cases hl : L[k]? with
  | none => rw [hl] at hk; cases hk
  | some x => rw [hl] at hk; exact congrArg some hk
/-- the locals behind a store; a long ahead of the place is lost -/
def fclr1 (L : List (Option Value)) (j : Nat) : List (Option Value) := match fld L j with
  | some (.long _) => L.set j none
  | some (.double _) => L.set j none
  | _ => L
def fclr (L : List (Option Value)) (k : Nat) : List (Option Value) := match k with
  | 0 => L
  | j + 1 => fclr1 L j
def fst1 (L : List (Option Value)) (k : Nat) (v : Value) : List (Option Value) := (fclr L k).set k (some v)
def fst2 (L : List (Option Value)) (k : Nat) (v : Value) : List (Option Value) := ((fclr L k).set (k + 1) none).set k (some v)
theorem fvm_cat (g : fGP) (v : Value) : (fvm g v).category = v.category := by cases v <;> rfl
theorem fclr1_get {L : List (Option Value)} {i j : Nat} {v : Value} (h : (fclr1 L i)[j]? = some (some v)) : L[j]? = some (some v) ∧ ¬ (j = i ∧ v.category = 2) := by
  have key : (L.set i none)[j]? = some (some v) → L[j]? = some (some v) ∧ ¬ (j = i ∧ v.category = 2) := by
    intro h
    by_cases e : j = i
    · subst e
      rw [List.getElem?_set] at h
      simp at h
    · rw [List.getElem?_set_ne (fun x => e x.symm)] at h
      exact ⟨h, fun q => e q.1⟩
  unfold fclr1 at h
  split at h
  · exact key h
  · exact key h
  · next h1 h2 =>
    refine ⟨h, ?_⟩
    rintro ⟨rfl, hc⟩
    have hf : fld L j = some v := by unfold fld; rw [h]; rfl
    cases v with
    | long x => exact h1 x hf
    | double x => exact h2 x hf
    | _ => simp [Value.category] at hc
theorem fclr_get {L : List (Option Value)} {k j : Nat} {v : Value} (h : (fclr L k)[j]? = some (some v)) : L[j]? = some (some v) ∧ ¬ (j + 1 = k ∧ v.category = 2) := by
  cases k with
  | zero => exact ⟨h, fun e => by omega⟩
  | succ i =>
    obtain ⟨h1, h2⟩ := fclr1_get (L := L) (i := i) h
    exact ⟨h1, fun e => h2 ⟨by omega, e.2⟩⟩
theorem fst1_ok {g : fGP} {n k : Nat} {ls' : Array Slot} {L : List (Option Value)} {v : Value} (h : lv_has ls' n ((k, fvm g v) :: (flv g 0 L).filter (fun q => !(q.1 == k) && !(q.1 + 1 == k && q.2.category == 2)))) : flr g n ls' (fst1 L k v) := by
  refine ⟨h.1, h.2.1, fun q hq => h.2.2 q ?_⟩
  obtain ⟨j, w, hj, rfl⟩ := (flv_mem g _ 0 q).mp hq
  rw [Nat.zero_add]
  unfold fst1 at hj
  by_cases e : j = k
  · subst e
    by_cases hl : j < (fclr L j).length
    · rw [List.getElem?_set_self hl] at hj
      cases hj
      exact List.mem_cons_self
    · rw [List.getElem?_eq_none (by rw [List.length_set]; omega)] at hj
      cases hj
  · rw [List.getElem?_set_ne (fun x => e x.symm)] at hj
    obtain ⟨h1, h2⟩ := fclr_get hj
    refine List.mem_cons_of_mem _ (List.mem_filter.mpr ⟨(flv_mem g L 0 _).mpr ⟨j, w, h1, by rw [Nat.zero_add]⟩, ?_⟩)
    simp only [fvm_cat]
    by_cases e2 : j + 1 = k
    · have : ¬ w.category = 2 := fun x => h2 ⟨e2, x⟩
      simp [e, this]
    · simp [e, e2]
theorem fst2_ok {g : fGP} {n k : Nat} {ls' : Array Slot} {L : List (Option Value)} {v : Value} (h : lv_has ls' n ((k, fvm g v) :: (flv g 0 L).filter (fun q => !(q.1 == k) && (!(q.1 == k + 1) && !(q.1 + 1 == k && q.2.category == 2))))) : flr g n ls' (fst2 L k v) := by
  refine ⟨h.1, h.2.1, fun q hq => h.2.2 q ?_⟩
  obtain ⟨j, w, hj, rfl⟩ := (flv_mem g _ 0 q).mp hq
  rw [Nat.zero_add]
  unfold fst2 at hj
  by_cases e : j = k
  · subst e
    by_cases hl : j < ((fclr L j).set (j + 1) none).length
    · rw [List.getElem?_set_self hl] at hj
      cases hj
      exact List.mem_cons_self
    · rw [List.getElem?_eq_none (by rw [List.length_set]; omega)] at hj
      cases hj
  · rw [List.getElem?_set_ne (fun x => e x.symm)] at hj
    by_cases e1 : j = k + 1
    · subst e1
      by_cases hl : k + 1 < (fclr L k).length
      · rw [List.getElem?_set_self hl] at hj
        cases hj
      · rw [List.getElem?_eq_none (by rw [List.length_set]; omega)] at hj
        cases hj
    · rw [List.getElem?_set_ne (fun x => e1 x.symm)] at hj
      obtain ⟨h1, h2⟩ := fclr_get hj
      refine List.mem_cons_of_mem _ (List.mem_filter.mpr ⟨(flv_mem g L 0 _).mpr ⟨j, w, h1, by rw [Nat.zero_add]⟩, ?_⟩)
      simp only [fvm_cat]
      by_cases e2 : j + 1 = k
      · have : ¬ w.category = 2 := fun x => h2 ⟨e2, x⟩
        simp [e, e1, this]
      · simp [e, e1, e2]
/-! the judgement -/
def fCX (g : fGP) (d : Nat) (M : fMT) (σ : fAH) (p : Program) (R : Room) (s : State) (m : MethodId) (meth : Method) (c : Code) (H : Heap) (locs : List Loc) (cells slots : Nat) : Prop :=
  p.tables.exec = Jvm.exec ∧ c.code = M.2.1 ∧ fEN g s ∧ s.vm.findClass M.1.cls = some m.cls ∧ c.maxLocals = M.2.2.1 ∧ meth.sig.returnType = M.2.2.2.1 ∧ meth.locks = false ∧ meth.name = M.1.name ∧ c.exceptionTable.toList = tableOf M.2.2.2.2 ∧
  (d + 10 ≤ R.frames ∧ 64 * d + 300 ≤ R.locals) ∧ (cells + (601024 - (fnx σ + fgb σ)) ≤ R.cells ∧ slots + (7293034 - fsu σ) ≤ R.slots) ∧ fRP g σ H ∧ va_S (fAA g) s.heap H locs
def fOR (g : fGP) (s t : State) (r : fRes) (o : Outcome) : Prop := match r with
  | .inl v => o = .returned (v.map (fvm g))
  | .inr E => ∃ (q : Addr) (ce : Cell), o = .threw q ∧ t.heap[q]? = some ce ∧ ce.vm = .none ∧ s.vm.findClass E = some ce.cls
def fEQ (g : fGP) (s : State) (R : Room) (below : List Frame) (Q : fRes → fAH → Prop) : State → Prop := fun t =>
  t.status = .running ∧ s.WarmedH t.vm ∧ ∃ (r : fRes) (σ : fAH) (o : Outcome) (L : List Loc) (k n : Nat), Q r σ ∧ Ended t below o ∧ fOR g s t r o ∧ fRP g σ t.heap ∧ s.sameButNew ({ t with vm := s.vm } : State) L k n ∧ (∀ q ∈ L, fAA g q.base) ∧
    (k + (601024 - (fnx σ + fgb σ)) ≤ R.cells ∧ n + (7293034 - fsu σ) ≤ R.slots)
def fEv (g : fGP) (d : Nat) (M : fMT) (pc : Nat) (L : List (Option Value)) (st : List Value) (σ : fAH) (Q : fRes → fAH → Prop) : Prop :=
  ∀ (p : Program) (e : Env) (R : Room) (s : State) (m : MethodId) (args : Array Value) (below : List Frame) (meth : Method) (c : Code) (H : Heap) (locs : List Loc) (cells slots : Nat) (ls : Array Slot),
    fCX g d M σ p R s m meth c H locs cells slots → flr g M.2.2.1 ls L → W p (gl g) e R s m args below meth c H locs cells slots (fEQ g s R below Q) (F0 m pc ls (st.map (fvm g)))
