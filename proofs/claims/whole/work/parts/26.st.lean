/-! the same heap, but for the cells that A holds of -/
def fSm (A : Nat → Prop) (σ σ' : fAH) : Prop := σ'.1 = σ.1 ∧ fR σ' = fR σ ∧ ∀ a, ¬ A a → fI σ' a = fI σ a ∧ fJ σ' a = fJ σ a
theorem fSm.rfl' {A : Nat → Prop} {σ : fAH} : fSm A σ σ := ⟨rfl, rfl, fun _ _ => ⟨rfl, rfl⟩⟩
theorem fSm.tr {A : Nat → Prop} {σ σ1 σ2 : fAH} (h : fSm A σ σ1) (h' : fSm A σ1 σ2) : fSm A σ σ2 := ⟨h'.1.trans h.1, h'.2.1.trans h.2.1, fun a na => ⟨(h'.2.2 a na).1.trans (h.2.2 a na).1, (h'.2.2 a na).2.trans (h.2.2 a na).2⟩⟩
theorem fSm.to {A B : Nat → Prop} {σ σ1 : fAH} (h : fSm A σ σ1) (w : ∀ a, A a → B a) : fSm B σ σ1 := ⟨h.1, h.2.1, fun a na => h.2.2 a (fun q => na (w a q))⟩
theorem fSm.n {A : Nat → Prop} {σ σ1 : fAH} (h : fSm A σ σ1) : fnx σ1 = fnx σ := congrArg (fun q => q.1) h.1
theorem fSm.r {A : Nat → Prop} {σ σ1 : fAH} (h : fSm A σ σ1) {k j : Nat} {x : Option Nat} (e : fR σ k j = x) : fR σ1 k j = x := by rw [h.2.1]; exact e
theorem fSm.i {A : Nat → Prop} {σ σ1 : fAH} (h : fSm A σ σ1) {k : Nat} (na : ¬ A k) (j : Nat) : fI σ1 k j = fI σ k j := congrFun (h.2.2 k na).1 j
theorem fSm.j {A : Nat → Prop} {σ σ1 : fAH} (h : fSm A σ σ1) {k : Nat} (na : ¬ A k) (j : Nat) : fJ σ1 k j = fJ σ k j := congrFun (h.2.2 k na).2 j
theorem fSm_I {A : Nat → Prop} {σ : fAH} {k j : Nat} {v : Int32} (h : A k) : fSm A σ (fsI σ k j v) := ⟨rfl, rfl, fun a na => ⟨fup_ne _ _ _ (fun e => na (e ▸ h)), rfl⟩⟩
theorem fSm_J {A : Nat → Prop} {σ : fAH} {k j : Nat} {v : Int64} (h : A k) : fSm A σ (fsJ σ k j v) := ⟨rfl, rfl, fun a na => ⟨rfl, fup_ne _ _ _ (fun e => na (e ▸ h))⟩⟩
theorem fSm_C {A : Nat → Prop} {σ : fAH} {ks kd sp dp n : Nat} (h : A kd) : fSm A σ (fcpy σ ks kd sp dp n) := ⟨rfl, rfl, fun a na => ⟨if_neg (fun (e : a = kd) => na (by rw [e]; exact h)), rfl⟩⟩
theorem fI_I (σ : fAH) (k j : Nat) (v : Int32) (a b : Nat) : fI (fsI σ k j v) a b = if a = k ∧ b = j then v else fI σ a b := rfl
theorem fI_J (σ : fAH) (k j : Nat) (v : Int64) (a b : Nat) : fI (fsJ σ k j v) a b = fI σ a b := rfl
theorem fJ_I (σ : fAH) (k j : Nat) (v : Int32) (a b : Nat) : fJ (fsI σ k j v) a b = fJ σ a b := rfl
theorem fJ_J (σ : fAH) (k j : Nat) (v : Int64) (a b : Nat) : fJ (fsJ σ k j v) a b = if a = k ∧ b = j then v else fJ σ a b := rfl
theorem fI_C (σ : fAH) (ks kd sp dp n a b : Nat) : fI (fcpy σ ks kd sp dp n) a b = if a = kd then (if dp ≤ b ∧ b < dp + n then fI σ ks (sp + (b - dp)) else fI σ kd b) else fI σ a b := by
  show (if a = kd then va_cpy (σ.2.2.1 ks) (σ.2.2.1 kd) sp dp n else σ.2.2.1 a) b = _
  by_cases e : a = kd
  · rw [if_pos e, if_pos e]
    rfl
  · rw [if_neg e, if_neg e]
theorem fMs.sm {g : fGP} {A : Nat → Prop} {σ σ1 : fAH} (h : fMs g σ) (s : fSm A σ σ1) : fMs g σ1 := ⟨h.1, s.n.trans h.2.1, s.2.1.trans h.2.2.1, by have := h.2.2.2; have e : fgb σ1 = fgb σ := congrArg (fun q => q.2.1) s.1; omega⟩
theorem fGs.sm {g : fGP} {A : Nat → Prop} {σ σ1 : fAH} {q : Nat} (h : fGs g σ q) (s : fSm A σ σ1) : fGs g σ1 q := ⟨h.1, by rw [s.n]; exact h.2.1, by rw [s.2.1]; exact h.2.2⟩
theorem fYs.sm {g : fGP} {A : Nat → Prop} {σ σ1 : fAH} {k q : Nat} (h : fYs g σ k q) (s : fSm A σ σ1) : fYs g σ1 k q := ⟨h.1, by rw [s.n]; exact h.2.1, by rw [s.2.1]; exact h.2.2⟩
theorem fGr.sm {A : Nat → Prop} {σ σ1 : fAH} {q : Nat} {D : fSD} (h : fGr σ q D) (s : fSm A σ σ1) (na : ∀ i, i < 6 → ¬ A (q + i)) : fGr σ1 q D := by
  have e0 := (s.2.2 q (na 0 (by decide))).1
  have e1 := (s.2.2 _ (na 1 (by decide))).1
  have e2 := (s.2.2 _ (na 2 (by decide))).1
  have e3 := (s.2.2 _ (na 3 (by decide))).1
  have e4 := (s.2.2 _ (na 4 (by decide))).1
  have e5 := (s.2.2 _ (na 5 (by decide))).1
  unfold fGr
  rw [e0, e1, e2, e3, e4, e5]
  exact h
theorem fYr.sm {A : Nat → Prop} {σ σ1 : fAH} {k : Nat} {D : fSD} {S : Nat → Nat} {m : Nat} {sd : Int32} (h : fYr σ k D S m sd) (s : fSm A σ σ1) (na : ∀ i, i < 7 → ¬ A (k + i)) : fYr σ1 k D S m sd := by
  have e0 := (s.2.2 k (na 0 (by decide))).1
  have e1 := (s.2.2 _ (na 1 (by decide))).1
  have e2 := (s.2.2 _ (na 2 (by decide))).1
  have e3 := (s.2.2 _ (na 3 (by decide))).1
  have e6 := (s.2.2 _ (na 6 (by decide))).1
  unfold fYr
  rw [e0, e1, e2, e3, e6]
  exact h
/-- the yard's row of splits and of colds -/
def fYt (σ : fAH) (k : Nat) (S : Nat → Nat) (T : Nat → Int32) : Prop := (∀ i, i < S 152 → ∀ c, c < 4 → fI σ (k + 5) (i * 4 + c) = T (i * 4 + c)) ∧ ∀ t, t < S 155 → fI σ (k + 4) t = T (100 + t)
theorem fYt.sm {A : Nat → Prop} {σ σ1 : fAH} {k : Nat} {S : Nat → Nat} {T : Nat → Int32} (h : fYt σ k S T) (s : fSm A σ σ1) (na : ∀ i, i < 7 → ¬ A (k + i)) : fYt σ1 k S T := by
  have e4 := (s.2.2 _ (na 4 (by decide))).1
  have e5 := (s.2.2 _ (na 5 (by decide))).1
  unfold fYt
  rw [e4, e5]
  exact h
theorem fMr.smm {A : Nat → Prop} {σ σ1 : fAH} {D : fSD} {S : Nat → Nat} {sd : Int32} (h : fMr σ D S sd) (s : fSm A σ σ1) (hD : fWD D) (na : ∀ i, 92 ≤ i → i < 198 → ¬ A i) : fMr σ1 D S sd := by
  obtain ⟨t0, t1, t2, t3, t4, t5, t6⟩ := id hD.1
  obtain ⟨h1, h2, h3, h4, h5, h6, h7⟩ := h
  refine ⟨fun i hi => ?_, fun b hb c hc => ?_, fun b hb c hc => ?_, fun b hb c hc => ?_, fun b hb c hc => ?_, fun i hi => ?_, ?_⟩
  · rw [s.i (na 92 (by omega) (by omega))]; exact h1 i hi
  · rw [s.i (na _ (by omega) (by omega))]; exact h2 b hb c hc
  · rw [s.i (na _ (by omega) (by omega))]; exact h3 b hb c hc
  · rw [s.i (na _ (by omega) (by omega))]; exact h4 b hb c hc
  · rw [s.i (na _ (by omega) (by omega))]; exact h5 b hb c hc
  · rw [s.i (na 197 (by omega) (by omega))]; exact h6 i hi
  · rw [s.i (na 197 (by omega) (by omega))]; exact h7
/-- the reference's rows of splits and of colds -/
def fMt (σ : fAH) (S : Nat → Nat) (T : Nat → Int32) : Prop := (∀ i, i < S 152 → ∀ c, c < 4 → fI σ (283 + i) c = T (i * 4 + c)) ∧ ∀ t, t < S 155 → fI σ 220 t = T (100 + t)
theorem fMt.sm {A : Nat → Prop} {σ σ1 : fAH} {S : Nat → Nat} {T : Nat → Int32} (h : fMt σ S T) (s : fSm A σ σ1) (na : ∀ i, i < 75 → ¬ A (220 + i)) (hS : S 152 ≤ 12) : fMt σ1 S T := by
  refine ⟨fun i hi c hc => ?_, fun t ht => ?_⟩
  · rw [s.i (by have := na (63 + i) (by omega); rwa [show 220 + (63 + i) = 283 + i by omega] at this)]
    exact h.1 i hi c hc
  · rw [s.i (na 0 (by omega))]
    exact h.2 t ht
/-! changes of the state -/
def mup (S : Nat → Nat) (i v : Nat) : Nat → Nat := fun j => if j = i then v else S j
theorem mup_s (S : Nat → Nat) (i v : Nat) : mup S i v i = v := if_pos rfl
theorem mup_n (S : Nat → Nat) {i j : Nat} (v : Nat) (h : j ≠ i) : mup S i v j = S j := if_neg h
def mTp (T : Nat → Int32) (i : Nat) (v : Int32) : Nat → Int32 := fun j => if j = i then v else T j
theorem fMr.set {σ : fAH} {D : fSD} {S : Nat → Nat} {sd : Int32} (h : fMr σ D S sd) (hD : fWD D) {i v : Nat} (hi : i < 156) (hv : v < 100000) : fMr (fsI σ 197 i (nI v)) D (mup S i v) sd := by
  obtain ⟨t0, t1, t2, t3, t4, t5, t6⟩ := id hD.1
  obtain ⟨h1, h2, h3, h4, h5, h6, h7⟩ := h
  refine ⟨fun i hi => ?_, fun b hb c hc => ?_, fun b hb c hc => ?_, fun b hb c hc => ?_, fun b hb c hc => ?_, fun j hj => ?_, ?_⟩
  · rw [fI_I, if_neg (by omega)]; exact h1 i hi
  · rw [fI_I, if_neg (by omega)]; exact h2 b hb c hc
  · rw [fI_I, if_neg (by omega)]; exact h3 b hb c hc
  · rw [fI_I, if_neg (by omega)]; exact h4 b hb c hc
  · rw [fI_I, if_neg (by omega)]; exact h5 b hb c hc
  · rw [fI_I]
    unfold mup
    by_cases e : j = i
    · rw [if_pos ⟨rfl, e⟩, if_pos e]; exact ⟨rfl, hv⟩
    · rw [if_neg (fun q => e q.2), if_neg e]; exact h6 j hj
  · rw [fI_I, if_neg (by omega)]; exact h7
theorem fMr.setd {σ : fAH} {D : fSD} {S : Nat → Nat} {sd : Int32} (h : fMr σ D S sd) (hD : fWD D) (v : Int32) : fMr (fsI σ 197 156 v) D S v := by
  obtain ⟨t0, t1, t2, t3, t4, t5, t6⟩ := id hD.1
  obtain ⟨h1, h2, h3, h4, h5, h6, h7⟩ := h
  refine ⟨fun i hi => ?_, fun b hb c hc => ?_, fun b hb c hc => ?_, fun b hb c hc => ?_, fun b hb c hc => ?_, fun j hj => ?_, ?_⟩
  · rw [fI_I, if_neg (by omega)]; exact h1 i hi
  · rw [fI_I, if_neg (by omega)]; exact h2 b hb c hc
  · rw [fI_I, if_neg (by omega)]; exact h3 b hb c hc
  · rw [fI_I, if_neg (by omega)]; exact h4 b hb c hc
  · rw [fI_I, if_neg (by omega)]; exact h5 b hb c hc
  · rw [fI_I, if_neg (by omega)]; exact h6 j hj
  · rw [fI_I, if_pos (by decide)]
/-! a split, a bruise, a delivery, a night -/
def mcp (S : Nat → Nat) (p q : Nat) : Nat → Nat := fun j => if q * 6 ≤ j ∧ j < q * 6 + 6 then S (p * 6 + (j - q * 6)) else S j
def mspl (D : fSD) (S : Nat → Nat) (k line : Nat) : Nat → Nat :=
  let p := (mpc D S k).getD 0
  let q := S 120
  let i := 1 + 2 * dS D k 1
  let S1 := mcp S p q
  let S2 := mup S1 (p * 6 + i + 1) line
  let S3 := mup S2 (q * 6 + i) line
  let S4 := mup S3 120 (S3 120 + 1)
  let S5 := mup S4 (133 + k) (S4 155 + 1)
  let S6 := mup S5 152 (S5 152 + 1)
  mup S6 153 (S6 153 + if line = dS D k 2 then 0 else 1)
/-- the split's line in the trace stands as its way from the slot's -/
def mnt (D : fSD) (S : Nat → Nat) (T : Nat → Int32) (k line cold : Nat) : Nat → Int32 := mTp (mTp (mTp (mTp T (S 152 * 4) (nI k)) (S 152 * 4 + 1) (nI (S 155))) (S 152 * 4 + 2) (nI cold)) (S 152 * 4 + 3) (nI line - nI (dS D k 2))
def mbru (S : Nat → Nat) (k : Nat) : Nat → Nat :=
  let S1 := mup S (121 + k) (if 1 < S (121 + k) then S (121 + k) - 1 else 1)
  mup S1 154 (S1 154 + 1)
/-- where a draw leads the line -/
def mdir (D : fSD) (k v : Nat) : Nat := if v = 0 then dS D k 2 - 1 else if v = 1 then dS D k 2 + 1 else dS D k 2
def mln (D : fSD) (S : Nat → Nat) (k v : Nat) : Nat := if mins D S k ((mpc D S k).getD 0) (mdir D k v) then mdir D k v else dS D k 2
section MGO
variable {Z : Type} (dr : Z → Nat × Z)
abbrev fX (Z : Type) : Type := (Nat → Nat) × (Nat → Int32) × Z
def mst (D : fSD) (fill cold k : Nat) (x : fX Z) : fX Z :=
  if fill / 2 ^ k % 2 = 1 ∧ mal D x.1 k = true then
    if mneed D x.1 k ≤ cold then
      if mstr D x.1 k cold then (mspl D x.1 k (mln D x.1 k (dr x.2.2).1), mnt D x.1 x.2.1 k (mln D x.1 k (dr x.2.2).1) cold, (dr x.2.2).2)
      else (mspl D x.1 k (dS D k 2), mnt D x.1 x.2.1 k (dS D k 2) cold, x.2.2)
    else if 0 < cold then (mbru x.1 k, x.2) else x
  else x
def mfrz (D : fSD) (fill cold : Nat) : Nat → Nat → fX Z → fX Z
  | 0, _, x => x
  | n + 1, k, x => mfrz D fill cold n (k + 1) (mst dr D fill cold k x)
end MGO
def mtk (D : fSD) (S : Nat → Nat) (o p : Nat) : Nat → Nat :=
  let S1 := mup S (p * 6 + 5) 0
  let S2 := mup S1 (145 + o) (S1 (145 + o) + 1)
  mup S2 151 (S2 151 + dO D o 4)
/-- pieces for one order: n of them from p on, c sledges gone -/
def mdo (D : fSD) (o : Nat) : Nat → Nat → Nat → (Nat → Nat) → (Nat → Nat) × Nat
  | 0, _, c, S => (S, c)
  | n + 1, p, c, S => if c < dT D 4 ∧ S (145 + o) < dO D o 2 then (if S (p * 6 + 5) = 1 ∧ msz D o (mwd S p) (mhg S p) = true then mdo D o n (p + 1) (c + 1) (mtk D S o p) else mdo D o n (p + 1) c S) else (S, c)
def mdl (D : fSD) : Nat → Nat → Nat → (Nat → Nat) → (Nat → Nat) × Nat
  | 0, _, c, S => (S, c)
  | n + 1, o, c, S => if S 155 ≤ dO D o 3 then mdl D n (o + 1) (mdo D o (S 120) 0 c S).2 (mdo D o (S 120) 0 c S).1 else mdl D n (o + 1) c S
def mslg (D : fSD) (S : Nat → Nat) : Nat → Nat := if S 155 < dT D 5 then (mdl D (dT D 2) 0 0 S).1 else S
/-- the night's end -/
def mend (D : fSD) (S : Nat → Nat) : Nat → Nat := mup (mslg D S) 155 (mslg D S 155 + 1)
