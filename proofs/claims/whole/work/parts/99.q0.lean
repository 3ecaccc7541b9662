/-! ===== the world while it is made: no cell has been let go; what lies ahead is empty ===== -/
def fZ (n : Nat) (R : Nat → Nat → Option Nat) (I : Nat → Nat → Int32) (J : Nat → Nat → Int64) : Prop := ∀ a, n ≤ a → ∀ j, R a j = none ∧ I a j = 0 ∧ J a j = 0
theorem fZ.to {n m : Nat} {R : Nat → Nat → Option Nat} {I : Nat → Nat → Int32} {J : Nat → Nat → Int64} (h : fZ n R I J) (e : n ≤ m) : fZ m R I J := fun a ha => h a (Nat.le_trans e ha)
theorem fZ.up {n k j : Nat} {v : Option Nat} {R : Nat → Nat → Option Nat} {I : Nat → Nat → Int32} {J : Nat → Nat → Int64} (h : fZ n R I J) (hk : k < n) : fZ n (fup R k j v) I J := fun a ha i => ⟨by
  show (if a = k ∧ i = j then v else R a i) = none
  rw [if_neg (by omega)]
  exact (h a ha i).1, (h a ha i).2⟩
theorem fZ.ij {n : Nat} {R : Nat → Nat → Option Nat} {I I' : Nat → Nat → Int32} {J J' : Nat → Nat → Int64} (h : fZ n R I J) (e : ∀ a, n ≤ a → I' a = I a ∧ J' a = J a) : fZ n R I' J' := fun a ha i => ⟨(h a ha i).1, by rw [(e a ha).1]; exact (h a ha i).2.1, by rw [(e a ha).2]; exact (h a ha i).2.2⟩
theorem fup_same {α : Type} {f : Nat → Nat → α} {k j : Nat} {v : α} (h : f k j = v) : fup f k j v = f := by
  funext a b
  show (if a = k ∧ b = j then v else f a b) = f a b
  by_cases e : a = k ∧ b = j
  · rw [if_pos e, e.1, e.2]; exact h.symm
  · rw [if_neg e]
theorem fup_s {α : Type} {f : Nat → Nat → α} {k j : Nat} {v : α} : fup f k j v k j = v := if_pos ⟨rfl, rfl⟩
theorem fup_o {α : Type} {f : Nat → Nat → α} {k j a b : Nat} {v : α} (h : ¬ (a = k ∧ b = j)) : fup f k j v a b = f a b := if_neg h
theorem fgrow_z {n u k w : Nat} {R : Nat → Nat → Option Nat} {I : Nat → Nat → Int32} {J : Nat → Nat → Int64} (h : fZ n R I J) : fgrow ((n, 0, u), R, I, J) k w = ((n + k, 0, u + w), R, I, J) := by
  have e1 : (fun a j => if n ≤ a ∧ a < n + k then none else R a j) = R := by
    funext a j
    by_cases e : n ≤ a ∧ a < n + k
    · rw [if_pos e]; exact (h a e.1 j).1.symm
    · rw [if_neg e]
  have e2 : (fun a j => if n ≤ a ∧ a < n + k then 0 else I a j) = I := by
    funext a j
    by_cases e : n ≤ a ∧ a < n + k
    · rw [if_pos e]; exact (h a e.1 j).2.1.symm
    · rw [if_neg e]
  have e3 : (fun a j => if n ≤ a ∧ a < n + k then 0 else J a j) = J := by
    funext a j
    by_cases e : n ≤ a ∧ a < n + k
    · rw [if_pos e]; exact (h a e.1 j).2.2.symm
    · rw [if_neg e]
  show ((n + k, 0, u + w), (fun a j => if n ≤ a ∧ a < n + k then none else R a j), (fun a j => if n ≤ a ∧ a < n + k then 0 else I a j), (fun a j => if n ≤ a ∧ a < n + k then 0 else J a j)) = _
  rw [e1, e2, e3]
def fmR (R : Nat → Nat → Option Nat) (n N : Nat) : Nat → Nat → Option Nat := fun k j => if k = n then (if j < N then some (n + 1 + j) else none) else R k j
theorem fZ.mR {n N : Nat} {R : Nat → Nat → Option Nat} {I : Nat → Nat → Int32} {J : Nat → Nat → Int64} (h : fZ n R I J) : fZ (n + (1 + N)) (fmR R n N) I J := fun a ha i => ⟨by
  show (if a = n then _ else R a i) = none
  rw [if_neg (by omega)]
  exact (h a (by omega) i).1, (h a (by omega) i).2⟩
theorem fmna_z {n u N K : Nat} {R : Nat → Nat → Option Nat} {I : Nat → Nat → Int32} {J : Nat → Nat → Int64} (h : fZ n R I J) : fmna ((n, 0, u), R, I, J) N K = ((n + (1 + N), 0, u + (N + N * K)), fmR R n N, I, J) := by
  unfold fmna
  rw [fgrow_z h]
  rfl
section FQ0
variable {g : fGP} {d : Nat} {M : fMT} {pc : Nat} {L : List (Option Value)} {st : List Value} {Q : fRes → fAH → Prop} {R : Nat → Nat → Option Nat} {I : Nat → Nat → Int32} {J : Nat → Nat → Int64} {n u : Nat}
theorem n_new {idx c9 : Nat} (n' u' : Nat) (hd : decode M.2.1 pc = .ok (.new idx, 3)) (hw : Cond.classLink M.1.cls idx (fKC c9) ∈ lw_tbl ∧ Cond.instantiable (fKC c9) (fKN c9) ∈ lw_tbl ∧ Cond.initialized (fKC c9) ∈ lw_tbl) (hc9 : c9 < 10) (hz : fZ n R I J) (hs : gsh g n = .inl c9) (hc : n + 1 ≤ 601024) (hsl : u + fKN c9 ≤ 7293034) (en : n' = n + 1) (eu : u' = u + fKN c9) (h : fEv g d M (pc + 3) L (.ref n :: st) ((n', 0, u'), R, I, J) Q) : fEv g d M pc L st ((n, 0, u), R, I, J) Q := by
  subst en eu
  exact e_new hd hw hc9 hs rfl hc hsl (by rw [fgrow_z hz]; exact h)
theorem n_newarr {t N : Nat} {i : Int32} {at9 : ArrayType} (n' u' : Nat) (hd : decode M.2.1 pc = .ok (.newarray at9, 2)) (hat : newarray.typeOf at9 = fTy t) (ht : t < 3) (hw : Cond.arrayClass (fTy t) ∈ lw_tbl) (hi : i = nI N) (hN : N < 60000000) (hz : fZ n R I J) (hs : gsh g n = .inr (t, N)) (hc : n + 1 ≤ 601024) (hsl : u + N ≤ 7293034) (en : n' = n + 1) (eu : u' = u + N) (h : fEv g d M (pc + 2) L (.ref n :: st) ((n', 0, u'), R, I, J) Q) : fEv g d M pc L (.int i :: st) ((n, 0, u), R, I, J) Q := by
  subst en eu
  exact e_newarr hd hat ht hw hi hN hs rfl hc hsl (by rw [fgrow_z hz]; exact h)
theorem n_anew {idx t N : Nat} {i : Int32} {C9 : String} (n' u' : Nat) (hd : decode M.2.1 pc = .ok (.anewarray idx, 3)) (hw : Cond.classLink M.1.cls idx C9 ∈ lw_tbl) (hC9 : C9 ∈ [RX8, RX0, RX7]) (ht : 3 ≤ t ∧ t < 6) (hty : fTy t = .object C9) (hi : i = nI N) (hN : N < 60000000) (hz : fZ n R I J) (hs : gsh g n = .inr (t, N)) (hc : n + 1 ≤ 601024) (hsl : u + N ≤ 7293034) (en : n' = n + 1) (eu : u' = u + N) (h : fEv g d M (pc + 3) L (.ref n :: st) ((n', 0, u'), R, I, J) Q) : fEv g d M pc L (.int i :: st) ((n, 0, u), R, I, J) Q := by
  subst en eu
  exact e_anew hd hw hC9 ht hty hi hN hs rfl hc hsl (by rw [fgrow_z hz]; exact h)
theorem n_mna {idx N K : Nat} {i k : Int32} (n' u' : Nat) (hd : decode M.2.1 pc = .ok (.multianewarray idx 2, 4)) (hw : Cond.classLink M.1.cls idx "[[I" ∈ lw_tbl) (hw2 : Cond.arrayClass .int ∈ lw_tbl) (hi : i = nI N) (hk : k = nI K) (hN : N < 60000) (hK : K < 60000) (hz : fZ n R I J) (hs : gsh g n = .inr (6, N)) (hs2 : ∀ q, q < N → gsh g (n + 1 + q) = .inr (0, K)) (hc : n + (1 + N) ≤ 601024) (hsl : u + (N + N * K) ≤ 7293034) (en : n' = n + (1 + N)) (eu : u' = u + (N + N * K)) (h : fEv g d M (pc + 4) L (.ref n :: st) ((n', 0, u'), fmR R n N, I, J) Q) : fEv g d M pc L (.int k :: .int i :: st) ((n, 0, u), R, I, J) Q := by
  subst en eu
  exact e_mna hd hw hw2 hi hk hN hK hs hs2 rfl hc hsl (by rw [fmna_z hz]; exact h)
theorem n_putR {idx c k j v : Nat} (hd : decode M.2.1 pc = .ok (.putfield idx, 3)) (hF : fFL M.1.cls idx c j) (hs : gsh g k = .inl c) (hk : k < n) (hfin : (fKT c j).2.2.2 = true) (hin : M.1.name = "<init>") (hdecl : (fKT c j).1 = M.1.cls) (hF2 : Cond.fieldLink M.1.cls idx (fKT c j).1 (fKT c j).2.1 (fKT c j).2.2.1 ∈ lw_tbl) (hy : frt (fKy c j) = true) (hv : v < fscr) (h : fEv g d M (pc + 3) L st ((n, 0, u), fup R k j (some v), I, J) Q) : fEv g d M pc L (.ref v :: .ref k :: st) ((n, 0, u), R, I, J) Q :=
  e_putR hd hF hs hk hfin hin hdecl hF2 hy hv h
theorem n_putI {idx c k j : Nat} {v : Int32} (hd : decode M.2.1 pc = .ok (.putfield idx, 3)) (hF : fFL M.1.cls idx c j) (hs : gsh g k = .inl c) (hk : k < n) (hfin : (fKT c j).2.2.2 = false) (hy : fKy c j = .int) (h : fEv g d M (pc + 3) L st ((n, 0, u), R, fup I k j v, J) Q) : fEv g d M pc L (.int v :: .ref k :: st) ((n, 0, u), R, I, J) Q :=
  e_putI hd hF hs hk hfin hy h
theorem n_putI0 {idx c k j : Nat} {v : Int32} (hd : decode M.2.1 pc = .ok (.putfield idx, 3)) (hF : fFL M.1.cls idx c j) (hs : gsh g k = .inl c) (hk : k < n) (hfin : (fKT c j).2.2.2 = false) (hy : fKy c j = .int) (hv : I k j = v) (h : fEv g d M (pc + 3) L st ((n, 0, u), R, I, J) Q) : fEv g d M pc L (.int v :: .ref k :: st) ((n, 0, u), R, I, J) Q :=
  n_putI hd hF hs hk hfin hy (by rw [fup_same hv]; exact h)
theorem n_putZ0 {idx c k j : Nat} {v : Int32} (hd : decode M.2.1 pc = .ok (.putfield idx, 3)) (hF : fFL M.1.cls idx c j) (hs : gsh g k = .inl c) (hk : k < n) (hfin : (fKT c j).2.2.2 = false) (hy : fKy c j = .boolean) (hb : v = 0 ∨ v = 1) (hv : I k j = v) (h : fEv g d M (pc + 3) L st ((n, 0, u), R, I, J) Q) : fEv g d M pc L (.int v :: .ref k :: st) ((n, 0, u), R, I, J) Q :=
  e_putZ hd hF hs hk hfin hy hb (show fEv g d M (pc + 3) L st ((n, 0, u), R, fup I k j v, J) Q by rw [fup_same hv]; exact h)
theorem n_putL0 {idx c k j : Nat} {v : Int64} (hd : decode M.2.1 pc = .ok (.putfield idx, 3)) (hF : fFL M.1.cls idx c j) (hs : gsh g k = .inl c) (hk : k < n) (hfin : (fKT c j).2.2.2 = false) (hy : fKy c j = .long) (hv : J k j = v) (h : fEv g d M (pc + 3) L st ((n, 0, u), R, I, J) Q) : fEv g d M pc L (.long v :: .ref k :: st) ((n, 0, u), R, I, J) Q :=
  e_putL hd hF hs hk hfin hy (show fEv g d M (pc + 3) L st ((n, 0, u), R, I, fup J k j v) Q by rw [fup_same hv]; exact h)
theorem n_aast {k t N q cq : Nat} {i : Int32} (j : Nat) (hd : decode M.2.1 pc = .ok (.aastore, 1)) (hs : gsh g k = .inr (t, N)) (ht : 3 ≤ t ∧ t < 6) (hk : k < n) (hi : i = nI j) (hj : j < N) (hN : N < 2147483648) (hq : q < n) (hsq : gsh g q = .inl cq) (hcq : cq < 10) (htq : fTy t = .object (fKC cq)) (h : fEv g d M (pc + 1) L st ((n, 0, u), fup R k j (some q), I, J) Q) : fEv g d M pc L (.ref q :: .int i :: .ref k :: st) ((n, 0, u), R, I, J) Q :=
  e_aastore j hd hs ht hk hi hj hN hq hsq hcq htq h
end FQ0
/-! the references that a constructor lays -/
def gRf (R : Nat → Nat → Option Nat) (q : Nat) : Nat → Nat → Option Nat := fup (fup (fup (fup (fup R q 0 (some (q + 1))) q 1 (some (q + 2))) q 2 (some (q + 3))) q 3 (some (q + 4))) q 4 (some (q + 5))
def yRf (R : Nat → Nat → Option Nat) (k q : Nat) : Nat → Nat → Option Nat := fup (fup (fup (fup (fup (fup (fup R k 1 (some (k + 1))) k 3 (some (k + 2))) k 5 (some (k + 3))) k 6 (some (k + 4))) k 7 (some (k + 5))) k 8 (some (k + 6))) k 0 (some q)
def dRf (R : Nat → Nat → Option Nat) (k : Nat) : Nat → Nat → Option Nat := fup (fup R k 0 (some (k + 1))) k 2 (some (k + 2))
def wRf (R : Nat → Nat → Option Nat) (k : Nat) : Nat → Nat → Option Nat := fup R k 0 (some (k + 1))
def tRf (R : Nat → Nat → Option Nat) (k : Nat) : Nat → Nat → Option Nat := fup (fup (fup R k 0 (some (k + 1))) k 1 (some (k + 2))) k 2 (some (k + 3))
def rRf (R : Nat → Nat → Option Nat) (k t : Nat) : Nat → Nat → Option Nat := fup (fup (gRf R (k + 1)) k 1 (some (k + 1))) k 0 (some t)
def oRf (R : Nat → Nat → Option Nat) (k q : Nat) : Nat → Nat → Option Nat := fup (wRf (fup (yRf (fup (wRf (fup (yRf (fup (fup (fup R k 1 (some (k + 1))) k 2 (some (k + 2))) k 0 (some q)) (k + 3) q) (k + 1) 0 (some (k + 3))) (k + 10)) (k + 2) 0 (some (k + 10))) (k + 12) q) (k + 1) 1 (some (k + 12))) (k + 19)) (k + 2) 1 (some (k + 19))
section FQ1
variable {R : Nat → Nat → Option Nat} {I : Nat → Nat → Int32} {J : Nat → Nat → Int64} {n : Nat}
theorem fZ.gR {q : Nat} (h : fZ n R I J) (hq : q < n) : fZ n (gRf R q) I J := ((((h.up hq).up hq).up hq).up hq).up hq
theorem fZ.yR {k q : Nat} (h : fZ n R I J) (hk : k < n) : fZ n (yRf R k q) I J := ((((((h.up hk).up hk).up hk).up hk).up hk).up hk).up hk
theorem fZ.dR {k : Nat} (h : fZ n R I J) (hk : k < n) : fZ n (dRf R k) I J := (h.up hk).up hk
theorem fZ.wR {k : Nat} (h : fZ n R I J) (hk : k < n) : fZ n (wRf R k) I J := h.up hk
theorem fZ.tR {k : Nat} (h : fZ n R I J) (hk : k < n) : fZ n (tRf R k) I J := ((h.up hk).up hk).up hk
theorem fZ.rR {k t : Nat} (h : fZ n R I J) (hk : k + 1 < n) : fZ n (rRf R k t) I J := ((h.gR hk).up (by omega)).up (by omega)
theorem gRf_o {q a j : Nat} (h : a ≠ q) : gRf R q a j = R a j := by
  unfold gRf
  rw [fup_o (fun e => h e.1), fup_o (fun e => h e.1), fup_o (fun e => h e.1), fup_o (fun e => h e.1), fup_o (fun e => h e.1)]
theorem yRf_o {k q a j : Nat} (h : a ≠ k) : yRf R k q a j = R a j := by
  unfold yRf
  rw [fup_o (fun e => h e.1), fup_o (fun e => h e.1), fup_o (fun e => h e.1), fup_o (fun e => h e.1), fup_o (fun e => h e.1), fup_o (fun e => h e.1), fup_o (fun e => h e.1)]
theorem dRf_o {k a j : Nat} (h : a ≠ k) : dRf R k a j = R a j := by
  unfold dRf
  rw [fup_o (fun e => h e.1), fup_o (fun e => h e.1)]
theorem wRf_o {k a j : Nat} (h : a ≠ k) : wRf R k a j = R a j := by
  unfold wRf
  rw [fup_o (fun e => h e.1)]
theorem tRf_o {k a j : Nat} (h : a ≠ k) : tRf R k a j = R a j := by
  unfold tRf
  rw [fup_o (fun e => h e.1), fup_o (fun e => h e.1), fup_o (fun e => h e.1)]
theorem rRf_o {k t a j : Nat} (h : a ≠ k ∧ a ≠ k + 1) : rRf R k t a j = R a j := by
  unfold rRf
  rw [fup_o (fun e => h.1 e.1), fup_o (fun e => h.1 e.1), gRf_o h.2]
theorem oRf_o {k q a j : Nat} (h : ¬ (k ≤ a ∧ a < k + 21)) : oRf R k q a j = R a j := by
  unfold oRf
  rw [fup_o (by omega), wRf_o (by omega), fup_o (by omega), yRf_o (by omega), fup_o (by omega), wRf_o (by omega), fup_o (by omega), yRf_o (by omega), fup_o (by omega), fup_o (by omega), fup_o (by omega)]
end FQ1
