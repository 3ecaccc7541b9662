theorem pw12 {x : fXS} (ok : fOK x) : 2 ^ dT (xD x) 1 ≤ 4096 := Nat.pow_le_pow_right (by decide) (show dT (xD x) 1 ≤ 12 from ok.1.1.2.1)
set_option maxRecDepth 20000 in
theorem c_feed {g : fGP} {d : Nat} {σ : fAH} {Q : fRes → fAH → Prop} {x : fXS} {a b c e4 e5 : Int32} {nn ii : Nat} {o5 o6 : Option Value} (hg : gLL g < 2147483648) (hi6 : ii + 6 ≤ gLL g) (hI : fLI g σ x (nn + 1)) (ht : xt x + 20 ≤ 600) (ha1 : gxs g (ii + 1) = a) (ha2 : gxs g (ii + 2) = b) (ha3 : gxs g (ii + 3) = c) (ha4 : gxs g (ii + 4) = e4) (ha5 : gxs g (ii + 5) = e5) (h : ∀ σ' x' o5 o6, fLI g σ' x' nn → fEv g (d + 45) mL_law 1782 [some (.ref fscr), some (.ref 0), some (.ref 89), some (.ref 300), some (.int (nI ii)), o5, o6, none] [] σ' Q) : fEv g (d + 45) mL_law 184 [some (.ref fscr), some (.ref 0), some (.ref 89), some (.ref 300), some (.int (nI ii)), o5, o6, none] [] σ Q := by
  have okx : fOK (xFed x a b c e4 e5) := (hI.2.1.fed ht)
  refine e_aload_n dL_law_184 rfl rfl ?_
  refine e_aload_n dL_law_185 rfl rfl ?_
  refine e_iload dL_law_186 rfl ?_
  refine e_iconst (nI 1) dL_law_188 (by decide) ?_
  refine e_iadd dL_law_189 ?_
  refine e_int (nI (ii + 1)) (nI_add ii 1) ?_
  refine e_sld (ii + 1) dL_law_190 rfl (by omega) hg ?_
  refine e_int (a) ha1 ?_
  refine e_aload_n dL_law_191 rfl rfl ?_
  refine e_iload dL_law_192 rfl ?_
  refine e_iconst (nI 2) dL_law_194 (by decide) ?_
  refine e_iadd dL_law_195 ?_
  refine e_int (nI (ii + 2)) (nI_add ii 2) ?_
  refine e_sld (ii + 2) dL_law_196 rfl (by omega) hg ?_
  refine e_int (b) ha2 ?_
  refine e_aload_n dL_law_197 rfl rfl ?_
  refine e_iload dL_law_198 rfl ?_
  refine e_iconst (nI 3) dL_law_200 (by decide) ?_
  refine e_iadd dL_law_201 ?_
  refine e_int (nI (ii + 3)) (nI_add ii 3) ?_
  refine e_sld (ii + 3) dL_law_202 rfl (by omega) hg ?_
  refine e_int (c) ha3 ?_
  refine e_aload_n dL_law_203 rfl rfl ?_
  refine e_iload dL_law_204 rfl ?_
  refine e_iconst (nI 4) dL_law_206 (by decide) ?_
  refine e_iadd dL_law_207 ?_
  refine e_int (nI (ii + 4)) (nI_add ii 4) ?_
  refine e_sld (ii + 4) dL_law_208 rfl (by omega) hg ?_
  refine e_int (e4) ha4 ?_
  refine e_aload_n dL_law_209 rfl rfl ?_
  refine e_iload dL_law_210 rfl ?_
  refine e_iconst (nI 5) dL_law_212 (by decide) ?_
  refine e_iadd dL_law_213 ?_
  refine e_int (nI (ii + 5)) (nI_add ii 5) ?_
  refine e_sld (ii + 5) dL_law_214 rfl (by omega) hg ?_
  refine e_int (e5) ha5 ?_
  refine e_callV (k := 0) [.int a, .int b, .int c, .int e4, .int e5] dL_law_215 cc_X9_feed lk_RL_88 im_X9_feed se_X9_feed (by decide) (hI.1.s 0 rfl) (hI.1.n (by decide)) rfl (Nat.le_of_ble_eq_true rfl) (Nat.le_of_ble_eq_true rfl) ?_
  refine t_X9_feed hI.1 hI.2.1 hI.2.2.1 ht (fun σ1 s0 c1 => fK_i ?_)
  show fEv g _ mL_law 218 [some (.ref fscr), some (.ref 0), some (.ref 89), some (.ref 300), some (.int (nI ii)), o5, o6, none] [.int (nI (xt x + 20))] σ1 Q
  have s1 : fSm fClB σ σ1 := s0.to (fun a (q : a < 89) => Or.inl q)
  have r1 := hI.2.2.2.1.clB hI.2.1 s1
  have M1 := hI.1.sm s1
  refine e_aload_n dL_law_218 rfl rfl ?_
  refine e_aload_n dL_law_219 rfl rfl ?_
  refine e_iload dL_law_220 rfl ?_
  refine e_iconst (nI 1) dL_law_222 (by decide) ?_
  refine e_iadd dL_law_223 ?_
  refine e_int (nI (ii + 1)) (nI_add ii 1) ?_
  refine e_sld (ii + 1) dL_law_224 rfl (by omega) hg ?_
  refine e_int (a) ha1 ?_
  refine e_aload_n dL_law_225 rfl rfl ?_
  refine e_iload dL_law_226 rfl ?_
  refine e_iconst (nI 2) dL_law_228 (by decide) ?_
  refine e_iadd dL_law_229 ?_
  refine e_int (nI (ii + 2)) (nI_add ii 2) ?_
  refine e_sld (ii + 2) dL_law_230 rfl (by omega) hg ?_
  refine e_int (b) ha2 ?_
  refine e_aload_n dL_law_231 rfl rfl ?_
  refine e_iload dL_law_232 rfl ?_
  refine e_iconst (nI 3) dL_law_234 (by decide) ?_
  refine e_iadd dL_law_235 ?_
  refine e_int (nI (ii + 3)) (nI_add ii 3) ?_
  refine e_sld (ii + 3) dL_law_236 rfl (by omega) hg ?_
  refine e_int (c) ha3 ?_
  refine e_aload_n dL_law_237 rfl rfl ?_
  refine e_iload dL_law_238 rfl ?_
  refine e_iconst (nI 4) dL_law_240 (by decide) ?_
  refine e_iadd dL_law_241 ?_
  refine e_int (nI (ii + 4)) (nI_add ii 4) ?_
  refine e_sld (ii + 4) dL_law_242 rfl (by omega) hg ?_
  refine e_int (e4) ha4 ?_
  refine e_aload_n dL_law_243 rfl rfl ?_
  refine e_iload dL_law_244 rfl ?_
  refine e_iconst (nI 5) dL_law_246 (by decide) ?_
  refine e_iadd dL_law_247 ?_
  refine e_int (nI (ii + 5)) (nI_add ii 5) ?_
  refine e_sld (ii + 5) dL_law_248 rfl (by omega) hg ?_
  refine e_int (e5) ha5 ?_
  refine e_callV (k := 89) [.int a, .int b, .int c, .int e4, .int e5] dL_law_249 cc_X10_feed lk_RL_92 im_X10_feed se_X10_feed (by decide) (M1.s 89 rfl) (M1.n (by decide)) rfl (Nat.le_of_ble_eq_true rfl) (Nat.le_of_ble_eq_true rfl) ?_
  refine t_X10_feed M1 hI.2.1 r1 ht (fun σ2 s2 r2 z2 => fK_i ?_)
  show fEv g _ mL_law 252 [some (.ref fscr), some (.ref 0), some (.ref 89), some (.ref 300), some (.int (nI ii)), o5, o6, none] [.int (nI (xt x + 20)), .int (nI (xt x + 20))] σ2 Q
  have M2 := M1.sm s2
  refine e_icmp_eq 1782 dL_law_252 (by decide) (fun _ => ?_) (fun c => absurd rfl c)
  exact h σ2 _ _ _ ((hI.both okx s1 c1 s2 r2).le (Nat.le_succ nn))
set_option maxRecDepth 20000 in
theorem c_feedN {g : fGP} {d : Nat} {σ : fAH} {Q : fRes → fAH → Prop} {x : fXS} {a b c e4 e5 : Int32} {nn ii : Nat} {o5 o6 : Option Value} (hg : gLL g < 2147483648) (hi6 : ii + 6 ≤ gLL g) (hI : fLI g σ x (nn + 1)) (ht : ¬ xt x + 20 ≤ 600) (ha1 : gxs g (ii + 1) = a) (ha2 : gxs g (ii + 2) = b) (ha3 : gxs g (ii + 3) = c) (ha4 : gxs g (ii + 4) = e4) (ha5 : gxs g (ii + 5) = e5) (h : ∀ σ' x' o5 o6, fLI g σ' x' nn → fEv g (d + 45) mL_law 1782 [some (.ref fscr), some (.ref 0), some (.ref 89), some (.ref 300), some (.int (nI ii)), o5, o6, none] [] σ' Q) : fEv g (d + 45) mL_law 184 [some (.ref fscr), some (.ref 0), some (.ref 89), some (.ref 300), some (.int (nI ii)), o5, o6, none] [] σ Q := by
  refine e_aload_n dL_law_184 rfl rfl ?_
  refine e_aload_n dL_law_185 rfl rfl ?_
  refine e_iload dL_law_186 rfl ?_
  refine e_iconst (nI 1) dL_law_188 (by decide) ?_
  refine e_iadd dL_law_189 ?_
  refine e_int (nI (ii + 1)) (nI_add ii 1) ?_
  refine e_sld (ii + 1) dL_law_190 rfl (by omega) hg ?_
  refine e_int (a) ha1 ?_
  refine e_aload_n dL_law_191 rfl rfl ?_
  refine e_iload dL_law_192 rfl ?_
  refine e_iconst (nI 2) dL_law_194 (by decide) ?_
  refine e_iadd dL_law_195 ?_
  refine e_int (nI (ii + 2)) (nI_add ii 2) ?_
  refine e_sld (ii + 2) dL_law_196 rfl (by omega) hg ?_
  refine e_int (b) ha2 ?_
  refine e_aload_n dL_law_197 rfl rfl ?_
  refine e_iload dL_law_198 rfl ?_
  refine e_iconst (nI 3) dL_law_200 (by decide) ?_
  refine e_iadd dL_law_201 ?_
  refine e_int (nI (ii + 3)) (nI_add ii 3) ?_
  refine e_sld (ii + 3) dL_law_202 rfl (by omega) hg ?_
  refine e_int (c) ha3 ?_
  refine e_aload_n dL_law_203 rfl rfl ?_
  refine e_iload dL_law_204 rfl ?_
  refine e_iconst (nI 4) dL_law_206 (by decide) ?_
  refine e_iadd dL_law_207 ?_
  refine e_int (nI (ii + 4)) (nI_add ii 4) ?_
  refine e_sld (ii + 4) dL_law_208 rfl (by omega) hg ?_
  refine e_int (e4) ha4 ?_
  refine e_aload_n dL_law_209 rfl rfl ?_
  refine e_iload dL_law_210 rfl ?_
  refine e_iconst (nI 5) dL_law_212 (by decide) ?_
  refine e_iadd dL_law_213 ?_
  refine e_int (nI (ii + 5)) (nI_add ii 5) ?_
  refine e_sld (ii + 5) dL_law_214 rfl (by omega) hg ?_
  refine e_int (e5) ha5 ?_
  refine e_callV (k := 0) [.int a, .int b, .int c, .int e4, .int e5] dL_law_215 cc_X9_feed lk_RL_88 im_X9_feed se_X9_feed (by decide) (hI.1.s 0 rfl) (hI.1.n (by decide)) rfl (Nat.le_of_ble_eq_true rfl) (Nat.le_of_ble_eq_true rfl) ?_
  refine t_X9_feedN hI.1 hI.2.1 hI.2.2.1 ht (fK_i ?_)
  show fEv g _ mL_law 218 [some (.ref fscr), some (.ref 0), some (.ref 89), some (.ref 300), some (.int (nI ii)), o5, o6, none] [.int ((-1))] σ Q
  have r1 := hI.2.2.2.1
  have M1 := hI.1
  have s1 : fSm fClB σ σ := ⟨rfl, rfl, fun _ _ => ⟨rfl, rfl⟩⟩
  have c1 := hI.2.2.1
  refine e_aload_n dL_law_218 rfl rfl ?_
  refine e_aload_n dL_law_219 rfl rfl ?_
  refine e_iload dL_law_220 rfl ?_
  refine e_iconst (nI 1) dL_law_222 (by decide) ?_
  refine e_iadd dL_law_223 ?_
  refine e_int (nI (ii + 1)) (nI_add ii 1) ?_
  refine e_sld (ii + 1) dL_law_224 rfl (by omega) hg ?_
  refine e_int (a) ha1 ?_
  refine e_aload_n dL_law_225 rfl rfl ?_
  refine e_iload dL_law_226 rfl ?_
  refine e_iconst (nI 2) dL_law_228 (by decide) ?_
  refine e_iadd dL_law_229 ?_
  refine e_int (nI (ii + 2)) (nI_add ii 2) ?_
  refine e_sld (ii + 2) dL_law_230 rfl (by omega) hg ?_
  refine e_int (b) ha2 ?_
  refine e_aload_n dL_law_231 rfl rfl ?_
  refine e_iload dL_law_232 rfl ?_
  refine e_iconst (nI 3) dL_law_234 (by decide) ?_
  refine e_iadd dL_law_235 ?_
  refine e_int (nI (ii + 3)) (nI_add ii 3) ?_
  refine e_sld (ii + 3) dL_law_236 rfl (by omega) hg ?_
  refine e_int (c) ha3 ?_
  refine e_aload_n dL_law_237 rfl rfl ?_
  refine e_iload dL_law_238 rfl ?_
  refine e_iconst (nI 4) dL_law_240 (by decide) ?_
  refine e_iadd dL_law_241 ?_
  refine e_int (nI (ii + 4)) (nI_add ii 4) ?_
  refine e_sld (ii + 4) dL_law_242 rfl (by omega) hg ?_
  refine e_int (e4) ha4 ?_
  refine e_aload_n dL_law_243 rfl rfl ?_
  refine e_iload dL_law_244 rfl ?_
  refine e_iconst (nI 5) dL_law_246 (by decide) ?_
  refine e_iadd dL_law_247 ?_
  refine e_int (nI (ii + 5)) (nI_add ii 5) ?_
  refine e_sld (ii + 5) dL_law_248 rfl (by omega) hg ?_
  refine e_int (e5) ha5 ?_
  refine e_callV (k := 89) [.int a, .int b, .int c, .int e4, .int e5] dL_law_249 cc_X10_feed lk_RL_92 im_X10_feed se_X10_feed (by decide) (hI.1.s 89 rfl) (hI.1.n (by decide)) rfl (Nat.le_of_ble_eq_true rfl) (Nat.le_of_ble_eq_true rfl) ?_
  refine t_X10_feedN M1 hI.2.1 r1 ht (fun σ2 s2 r2 z2 => fK_i ?_)
  show fEv g _ mL_law 252 [some (.ref fscr), some (.ref 0), some (.ref 89), some (.ref 300), some (.int (nI ii)), o5, o6, none] [.int ((-1)), .int ((-1))] σ2 Q
  have M2 := M1.sm s2
  refine e_icmp_eq 1782 dL_law_252 (by decide) (fun _ => ?_) (fun c => absurd rfl c)
  exact h σ2 _ _ _ ((hI.both hI.2.1 s1 c1 s2 r2).le (Nat.le_succ nn))
set_option maxRecDepth 20000 in
theorem c_quarry {g : fGP} {d : Nat} {σ : fAH} {Q : fRes → fAH → Prop} {x : fXS} {n : Nat} {nn ii : Nat} {o5 o6 : Option Value} (hg : gLL g < 2147483648) (hi6 : ii + 6 ≤ gLL g) (hI : fLI g σ x (nn + 1)) (hn : n ≤ xt x) (ha1 : gxs g (ii + 1) = nI n) (h : ∀ σ' x' o5 o6, fLI g σ' x' nn → fEv g (d + 45) mL_law 1782 [some (.ref fscr), some (.ref 0), some (.ref 89), some (.ref 300), some (.int (nI ii)), o5, o6, none] [] σ' Q) : fEv g (d + 45) mL_law 257 [some (.ref fscr), some (.ref 0), some (.ref 89), some (.ref 300), some (.int (nI ii)), o5, o6, none] [] σ Q := by
  have okx : fOK (xQ n x) := (fOK.Q hI.2.1 n)
  refine e_aload_n dL_law_257 rfl rfl ?_
  refine e_aload_n dL_law_258 rfl rfl ?_
  refine e_iload dL_law_259 rfl ?_
  refine e_iconst (nI 1) dL_law_261 (by decide) ?_
  refine e_iadd dL_law_262 ?_
  refine e_int (nI (ii + 1)) (nI_add ii 1) ?_
  refine e_sld (ii + 1) dL_law_263 rfl (by omega) hg ?_
  refine e_int (nI n) ha1 ?_
  refine e_aload_n dL_law_264 rfl rfl ?_
  refine e_callS [.ref 0, .int (nI n), .ref 300] dL_law_265 cc_L_quarry lk_RL_93 st_L_quarry in_RL rfl (Nat.le_of_ble_eq_true rfl) (Nat.le_of_ble_eq_true rfl) ?_
  refine t_L_quarry hI.1 hI.2.1 hI.2.2.1 hn okx (fun σ1 s1 c1 v1 => fK_i ?_)
  show fEv g _ mL_law 268 [some (.ref fscr), some (.ref 0), some (.ref 89), some (.ref 300), some (.int (nI ii)), o5, o6, none] [.int (nI 0)] σ1 Q
  have r1 := hI.2.2.2.1.clB hI.2.1 s1
  have M1 := hI.1.sm s1
  refine e_istore (L1 := [some (.ref fscr), some (.ref 0), some (.ref 89), some (.ref 300), some (.int (nI ii)), some (.int (nI 0)), o6, none]) dL_law_268 (by decide) rfl ?_
  refine e_aload_n dL_law_270 rfl rfl ?_
  refine e_aload_n dL_law_271 rfl rfl ?_
  refine e_iload dL_law_272 rfl ?_
  refine e_iconst (nI 1) dL_law_274 (by decide) ?_
  refine e_iadd dL_law_275 ?_
  refine e_int (nI (ii + 1)) (nI_add ii 1) ?_
  refine e_sld (ii + 1) dL_law_276 rfl (by omega) hg ?_
  refine e_int (nI n) ha1 ?_
  refine e_callV (k := 89) [.int (nI n)] dL_law_277 cc_X10_quarry lk_RL_98 im_X10_quarry se_X10_quarry (by decide) (M1.s 89 rfl) (M1.n (by decide)) rfl (Nat.le_of_ble_eq_true rfl) (Nat.le_of_ble_eq_true rfl) ?_
  refine t_X10_quarry M1 hI.2.1 r1 hn (fun σ2 s2 r2 z2 => fK_i ?_)
  show fEv g _ mL_law 280 [some (.ref fscr), some (.ref 0), some (.ref 89), some (.ref 300), some (.int (nI ii)), some (.int (nI 0)), o6, none] [.int (xQv n x)] σ2 Q
  have M2 := M1.sm s2
  refine e_istore (L1 := [some (.ref fscr), some (.ref 0), some (.ref 89), some (.ref 300), some (.int (nI ii)), some (.int (nI 0)), some (.int (xQv n x)), none]) dL_law_280 (by decide) rfl ?_
  refine e_aload_n dL_law_282 rfl rfl ?_
  refine e_callV (k := 89) [] dL_law_283 cc_X10_thrown lk_RL_99 im_X10_thrown se_X10_thrown (by decide) (M2.s 89 rfl) (M2.n (by decide)) rfl (Nat.le_of_ble_eq_true rfl) (Nat.le_of_ble_eq_true rfl) ?_
  refine t_X10_thrown M2 z2 (fK_i ?_)
  show fEv g _ mL_law 286 [some (.ref fscr), some (.ref 0), some (.ref 89), some (.ref 300), some (.int (nI ii)), some (.int (nI 0)), some (.int (xQv n x)), none] [.int (nI 0)] σ2 Q
  refine e_iload dL_law_286 rfl ?_
  refine e_icmp_eq 293 dL_law_288 (by decide) (fun _ => ?_) (fun c => absurd c (by decide))
  refine e_iload dL_law_293 rfl ?_
  refine e_if_ne 310 dL_law_295 (by decide) (fun c => absurd c (by decide)) (fun _ => ?_)
  refine e_aload_n dL_law_298 rfl rfl ?_
  refine e_iconst (nI 0) dL_law_299 (by decide) ?_
  refine e_laload 0 dL_law_300 (M2.s 300 rfl) (M2.n (by decide)) rfl (by omega) (by decide) ?_
  refine e_long (((xQv n x : Int32)).toInt64) ((s2.j (fun q => by unfold fRfA at q; omega) 0).trans v1) ?_
  refine e_iload dL_law_301 rfl ?_
  refine e_i2l dL_law_303 ?_
  refine e_lcmp dL_law_304 ?_
  refine e_if_eq 310 dL_law_305 (by decide) (fun _ => ?_) (fun c => absurd (lc_eq.mpr rfl) c)
  refine e_goto 1782 dL_law_310 (by decide) ?_
  exact h σ2 _ _ _ ((hI.both okx s1 c1 s2 r2).le (Nat.le_succ nn))
set_option maxRecDepth 20000 in
theorem c_quarryE {g : fGP} {d : Nat} {σ : fAH} {Q : fRes → fAH → Prop} {x : fXS} {a : Int32} {nn ii : Nat} {o5 o6 : Option Value} (hg : gLL g < 2147483648) (hi6 : ii + 6 ≤ gLL g) (hI : fLI g σ x (nn + 1)) (hv : ¬ (nI 0 ≤ a ∧ a ≤ nI (xt x))) (ha1 : gxs g (ii + 1) = a) (h : ∀ σ' x' o5 o6, fLI g σ' x' nn → fEv g (d + 45) mL_law 1782 [some (.ref fscr), some (.ref 0), some (.ref 89), some (.ref 300), some (.int (nI ii)), o5, o6, none] [] σ' Q) : fEv g (d + 45) mL_law 257 [some (.ref fscr), some (.ref 0), some (.ref 89), some (.ref 300), some (.int (nI ii)), o5, o6, none] [] σ Q := by
  refine e_aload_n dL_law_257 rfl rfl ?_
  refine e_aload_n dL_law_258 rfl rfl ?_
  refine e_iload dL_law_259 rfl ?_
  refine e_iconst (nI 1) dL_law_261 (by decide) ?_
  refine e_iadd dL_law_262 ?_
  refine e_int (nI (ii + 1)) (nI_add ii 1) ?_
  refine e_sld (ii + 1) dL_law_263 rfl (by omega) hg ?_
  refine e_int (a) ha1 ?_
  refine e_aload_n dL_law_264 rfl rfl ?_
  refine e_callS [.ref 0, .int a, .ref 300] dL_law_265 cc_L_quarry lk_RL_93 st_L_quarry in_RL rfl (Nat.le_of_ble_eq_true rfl) (Nat.le_of_ble_eq_true rfl) ?_
  refine t_L_quarryE hI.1 hI.2.1 hI.2.2.1 hv hI.rm (fK_i ?_)
  show fEv g _ mL_law 268 [some (.ref fscr), some (.ref 0), some (.ref 89), some (.ref 300), some (.int (nI ii)), o5, o6, none] [.int (nI 1)] (fthr σ) Q
  have hJ := hI.thr
  refine e_istore (L1 := [some (.ref fscr), some (.ref 0), some (.ref 89), some (.ref 300), some (.int (nI ii)), some (.int (nI 1)), o6, none]) dL_law_268 (by decide) rfl ?_
  refine e_aload_n dL_law_270 rfl rfl ?_
  refine e_aload_n dL_law_271 rfl rfl ?_
  refine e_iload dL_law_272 rfl ?_
  refine e_iconst (nI 1) dL_law_274 (by decide) ?_
  refine e_iadd dL_law_275 ?_
  refine e_int (nI (ii + 1)) (nI_add ii 1) ?_
  refine e_sld (ii + 1) dL_law_276 rfl (by omega) hg ?_
  refine e_int (a) ha1 ?_
  refine e_callV (k := 89) [.int a] dL_law_277 cc_X10_quarry lk_RL_98 im_X10_quarry se_X10_quarry (by decide) (hJ.1.s 89 rfl) (hJ.1.n (by decide)) rfl (Nat.le_of_ble_eq_true rfl) (Nat.le_of_ble_eq_true rfl) ?_
  refine t_X10_quarryB hJ.1 hJ.2.1 hJ.2.2.2.1 hv (fun σ2 s2 r2 z2 => fK_i ?_)
  show fEv g _ mL_law 280 [some (.ref fscr), some (.ref 0), some (.ref 89), some (.ref 300), some (.int (nI ii)), some (.int (nI 1)), o6, none] [.int (nI 0)] σ2 Q
  have M2 := hJ.1.sm s2
  refine e_istore (L1 := [some (.ref fscr), some (.ref 0), some (.ref 89), some (.ref 300), some (.int (nI ii)), some (.int (nI 1)), some (.int (nI 0)), none]) dL_law_280 (by decide) rfl ?_
  refine e_aload_n dL_law_282 rfl rfl ?_
  refine e_callV (k := 89) [] dL_law_283 cc_X10_thrown lk_RL_99 im_X10_thrown se_X10_thrown (by decide) (M2.s 89 rfl) (M2.n (by decide)) rfl (Nat.le_of_ble_eq_true rfl) (Nat.le_of_ble_eq_true rfl) ?_
  refine t_X10_thrown M2 z2 (fK_i ?_)
  show fEv g _ mL_law 286 [some (.ref fscr), some (.ref 0), some (.ref 89), some (.ref 300), some (.int (nI ii)), some (.int (nI 1)), some (.int (nI 0)), none] [.int (nI 1)] σ2 Q
  refine e_iload dL_law_286 rfl ?_
  refine e_icmp_eq 293 dL_law_288 (by decide) (fun _ => ?_) (fun c => absurd c (by decide))
  refine e_iload dL_law_293 rfl ?_
  refine e_if_ne 310 dL_law_295 (by decide) (fun _ => ?_) (fun c => absurd c (by decide))
  refine e_goto 1782 dL_law_310 (by decide) ?_
  exact h σ2 x _ _ (hJ.sm s2 hI.2.1 (hJ.2.2.1.rf hI.2.1 s2) r2)
set_option maxRecDepth 20000 in
theorem c_fault {g : fGP} {d : Nat} {σ : fAH} {Q : fRes → fAH → Prop} {x : fXS}  {nn ii : Nat} {o5 o6 : Option Value} (hg : gLL g < 2147483648) (hi6 : ii + 6 ≤ gLL g) (hI : fLI g σ x (nn + 1))   (h : ∀ σ' x' o5 o6, fLI g σ' x' nn → fEv g (d + 45) mL_law 1782 [some (.ref fscr), some (.ref 0), some (.ref 89), some (.ref 300), some (.int (nI ii)), o5, o6, none] [] σ' Q) : fEv g (d + 45) mL_law 313 [some (.ref fscr), some (.ref 0), some (.ref 89), some (.ref 300), some (.int (nI ii)), o5, o6, none] [] σ Q := by
  refine e_aload_n dL_law_313 rfl rfl ?_
  refine e_callV (k := 0) [] dL_law_314 cc_X9_fault lk_RL_102 im_X9_fault se_X9_fault (by decide) (hI.1.s 0 rfl) (hI.1.n (by decide)) rfl (Nat.le_of_ble_eq_true rfl) (Nat.le_of_ble_eq_true rfl) ?_
  refine t_X9_fault hI.1 hI.2.1 hI.2.2.1  (fK_i ?_)
  show fEv g _ mL_law 317 [some (.ref fscr), some (.ref 0), some (.ref 89), some (.ref 300), some (.int (nI ii)), o5, o6, none] [.int (xp x)] σ Q
  have r1 := hI.2.2.2.1
  have M1 := hI.1
  have s1 : fSm fClB σ σ := ⟨rfl, rfl, fun _ _ => ⟨rfl, rfl⟩⟩
  have c1 := hI.2.2.1
  refine e_aload_n dL_law_317 rfl rfl ?_
  refine e_callV (k := 89) [] dL_law_318 cc_X10_fault lk_RL_105 im_X10_fault se_X10_fault (by decide) (hI.1.s 89 rfl) (hI.1.n (by decide)) rfl (Nat.le_of_ble_eq_true rfl) (Nat.le_of_ble_eq_true rfl) ?_
  refine t_X10_fault M1 hI.2.1 r1  (fun σ2 s2 r2 z2 => fK_i ?_)
  show fEv g _ mL_law 321 [some (.ref fscr), some (.ref 0), some (.ref 89), some (.ref 300), some (.int (nI ii)), o5, o6, none] [.int (xp x), .int (xp x)] σ2 Q
  have M2 := M1.sm s2
  refine e_icmp_eq 1782 dL_law_321 (by decide) (fun _ => ?_) (fun c => absurd rfl c)
  exact h σ2 _ _ _ ((hI.both hI.2.1 s1 c1 s2 r2).le (Nat.le_succ nn))
set_option maxRecDepth 20000 in
theorem c_told {g : fGP} {d : Nat} {σ : fAH} {Q : fRes → fAH → Prop} {x : fXS} {w : Nat} {nn ii : Nat} {o5 o6 : Option Value} (hg : gLL g < 2147483648) (hi6 : ii + 6 ≤ gLL g) (hI : fLI g σ x (nn + 1)) (hw : w < 8) (ha1 : gxs g (ii + 1) = nI w) (h : ∀ σ' x' o5 o6, fLI g σ' x' nn → fEv g (d + 45) mL_law 1782 [some (.ref fscr), some (.ref 0), some (.ref 89), some (.ref 300), some (.int (nI ii)), o5, o6, none] [] σ' Q) : fEv g (d + 45) mL_law 326 [some (.ref fscr), some (.ref 0), some (.ref 89), some (.ref 300), some (.int (nI ii)), o5, o6, none] [] σ Q := by
  refine e_aload_n dL_law_326 rfl rfl ?_
  refine e_aload_n dL_law_327 rfl rfl ?_
  refine e_iload dL_law_328 rfl ?_
  refine e_iconst (nI 1) dL_law_330 (by decide) ?_
  refine e_iadd dL_law_331 ?_
  refine e_int (nI (ii + 1)) (nI_add ii 1) ?_
  refine e_sld (ii + 1) dL_law_332 rfl (by omega) hg ?_
  refine e_int (nI w) ha1 ?_
  refine e_aload_n dL_law_333 rfl rfl ?_
  refine e_callS [.ref 0, .int (nI w), .ref 300] dL_law_334 cc_L_told lk_RL_106 st_L_told in_RL rfl (Nat.le_of_ble_eq_true rfl) (Nat.le_of_ble_eq_true rfl) ?_
  refine t_L_told hI.1 hI.2.1 hI.2.2.1 hw (fun σ1 s1 c1 v1 => fK_i ?_)
  show fEv g _ mL_law 337 [some (.ref fscr), some (.ref 0), some (.ref 89), some (.ref 300), some (.int (nI ii)), o5, o6, none] [.int (nI 0)] σ1 Q
  have r1 := hI.2.2.2.1.clB hI.2.1 s1
  have M1 := hI.1.sm s1
  refine e_istore (L1 := [some (.ref fscr), some (.ref 0), some (.ref 89), some (.ref 300), some (.int (nI ii)), some (.int (nI 0)), o6, none]) dL_law_337 (by decide) rfl ?_
  refine e_aload_n dL_law_339 rfl rfl ?_
  refine e_aload_n dL_law_340 rfl rfl ?_
  refine e_iload dL_law_341 rfl ?_
  refine e_iconst (nI 1) dL_law_343 (by decide) ?_
  refine e_iadd dL_law_344 ?_
  refine e_int (nI (ii + 1)) (nI_add ii 1) ?_
  refine e_sld (ii + 1) dL_law_345 rfl (by omega) hg ?_
  refine e_int (nI w) ha1 ?_
  refine e_callV (k := 89) [.int (nI w)] dL_law_346 cc_X10_told lk_RL_108 im_X10_told se_X10_told (by decide) (M1.s 89 rfl) (M1.n (by decide)) rfl (Nat.le_of_ble_eq_true rfl) (Nat.le_of_ble_eq_true rfl) ?_
  refine t_X10_told M1 hI.2.1 r1 hw (fun σ2 s2 r2 z2 => fK_i ?_)
  show fEv g _ mL_law 349 [some (.ref fscr), some (.ref 0), some (.ref 89), some (.ref 300), some (.int (nI ii)), some (.int (nI 0)), o6, none] [.int (vTold (xD x) (iS (xI x)) w)] σ2 Q
  have M2 := M1.sm s2
  refine e_istore (L1 := [some (.ref fscr), some (.ref 0), some (.ref 89), some (.ref 300), some (.int (nI ii)), some (.int (nI 0)), some (.int (vTold (xD x) (iS (xI x)) w)), none]) dL_law_349 (by decide) rfl ?_
  refine e_aload_n dL_law_351 rfl rfl ?_
  refine e_callV (k := 89) [] dL_law_352 cc_X10_thrown lk_RL_99 im_X10_thrown se_X10_thrown (by decide) (M2.s 89 rfl) (M2.n (by decide)) rfl (Nat.le_of_ble_eq_true rfl) (Nat.le_of_ble_eq_true rfl) ?_
  refine t_X10_thrown M2 z2 (fK_i ?_)
  show fEv g _ mL_law 355 [some (.ref fscr), some (.ref 0), some (.ref 89), some (.ref 300), some (.int (nI ii)), some (.int (nI 0)), some (.int (vTold (xD x) (iS (xI x)) w)), none] [.int (nI 0)] σ2 Q
  refine e_iload dL_law_355 rfl ?_
  refine e_icmp_eq 362 dL_law_357 (by decide) (fun _ => ?_) (fun c => absurd c (by decide))
  refine e_iload dL_law_362 rfl ?_
  refine e_if_ne 379 dL_law_364 (by decide) (fun c => absurd c (by decide)) (fun _ => ?_)
  refine e_aload_n dL_law_367 rfl rfl ?_
  refine e_iconst (nI 0) dL_law_368 (by decide) ?_
  refine e_laload 0 dL_law_369 (M2.s 300 rfl) (M2.n (by decide)) rfl (by omega) (by decide) ?_
  refine e_long (((vTold (xD x) (iS (xI x)) w : Int32)).toInt64) ((s2.j (fun q => by unfold fRfA at q; omega) 0).trans v1) ?_
  refine e_iload dL_law_370 rfl ?_
  refine e_i2l dL_law_372 ?_
  refine e_lcmp dL_law_373 ?_
  refine e_if_eq 379 dL_law_374 (by decide) (fun _ => ?_) (fun c => absurd (lc_eq.mpr rfl) c)
  refine e_goto 1782 dL_law_379 (by decide) ?_
  exact h σ2 _ _ _ ((hI.both hI.2.1 s1 c1 s2 r2).le (Nat.le_succ nn))
set_option maxRecDepth 20000 in
theorem c_toldE {g : fGP} {d : Nat} {σ : fAH} {Q : fRes → fAH → Prop} {x : fXS} {a : Int32} {nn ii : Nat} {o5 o6 : Option Value} (hg : gLL g < 2147483648) (hi6 : ii + 6 ≤ gLL g) (hI : fLI g σ x (nn + 1)) (hv : ¬ (nI 0 ≤ a ∧ a ≤ nI 7)) (ha1 : gxs g (ii + 1) = a) (h : ∀ σ' x' o5 o6, fLI g σ' x' nn → fEv g (d + 45) mL_law 1782 [some (.ref fscr), some (.ref 0), some (.ref 89), some (.ref 300), some (.int (nI ii)), o5, o6, none] [] σ' Q) : fEv g (d + 45) mL_law 326 [some (.ref fscr), some (.ref 0), some (.ref 89), some (.ref 300), some (.int (nI ii)), o5, o6, none] [] σ Q := by
  refine e_aload_n dL_law_326 rfl rfl ?_
  refine e_aload_n dL_law_327 rfl rfl ?_
  refine e_iload dL_law_328 rfl ?_
  refine e_iconst (nI 1) dL_law_330 (by decide) ?_
  refine e_iadd dL_law_331 ?_
  refine e_int (nI (ii + 1)) (nI_add ii 1) ?_
  refine e_sld (ii + 1) dL_law_332 rfl (by omega) hg ?_
  refine e_int (a) ha1 ?_
  refine e_aload_n dL_law_333 rfl rfl ?_
  refine e_callS [.ref 0, .int a, .ref 300] dL_law_334 cc_L_told lk_RL_106 st_L_told in_RL rfl (Nat.le_of_ble_eq_true rfl) (Nat.le_of_ble_eq_true rfl) ?_
  refine t_L_toldE hI.1 hI.2.1 hI.2.2.1 hv hI.rm (fK_i ?_)
  show fEv g _ mL_law 337 [some (.ref fscr), some (.ref 0), some (.ref 89), some (.ref 300), some (.int (nI ii)), o5, o6, none] [.int (nI 1)] (fthr σ) Q
  have hJ := hI.thr
  refine e_istore (L1 := [some (.ref fscr), some (.ref 0), some (.ref 89), some (.ref 300), some (.int (nI ii)), some (.int (nI 1)), o6, none]) dL_law_337 (by decide) rfl ?_
  refine e_aload_n dL_law_339 rfl rfl ?_
  refine e_aload_n dL_law_340 rfl rfl ?_
  refine e_iload dL_law_341 rfl ?_
  refine e_iconst (nI 1) dL_law_343 (by decide) ?_
  refine e_iadd dL_law_344 ?_
  refine e_int (nI (ii + 1)) (nI_add ii 1) ?_
  refine e_sld (ii + 1) dL_law_345 rfl (by omega) hg ?_
  refine e_int (a) ha1 ?_
  refine e_callV (k := 89) [.int a] dL_law_346 cc_X10_told lk_RL_108 im_X10_told se_X10_told (by decide) (hJ.1.s 89 rfl) (hJ.1.n (by decide)) rfl (Nat.le_of_ble_eq_true rfl) (Nat.le_of_ble_eq_true rfl) ?_
  refine t_X10_toldE hJ.1 hJ.2.1 hJ.2.2.2.1 hv (fun σ2 s2 r2 z2 => fK_i ?_)
  show fEv g _ mL_law 349 [some (.ref fscr), some (.ref 0), some (.ref 89), some (.ref 300), some (.int (nI ii)), some (.int (nI 1)), o6, none] [.int (nI 0)] σ2 Q
  have M2 := hJ.1.sm s2
  refine e_istore (L1 := [some (.ref fscr), some (.ref 0), some (.ref 89), some (.ref 300), some (.int (nI ii)), some (.int (nI 1)), some (.int (nI 0)), none]) dL_law_349 (by decide) rfl ?_
  refine e_aload_n dL_law_351 rfl rfl ?_
  refine e_callV (k := 89) [] dL_law_352 cc_X10_thrown lk_RL_99 im_X10_thrown se_X10_thrown (by decide) (M2.s 89 rfl) (M2.n (by decide)) rfl (Nat.le_of_ble_eq_true rfl) (Nat.le_of_ble_eq_true rfl) ?_
  refine t_X10_thrown M2 z2 (fK_i ?_)
  show fEv g _ mL_law 355 [some (.ref fscr), some (.ref 0), some (.ref 89), some (.ref 300), some (.int (nI ii)), some (.int (nI 1)), some (.int (nI 0)), none] [.int (nI 1)] σ2 Q
  refine e_iload dL_law_355 rfl ?_
  refine e_icmp_eq 362 dL_law_357 (by decide) (fun _ => ?_) (fun c => absurd c (by decide))
  refine e_iload dL_law_362 rfl ?_
  refine e_if_ne 379 dL_law_364 (by decide) (fun _ => ?_) (fun c => absurd c (by decide))
  refine e_goto 1782 dL_law_379 (by decide) ?_
  exact h σ2 x _ _ (hJ.sm s2 hI.2.1 (hJ.2.2.1.rf hI.2.1 s2) r2)
set_option maxRecDepth 20000 in
theorem c_slot {g : fGP} {d : Nat} {σ : fAH} {Q : fRes → fAH → Prop} {x : fXS} {k w : Nat} {nn ii : Nat} {o5 o6 : Option Value} (hg : gLL g < 2147483648) (hi6 : ii + 6 ≤ gLL g) (hI : fLI g σ x (nn + 1)) (hk : k < dT (xD x) 1) (hw : w < 8) (ha1 : gxs g (ii + 1) = nI k) (ha2 : gxs g (ii + 2) = nI w) (h : ∀ σ' x' o5 o6, fLI g σ' x' nn → fEv g (d + 45) mL_law 1782 [some (.ref fscr), some (.ref 0), some (.ref 89), some (.ref 300), some (.int (nI ii)), o5, o6, none] [] σ' Q) : fEv g (d + 45) mL_law 382 [some (.ref fscr), some (.ref 0), some (.ref 89), some (.ref 300), some (.int (nI ii)), o5, o6, none] [] σ Q := by
  refine e_aload_n dL_law_382 rfl rfl ?_
  refine e_aload_n dL_law_383 rfl rfl ?_
  refine e_iload dL_law_384 rfl ?_
  refine e_iconst (nI 1) dL_law_386 (by decide) ?_
  refine e_iadd dL_law_387 ?_
  refine e_int (nI (ii + 1)) (nI_add ii 1) ?_
  refine e_sld (ii + 1) dL_law_388 rfl (by omega) hg ?_
  refine e_int (nI k) ha1 ?_
  refine e_aload_n dL_law_389 rfl rfl ?_
  refine e_iload dL_law_390 rfl ?_
  refine e_iconst (nI 2) dL_law_392 (by decide) ?_
  refine e_iadd dL_law_393 ?_
  refine e_int (nI (ii + 2)) (nI_add ii 2) ?_
  refine e_sld (ii + 2) dL_law_394 rfl (by omega) hg ?_
  refine e_int (nI w) ha2 ?_
  refine e_aload_n dL_law_395 rfl rfl ?_
  refine e_callS [.ref 0, .int (nI k), .int (nI w), .ref 300] dL_law_396 cc_L_slot lk_RL_109 st_L_slot in_RL rfl (Nat.le_of_ble_eq_true rfl) (Nat.le_of_ble_eq_true rfl) ?_
  refine t_L_slot hI.1 hI.2.1 hI.2.2.1 hk hw (fun σ1 s1 c1 v1 => fK_i ?_)
  show fEv g _ mL_law 399 [some (.ref fscr), some (.ref 0), some (.ref 89), some (.ref 300), some (.int (nI ii)), o5, o6, none] [.int (nI 0)] σ1 Q
  have r1 := hI.2.2.2.1.clB hI.2.1 s1
  have M1 := hI.1.sm s1
  refine e_istore (L1 := [some (.ref fscr), some (.ref 0), some (.ref 89), some (.ref 300), some (.int (nI ii)), some (.int (nI 0)), o6, none]) dL_law_399 (by decide) rfl ?_
  refine e_aload_n dL_law_401 rfl rfl ?_
  refine e_aload_n dL_law_402 rfl rfl ?_
  refine e_iload dL_law_403 rfl ?_
  refine e_iconst (nI 1) dL_law_405 (by decide) ?_
  refine e_iadd dL_law_406 ?_
  refine e_int (nI (ii + 1)) (nI_add ii 1) ?_
  refine e_sld (ii + 1) dL_law_407 rfl (by omega) hg ?_
  refine e_int (nI k) ha1 ?_
  refine e_aload_n dL_law_408 rfl rfl ?_
  refine e_iload dL_law_409 rfl ?_
  refine e_iconst (nI 2) dL_law_411 (by decide) ?_
  refine e_iadd dL_law_412 ?_
  refine e_int (nI (ii + 2)) (nI_add ii 2) ?_
  refine e_sld (ii + 2) dL_law_413 rfl (by omega) hg ?_
  refine e_int (nI w) ha2 ?_
  refine e_callV (k := 89) [.int (nI k), .int (nI w)] dL_law_414 cc_X10_slot lk_RL_112 im_X10_slot se_X10_slot (by decide) (M1.s 89 rfl) (M1.n (by decide)) rfl (Nat.le_of_ble_eq_true rfl) (Nat.le_of_ble_eq_true rfl) ?_
  refine t_X10_slot M1 hI.2.1 r1 hk hw (fun σ2 s2 r2 z2 => fK_i ?_)
  show fEv g _ mL_law 417 [some (.ref fscr), some (.ref 0), some (.ref 89), some (.ref 300), some (.int (nI ii)), some (.int (nI 0)), o6, none] [.int (vSlot (xD x) (iS (xI x)) k w)] σ2 Q
  have M2 := M1.sm s2
  refine e_istore (L1 := [some (.ref fscr), some (.ref 0), some (.ref 89), some (.ref 300), some (.int (nI ii)), some (.int (nI 0)), some (.int (vSlot (xD x) (iS (xI x)) k w)), none]) dL_law_417 (by decide) rfl ?_
  refine e_aload_n dL_law_419 rfl rfl ?_
  refine e_callV (k := 89) [] dL_law_420 cc_X10_thrown lk_RL_99 im_X10_thrown se_X10_thrown (by decide) (M2.s 89 rfl) (M2.n (by decide)) rfl (Nat.le_of_ble_eq_true rfl) (Nat.le_of_ble_eq_true rfl) ?_
  refine t_X10_thrown M2 z2 (fK_i ?_)
  show fEv g _ mL_law 423 [some (.ref fscr), some (.ref 0), some (.ref 89), some (.ref 300), some (.int (nI ii)), some (.int (nI 0)), some (.int (vSlot (xD x) (iS (xI x)) k w)), none] [.int (nI 0)] σ2 Q
  refine e_iload dL_law_423 rfl ?_
  refine e_icmp_eq 430 dL_law_425 (by decide) (fun _ => ?_) (fun c => absurd c (by decide))
  refine e_iload dL_law_430 rfl ?_
  refine e_if_ne 447 dL_law_432 (by decide) (fun c => absurd c (by decide)) (fun _ => ?_)
  refine e_aload_n dL_law_435 rfl rfl ?_
  refine e_iconst (nI 0) dL_law_436 (by decide) ?_
  refine e_laload 0 dL_law_437 (M2.s 300 rfl) (M2.n (by decide)) rfl (by omega) (by decide) ?_
  refine e_long (((vSlot (xD x) (iS (xI x)) k w : Int32)).toInt64) ((s2.j (fun q => by unfold fRfA at q; omega) 0).trans v1) ?_
  refine e_iload dL_law_438 rfl ?_
  refine e_i2l dL_law_440 ?_
  refine e_lcmp dL_law_441 ?_
  refine e_if_eq 447 dL_law_442 (by decide) (fun _ => ?_) (fun c => absurd (lc_eq.mpr rfl) c)
  refine e_goto 1782 dL_law_447 (by decide) ?_
  exact h σ2 _ _ _ ((hI.both hI.2.1 s1 c1 s2 r2).le (Nat.le_succ nn))
set_option maxRecDepth 20000 in
theorem c_slotE1 {g : fGP} {d : Nat} {σ : fAH} {Q : fRes → fAH → Prop} {x : fXS} {a b : Int32} {nn ii : Nat} {o5 o6 : Option Value} (hg : gLL g < 2147483648) (hi6 : ii + 6 ≤ gLL g) (hI : fLI g σ x (nn + 1)) (hv : ¬ (nI 0 ≤ a ∧ a < nI (dT (xD x) 1))) (ha1 : gxs g (ii + 1) = a) (ha2 : gxs g (ii + 2) = b) (h : ∀ σ' x' o5 o6, fLI g σ' x' nn → fEv g (d + 45) mL_law 1782 [some (.ref fscr), some (.ref 0), some (.ref 89), some (.ref 300), some (.int (nI ii)), o5, o6, none] [] σ' Q) : fEv g (d + 45) mL_law 382 [some (.ref fscr), some (.ref 0), some (.ref 89), some (.ref 300), some (.int (nI ii)), o5, o6, none] [] σ Q := by
  refine e_aload_n dL_law_382 rfl rfl ?_
  refine e_aload_n dL_law_383 rfl rfl ?_
  refine e_iload dL_law_384 rfl ?_
  refine e_iconst (nI 1) dL_law_386 (by decide) ?_
  refine e_iadd dL_law_387 ?_
  refine e_int (nI (ii + 1)) (nI_add ii 1) ?_
  refine e_sld (ii + 1) dL_law_388 rfl (by omega) hg ?_
  refine e_int (a) ha1 ?_
  refine e_aload_n dL_law_389 rfl rfl ?_
  refine e_iload dL_law_390 rfl ?_
  refine e_iconst (nI 2) dL_law_392 (by decide) ?_
  refine e_iadd dL_law_393 ?_
  refine e_int (nI (ii + 2)) (nI_add ii 2) ?_
  refine e_sld (ii + 2) dL_law_394 rfl (by omega) hg ?_
  refine e_int (b) ha2 ?_
  refine e_aload_n dL_law_395 rfl rfl ?_
  refine e_callS [.ref 0, .int a, .int b, .ref 300] dL_law_396 cc_L_slot lk_RL_109 st_L_slot in_RL rfl (Nat.le_of_ble_eq_true rfl) (Nat.le_of_ble_eq_true rfl) ?_
  refine t_L_slotE1 hI.1 hI.2.1 hI.2.2.1 hv hI.rm (fK_i ?_)
  show fEv g _ mL_law 399 [some (.ref fscr), some (.ref 0), some (.ref 89), some (.ref 300), some (.int (nI ii)), o5, o6, none] [.int (nI 1)] (fthr σ) Q
  have hJ := hI.thr
  refine e_istore (L1 := [some (.ref fscr), some (.ref 0), some (.ref 89), some (.ref 300), some (.int (nI ii)), some (.int (nI 1)), o6, none]) dL_law_399 (by decide) rfl ?_
  refine e_aload_n dL_law_401 rfl rfl ?_
  refine e_aload_n dL_law_402 rfl rfl ?_
  refine e_iload dL_law_403 rfl ?_
  refine e_iconst (nI 1) dL_law_405 (by decide) ?_
  refine e_iadd dL_law_406 ?_
  refine e_int (nI (ii + 1)) (nI_add ii 1) ?_
  refine e_sld (ii + 1) dL_law_407 rfl (by omega) hg ?_
  refine e_int (a) ha1 ?_
  refine e_aload_n dL_law_408 rfl rfl ?_
  refine e_iload dL_law_409 rfl ?_
  refine e_iconst (nI 2) dL_law_411 (by decide) ?_
  refine e_iadd dL_law_412 ?_
  refine e_int (nI (ii + 2)) (nI_add ii 2) ?_
  refine e_sld (ii + 2) dL_law_413 rfl (by omega) hg ?_
  refine e_int (b) ha2 ?_
  refine e_callV (k := 89) [.int a, .int b] dL_law_414 cc_X10_slot lk_RL_112 im_X10_slot se_X10_slot (by decide) (hJ.1.s 89 rfl) (hJ.1.n (by decide)) rfl (Nat.le_of_ble_eq_true rfl) (Nat.le_of_ble_eq_true rfl) ?_
  refine t_X10_slotE1 hJ.1 hJ.2.1 hJ.2.2.2.1 hv (fun σ2 s2 r2 z2 => fK_i ?_)
  show fEv g _ mL_law 417 [some (.ref fscr), some (.ref 0), some (.ref 89), some (.ref 300), some (.int (nI ii)), some (.int (nI 1)), o6, none] [.int (nI 0)] σ2 Q
  have M2 := hJ.1.sm s2
  refine e_istore (L1 := [some (.ref fscr), some (.ref 0), some (.ref 89), some (.ref 300), some (.int (nI ii)), some (.int (nI 1)), some (.int (nI 0)), none]) dL_law_417 (by decide) rfl ?_
  refine e_aload_n dL_law_419 rfl rfl ?_
  refine e_callV (k := 89) [] dL_law_420 cc_X10_thrown lk_RL_99 im_X10_thrown se_X10_thrown (by decide) (M2.s 89 rfl) (M2.n (by decide)) rfl (Nat.le_of_ble_eq_true rfl) (Nat.le_of_ble_eq_true rfl) ?_
  refine t_X10_thrown M2 z2 (fK_i ?_)
  show fEv g _ mL_law 423 [some (.ref fscr), some (.ref 0), some (.ref 89), some (.ref 300), some (.int (nI ii)), some (.int (nI 1)), some (.int (nI 0)), none] [.int (nI 1)] σ2 Q
  refine e_iload dL_law_423 rfl ?_
  refine e_icmp_eq 430 dL_law_425 (by decide) (fun _ => ?_) (fun c => absurd c (by decide))
  refine e_iload dL_law_430 rfl ?_
  refine e_if_ne 447 dL_law_432 (by decide) (fun _ => ?_) (fun c => absurd c (by decide))
  refine e_goto 1782 dL_law_447 (by decide) ?_
  exact h σ2 x _ _ (hJ.sm s2 hI.2.1 (hJ.2.2.1.rf hI.2.1 s2) r2)
set_option maxRecDepth 20000 in
theorem c_slotE2 {g : fGP} {d : Nat} {σ : fAH} {Q : fRes → fAH → Prop} {x : fXS} {k : Nat} {b : Int32} {nn ii : Nat} {o5 o6 : Option Value} (hg : gLL g < 2147483648) (hi6 : ii + 6 ≤ gLL g) (hI : fLI g σ x (nn + 1)) (hk : k < dT (xD x) 1) (hv : ¬ (nI 0 ≤ b ∧ b ≤ nI 7)) (ha1 : gxs g (ii + 1) = nI k) (ha2 : gxs g (ii + 2) = b) (h : ∀ σ' x' o5 o6, fLI g σ' x' nn → fEv g (d + 45) mL_law 1782 [some (.ref fscr), some (.ref 0), some (.ref 89), some (.ref 300), some (.int (nI ii)), o5, o6, none] [] σ' Q) : fEv g (d + 45) mL_law 382 [some (.ref fscr), some (.ref 0), some (.ref 89), some (.ref 300), some (.int (nI ii)), o5, o6, none] [] σ Q := by
  refine e_aload_n dL_law_382 rfl rfl ?_
  refine e_aload_n dL_law_383 rfl rfl ?_
  refine e_iload dL_law_384 rfl ?_
  refine e_iconst (nI 1) dL_law_386 (by decide) ?_
  refine e_iadd dL_law_387 ?_
  refine e_int (nI (ii + 1)) (nI_add ii 1) ?_
  refine e_sld (ii + 1) dL_law_388 rfl (by omega) hg ?_
  refine e_int (nI k) ha1 ?_
  refine e_aload_n dL_law_389 rfl rfl ?_
  refine e_iload dL_law_390 rfl ?_
  refine e_iconst (nI 2) dL_law_392 (by decide) ?_
  refine e_iadd dL_law_393 ?_
  refine e_int (nI (ii + 2)) (nI_add ii 2) ?_
  refine e_sld (ii + 2) dL_law_394 rfl (by omega) hg ?_
  refine e_int (b) ha2 ?_
  refine e_aload_n dL_law_395 rfl rfl ?_
  refine e_callS [.ref 0, .int (nI k), .int b, .ref 300] dL_law_396 cc_L_slot lk_RL_109 st_L_slot in_RL rfl (Nat.le_of_ble_eq_true rfl) (Nat.le_of_ble_eq_true rfl) ?_
  refine t_L_slotE2 hI.1 hI.2.1 hI.2.2.1 hk hv hI.rm (fK_i ?_)
  show fEv g _ mL_law 399 [some (.ref fscr), some (.ref 0), some (.ref 89), some (.ref 300), some (.int (nI ii)), o5, o6, none] [.int (nI 2)] (fthr σ) Q
  have hJ := hI.thr
  refine e_istore (L1 := [some (.ref fscr), some (.ref 0), some (.ref 89), some (.ref 300), some (.int (nI ii)), some (.int (nI 2)), o6, none]) dL_law_399 (by decide) rfl ?_
  refine e_aload_n dL_law_401 rfl rfl ?_
  refine e_aload_n dL_law_402 rfl rfl ?_
  refine e_iload dL_law_403 rfl ?_
  refine e_iconst (nI 1) dL_law_405 (by decide) ?_
  refine e_iadd dL_law_406 ?_
  refine e_int (nI (ii + 1)) (nI_add ii 1) ?_
  refine e_sld (ii + 1) dL_law_407 rfl (by omega) hg ?_
  refine e_int (nI k) ha1 ?_
  refine e_aload_n dL_law_408 rfl rfl ?_
  refine e_iload dL_law_409 rfl ?_
  refine e_iconst (nI 2) dL_law_411 (by decide) ?_
  refine e_iadd dL_law_412 ?_
  refine e_int (nI (ii + 2)) (nI_add ii 2) ?_
  refine e_sld (ii + 2) dL_law_413 rfl (by omega) hg ?_
  refine e_int (b) ha2 ?_
  refine e_callV (k := 89) [.int (nI k), .int b] dL_law_414 cc_X10_slot lk_RL_112 im_X10_slot se_X10_slot (by decide) (hJ.1.s 89 rfl) (hJ.1.n (by decide)) rfl (Nat.le_of_ble_eq_true rfl) (Nat.le_of_ble_eq_true rfl) ?_
  refine t_X10_slotE2 hJ.1 hJ.2.1 hJ.2.2.2.1 hk hv (fun σ2 s2 r2 z2 => fK_i ?_)
  show fEv g _ mL_law 417 [some (.ref fscr), some (.ref 0), some (.ref 89), some (.ref 300), some (.int (nI ii)), some (.int (nI 2)), o6, none] [.int (nI 0)] σ2 Q
  have M2 := hJ.1.sm s2
  refine e_istore (L1 := [some (.ref fscr), some (.ref 0), some (.ref 89), some (.ref 300), some (.int (nI ii)), some (.int (nI 2)), some (.int (nI 0)), none]) dL_law_417 (by decide) rfl ?_
  refine e_aload_n dL_law_419 rfl rfl ?_
  refine e_callV (k := 89) [] dL_law_420 cc_X10_thrown lk_RL_99 im_X10_thrown se_X10_thrown (by decide) (M2.s 89 rfl) (M2.n (by decide)) rfl (Nat.le_of_ble_eq_true rfl) (Nat.le_of_ble_eq_true rfl) ?_
  refine t_X10_thrown M2 z2 (fK_i ?_)
  show fEv g _ mL_law 423 [some (.ref fscr), some (.ref 0), some (.ref 89), some (.ref 300), some (.int (nI ii)), some (.int (nI 2)), some (.int (nI 0)), none] [.int (nI 2)] σ2 Q
  refine e_iload dL_law_423 rfl ?_
  refine e_icmp_eq 430 dL_law_425 (by decide) (fun _ => ?_) (fun c => absurd c (by decide))
  refine e_iload dL_law_430 rfl ?_
  refine e_if_ne 447 dL_law_432 (by decide) (fun _ => ?_) (fun c => absurd c (by decide))
  refine e_goto 1782 dL_law_447 (by decide) ?_
  exact h σ2 x _ _ (hJ.sm s2 hI.2.1 (hJ.2.2.1.rf hI.2.1 s2) r2)
set_option maxRecDepth 20000 in
theorem c_order {g : fGP} {d : Nat} {σ : fAH} {Q : fRes → fAH → Prop} {x : fXS} {k w : Nat} {nn ii : Nat} {o5 o6 : Option Value} (hg : gLL g < 2147483648) (hi6 : ii + 6 ≤ gLL g) (hI : fLI g σ x (nn + 1)) (hk : k < dT (xD x) 2) (hw : w < 6) (ha1 : gxs g (ii + 1) = nI k) (ha2 : gxs g (ii + 2) = nI w) (h : ∀ σ' x' o5 o6, fLI g σ' x' nn → fEv g (d + 45) mL_law 1782 [some (.ref fscr), some (.ref 0), some (.ref 89), some (.ref 300), some (.int (nI ii)), o5, o6, none] [] σ' Q) : fEv g (d + 45) mL_law 450 [some (.ref fscr), some (.ref 0), some (.ref 89), some (.ref 300), some (.int (nI ii)), o5, o6, none] [] σ Q := by
  refine e_aload_n dL_law_450 rfl rfl ?_
  refine e_aload_n dL_law_451 rfl rfl ?_
  refine e_iload dL_law_452 rfl ?_
  refine e_iconst (nI 1) dL_law_454 (by decide) ?_
  refine e_iadd dL_law_455 ?_
  refine e_int (nI (ii + 1)) (nI_add ii 1) ?_
  refine e_sld (ii + 1) dL_law_456 rfl (by omega) hg ?_
  refine e_int (nI k) ha1 ?_
  refine e_aload_n dL_law_457 rfl rfl ?_
  refine e_iload dL_law_458 rfl ?_
  refine e_iconst (nI 2) dL_law_460 (by decide) ?_
  refine e_iadd dL_law_461 ?_
  refine e_int (nI (ii + 2)) (nI_add ii 2) ?_
  refine e_sld (ii + 2) dL_law_462 rfl (by omega) hg ?_
  refine e_int (nI w) ha2 ?_
  refine e_aload_n dL_law_463 rfl rfl ?_
  refine e_callS [.ref 0, .int (nI k), .int (nI w), .ref 300] dL_law_464 cc_L_order lk_RL_113 st_L_order in_RL rfl (Nat.le_of_ble_eq_true rfl) (Nat.le_of_ble_eq_true rfl) ?_
  refine t_L_order hI.1 hI.2.1 hI.2.2.1 hk hw (fun σ1 s1 c1 v1 => fK_i ?_)
  show fEv g _ mL_law 467 [some (.ref fscr), some (.ref 0), some (.ref 89), some (.ref 300), some (.int (nI ii)), o5, o6, none] [.int (nI 0)] σ1 Q
  have r1 := hI.2.2.2.1.clB hI.2.1 s1
  have M1 := hI.1.sm s1
  refine e_istore (L1 := [some (.ref fscr), some (.ref 0), some (.ref 89), some (.ref 300), some (.int (nI ii)), some (.int (nI 0)), o6, none]) dL_law_467 (by decide) rfl ?_
  refine e_aload_n dL_law_469 rfl rfl ?_
  refine e_aload_n dL_law_470 rfl rfl ?_
  refine e_iload dL_law_471 rfl ?_
  refine e_iconst (nI 1) dL_law_473 (by decide) ?_
  refine e_iadd dL_law_474 ?_
  refine e_int (nI (ii + 1)) (nI_add ii 1) ?_
  refine e_sld (ii + 1) dL_law_475 rfl (by omega) hg ?_
  refine e_int (nI k) ha1 ?_
  refine e_aload_n dL_law_476 rfl rfl ?_
  refine e_iload dL_law_477 rfl ?_
  refine e_iconst (nI 2) dL_law_479 (by decide) ?_
  refine e_iadd dL_law_480 ?_
  refine e_int (nI (ii + 2)) (nI_add ii 2) ?_
  refine e_sld (ii + 2) dL_law_481 rfl (by omega) hg ?_
  refine e_int (nI w) ha2 ?_
  refine e_callV (k := 89) [.int (nI k), .int (nI w)] dL_law_482 cc_X10_order lk_RL_115 im_X10_order se_X10_order (by decide) (M1.s 89 rfl) (M1.n (by decide)) rfl (Nat.le_of_ble_eq_true rfl) (Nat.le_of_ble_eq_true rfl) ?_
  refine t_X10_order M1 hI.2.1 r1 hk hw (fun σ2 s2 r2 z2 => fK_i ?_)
  show fEv g _ mL_law 485 [some (.ref fscr), some (.ref 0), some (.ref 89), some (.ref 300), some (.int (nI ii)), some (.int (nI 0)), o6, none] [.int (vOrd (xD x) (iS (xI x)) k w)] σ2 Q
  have M2 := M1.sm s2
  refine e_istore (L1 := [some (.ref fscr), some (.ref 0), some (.ref 89), some (.ref 300), some (.int (nI ii)), some (.int (nI 0)), some (.int (vOrd (xD x) (iS (xI x)) k w)), none]) dL_law_485 (by decide) rfl ?_
  refine e_aload_n dL_law_487 rfl rfl ?_
  refine e_callV (k := 89) [] dL_law_488 cc_X10_thrown lk_RL_99 im_X10_thrown se_X10_thrown (by decide) (M2.s 89 rfl) (M2.n (by decide)) rfl (Nat.le_of_ble_eq_true rfl) (Nat.le_of_ble_eq_true rfl) ?_
  refine t_X10_thrown M2 z2 (fK_i ?_)
  show fEv g _ mL_law 491 [some (.ref fscr), some (.ref 0), some (.ref 89), some (.ref 300), some (.int (nI ii)), some (.int (nI 0)), some (.int (vOrd (xD x) (iS (xI x)) k w)), none] [.int (nI 0)] σ2 Q
  refine e_iload dL_law_491 rfl ?_
  refine e_icmp_eq 498 dL_law_493 (by decide) (fun _ => ?_) (fun c => absurd c (by decide))
  refine e_iload dL_law_498 rfl ?_
  refine e_if_ne 515 dL_law_500 (by decide) (fun c => absurd c (by decide)) (fun _ => ?_)
  refine e_aload_n dL_law_503 rfl rfl ?_
  refine e_iconst (nI 0) dL_law_504 (by decide) ?_
  refine e_laload 0 dL_law_505 (M2.s 300 rfl) (M2.n (by decide)) rfl (by omega) (by decide) ?_
  refine e_long (((vOrd (xD x) (iS (xI x)) k w : Int32)).toInt64) ((s2.j (fun q => by unfold fRfA at q; omega) 0).trans v1) ?_
  refine e_iload dL_law_506 rfl ?_
  refine e_i2l dL_law_508 ?_
  refine e_lcmp dL_law_509 ?_
  refine e_if_eq 515 dL_law_510 (by decide) (fun _ => ?_) (fun c => absurd (lc_eq.mpr rfl) c)
  refine e_goto 1782 dL_law_515 (by decide) ?_
  exact h σ2 _ _ _ ((hI.both hI.2.1 s1 c1 s2 r2).le (Nat.le_succ nn))
set_option maxRecDepth 20000 in
theorem c_orderE1 {g : fGP} {d : Nat} {σ : fAH} {Q : fRes → fAH → Prop} {x : fXS} {a b : Int32} {nn ii : Nat} {o5 o6 : Option Value} (hg : gLL g < 2147483648) (hi6 : ii + 6 ≤ gLL g) (hI : fLI g σ x (nn + 1)) (hv : ¬ (nI 0 ≤ a ∧ a < nI (dT (xD x) 2))) (ha1 : gxs g (ii + 1) = a) (ha2 : gxs g (ii + 2) = b) (h : ∀ σ' x' o5 o6, fLI g σ' x' nn → fEv g (d + 45) mL_law 1782 [some (.ref fscr), some (.ref 0), some (.ref 89), some (.ref 300), some (.int (nI ii)), o5, o6, none] [] σ' Q) : fEv g (d + 45) mL_law 450 [some (.ref fscr), some (.ref 0), some (.ref 89), some (.ref 300), some (.int (nI ii)), o5, o6, none] [] σ Q := by
  refine e_aload_n dL_law_450 rfl rfl ?_
  refine e_aload_n dL_law_451 rfl rfl ?_
  refine e_iload dL_law_452 rfl ?_
  refine e_iconst (nI 1) dL_law_454 (by decide) ?_
  refine e_iadd dL_law_455 ?_
  refine e_int (nI (ii + 1)) (nI_add ii 1) ?_
  refine e_sld (ii + 1) dL_law_456 rfl (by omega) hg ?_
  refine e_int (a) ha1 ?_
  refine e_aload_n dL_law_457 rfl rfl ?_
  refine e_iload dL_law_458 rfl ?_
  refine e_iconst (nI 2) dL_law_460 (by decide) ?_
  refine e_iadd dL_law_461 ?_
  refine e_int (nI (ii + 2)) (nI_add ii 2) ?_
  refine e_sld (ii + 2) dL_law_462 rfl (by omega) hg ?_
  refine e_int (b) ha2 ?_
  refine e_aload_n dL_law_463 rfl rfl ?_
  refine e_callS [.ref 0, .int a, .int b, .ref 300] dL_law_464 cc_L_order lk_RL_113 st_L_order in_RL rfl (Nat.le_of_ble_eq_true rfl) (Nat.le_of_ble_eq_true rfl) ?_
  refine t_L_orderE1 hI.1 hI.2.1 hI.2.2.1 hv hI.rm (fK_i ?_)
  show fEv g _ mL_law 467 [some (.ref fscr), some (.ref 0), some (.ref 89), some (.ref 300), some (.int (nI ii)), o5, o6, none] [.int (nI 1)] (fthr σ) Q
  have hJ := hI.thr
  refine e_istore (L1 := [some (.ref fscr), some (.ref 0), some (.ref 89), some (.ref 300), some (.int (nI ii)), some (.int (nI 1)), o6, none]) dL_law_467 (by decide) rfl ?_
  refine e_aload_n dL_law_469 rfl rfl ?_
  refine e_aload_n dL_law_470 rfl rfl ?_
  refine e_iload dL_law_471 rfl ?_
  refine e_iconst (nI 1) dL_law_473 (by decide) ?_
  refine e_iadd dL_law_474 ?_
  refine e_int (nI (ii + 1)) (nI_add ii 1) ?_
  refine e_sld (ii + 1) dL_law_475 rfl (by omega) hg ?_
  refine e_int (a) ha1 ?_
  refine e_aload_n dL_law_476 rfl rfl ?_
  refine e_iload dL_law_477 rfl ?_
  refine e_iconst (nI 2) dL_law_479 (by decide) ?_
  refine e_iadd dL_law_480 ?_
  refine e_int (nI (ii + 2)) (nI_add ii 2) ?_
  refine e_sld (ii + 2) dL_law_481 rfl (by omega) hg ?_
  refine e_int (b) ha2 ?_
  refine e_callV (k := 89) [.int a, .int b] dL_law_482 cc_X10_order lk_RL_115 im_X10_order se_X10_order (by decide) (hJ.1.s 89 rfl) (hJ.1.n (by decide)) rfl (Nat.le_of_ble_eq_true rfl) (Nat.le_of_ble_eq_true rfl) ?_
  refine t_X10_orderE1 hJ.1 hJ.2.1 hJ.2.2.2.1 hv (fun σ2 s2 r2 z2 => fK_i ?_)
  show fEv g _ mL_law 485 [some (.ref fscr), some (.ref 0), some (.ref 89), some (.ref 300), some (.int (nI ii)), some (.int (nI 1)), o6, none] [.int (nI 0)] σ2 Q
  have M2 := hJ.1.sm s2
  refine e_istore (L1 := [some (.ref fscr), some (.ref 0), some (.ref 89), some (.ref 300), some (.int (nI ii)), some (.int (nI 1)), some (.int (nI 0)), none]) dL_law_485 (by decide) rfl ?_
  refine e_aload_n dL_law_487 rfl rfl ?_
  refine e_callV (k := 89) [] dL_law_488 cc_X10_thrown lk_RL_99 im_X10_thrown se_X10_thrown (by decide) (M2.s 89 rfl) (M2.n (by decide)) rfl (Nat.le_of_ble_eq_true rfl) (Nat.le_of_ble_eq_true rfl) ?_
  refine t_X10_thrown M2 z2 (fK_i ?_)
  show fEv g _ mL_law 491 [some (.ref fscr), some (.ref 0), some (.ref 89), some (.ref 300), some (.int (nI ii)), some (.int (nI 1)), some (.int (nI 0)), none] [.int (nI 1)] σ2 Q
  refine e_iload dL_law_491 rfl ?_
  refine e_icmp_eq 498 dL_law_493 (by decide) (fun _ => ?_) (fun c => absurd c (by decide))
  refine e_iload dL_law_498 rfl ?_
  refine e_if_ne 515 dL_law_500 (by decide) (fun _ => ?_) (fun c => absurd c (by decide))
  refine e_goto 1782 dL_law_515 (by decide) ?_
  exact h σ2 x _ _ (hJ.sm s2 hI.2.1 (hJ.2.2.1.rf hI.2.1 s2) r2)
set_option maxRecDepth 20000 in
theorem c_orderE2 {g : fGP} {d : Nat} {σ : fAH} {Q : fRes → fAH → Prop} {x : fXS} {k : Nat} {b : Int32} {nn ii : Nat} {o5 o6 : Option Value} (hg : gLL g < 2147483648) (hi6 : ii + 6 ≤ gLL g) (hI : fLI g σ x (nn + 1)) (hk : k < dT (xD x) 2) (hv : ¬ (nI 0 ≤ b ∧ b ≤ nI 5)) (ha1 : gxs g (ii + 1) = nI k) (ha2 : gxs g (ii + 2) = b) (h : ∀ σ' x' o5 o6, fLI g σ' x' nn → fEv g (d + 45) mL_law 1782 [some (.ref fscr), some (.ref 0), some (.ref 89), some (.ref 300), some (.int (nI ii)), o5, o6, none] [] σ' Q) : fEv g (d + 45) mL_law 450 [some (.ref fscr), some (.ref 0), some (.ref 89), some (.ref 300), some (.int (nI ii)), o5, o6, none] [] σ Q := by
  refine e_aload_n dL_law_450 rfl rfl ?_
  refine e_aload_n dL_law_451 rfl rfl ?_
  refine e_iload dL_law_452 rfl ?_
  refine e_iconst (nI 1) dL_law_454 (by decide) ?_
  refine e_iadd dL_law_455 ?_
  refine e_int (nI (ii + 1)) (nI_add ii 1) ?_
  refine e_sld (ii + 1) dL_law_456 rfl (by omega) hg ?_
  refine e_int (nI k) ha1 ?_
  refine e_aload_n dL_law_457 rfl rfl ?_
  refine e_iload dL_law_458 rfl ?_
  refine e_iconst (nI 2) dL_law_460 (by decide) ?_
  refine e_iadd dL_law_461 ?_
  refine e_int (nI (ii + 2)) (nI_add ii 2) ?_
  refine e_sld (ii + 2) dL_law_462 rfl (by omega) hg ?_
  refine e_int (b) ha2 ?_
  refine e_aload_n dL_law_463 rfl rfl ?_
  refine e_callS [.ref 0, .int (nI k), .int b, .ref 300] dL_law_464 cc_L_order lk_RL_113 st_L_order in_RL rfl (Nat.le_of_ble_eq_true rfl) (Nat.le_of_ble_eq_true rfl) ?_
  refine t_L_orderE2 hI.1 hI.2.1 hI.2.2.1 hk hv hI.rm (fK_i ?_)
  show fEv g _ mL_law 467 [some (.ref fscr), some (.ref 0), some (.ref 89), some (.ref 300), some (.int (nI ii)), o5, o6, none] [.int (nI 2)] (fthr σ) Q
  have hJ := hI.thr
  refine e_istore (L1 := [some (.ref fscr), some (.ref 0), some (.ref 89), some (.ref 300), some (.int (nI ii)), some (.int (nI 2)), o6, none]) dL_law_467 (by decide) rfl ?_
  refine e_aload_n dL_law_469 rfl rfl ?_
  refine e_aload_n dL_law_470 rfl rfl ?_
  refine e_iload dL_law_471 rfl ?_
  refine e_iconst (nI 1) dL_law_473 (by decide) ?_
  refine e_iadd dL_law_474 ?_
  refine e_int (nI (ii + 1)) (nI_add ii 1) ?_
  refine e_sld (ii + 1) dL_law_475 rfl (by omega) hg ?_
  refine e_int (nI k) ha1 ?_
  refine e_aload_n dL_law_476 rfl rfl ?_
  refine e_iload dL_law_477 rfl ?_
  refine e_iconst (nI 2) dL_law_479 (by decide) ?_
  refine e_iadd dL_law_480 ?_
  refine e_int (nI (ii + 2)) (nI_add ii 2) ?_
  refine e_sld (ii + 2) dL_law_481 rfl (by omega) hg ?_
  refine e_int (b) ha2 ?_
  refine e_callV (k := 89) [.int (nI k), .int b] dL_law_482 cc_X10_order lk_RL_115 im_X10_order se_X10_order (by decide) (hJ.1.s 89 rfl) (hJ.1.n (by decide)) rfl (Nat.le_of_ble_eq_true rfl) (Nat.le_of_ble_eq_true rfl) ?_
  refine t_X10_orderE2 hJ.1 hJ.2.1 hJ.2.2.2.1 hk hv (fun σ2 s2 r2 z2 => fK_i ?_)
  show fEv g _ mL_law 485 [some (.ref fscr), some (.ref 0), some (.ref 89), some (.ref 300), some (.int (nI ii)), some (.int (nI 2)), o6, none] [.int (nI 0)] σ2 Q
  have M2 := hJ.1.sm s2
  refine e_istore (L1 := [some (.ref fscr), some (.ref 0), some (.ref 89), some (.ref 300), some (.int (nI ii)), some (.int (nI 2)), some (.int (nI 0)), none]) dL_law_485 (by decide) rfl ?_
  refine e_aload_n dL_law_487 rfl rfl ?_
  refine e_callV (k := 89) [] dL_law_488 cc_X10_thrown lk_RL_99 im_X10_thrown se_X10_thrown (by decide) (M2.s 89 rfl) (M2.n (by decide)) rfl (Nat.le_of_ble_eq_true rfl) (Nat.le_of_ble_eq_true rfl) ?_
  refine t_X10_thrown M2 z2 (fK_i ?_)
  show fEv g _ mL_law 491 [some (.ref fscr), some (.ref 0), some (.ref 89), some (.ref 300), some (.int (nI ii)), some (.int (nI 2)), some (.int (nI 0)), none] [.int (nI 2)] σ2 Q
  refine e_iload dL_law_491 rfl ?_
  refine e_icmp_eq 498 dL_law_493 (by decide) (fun _ => ?_) (fun c => absurd c (by decide))
  refine e_iload dL_law_498 rfl ?_
  refine e_if_ne 515 dL_law_500 (by decide) (fun _ => ?_) (fun c => absurd c (by decide))
  refine e_goto 1782 dL_law_515 (by decide) ?_
  exact h σ2 x _ _ (hJ.sm s2 hI.2.1 (hJ.2.2.1.rf hI.2.1 s2) r2)
set_option maxRecDepth 20000 in
theorem c_piece {g : fGP} {d : Nat} {σ : fAH} {Q : fRes → fAH → Prop} {x : fXS} {k w : Nat} {nn ii : Nat} {o5 o6 : Option Value} (hg : gLL g < 2147483648) (hi6 : ii + 6 ≤ gLL g) (hI : fLI g σ x (nn + 1)) (hk : k < (iS (xI x)) 120) (hw : w < 6) (ha1 : gxs g (ii + 1) = nI k) (ha2 : gxs g (ii + 2) = nI w) (h : ∀ σ' x' o5 o6, fLI g σ' x' nn → fEv g (d + 45) mL_law 1782 [some (.ref fscr), some (.ref 0), some (.ref 89), some (.ref 300), some (.int (nI ii)), o5, o6, none] [] σ' Q) : fEv g (d + 45) mL_law 518 [some (.ref fscr), some (.ref 0), some (.ref 89), some (.ref 300), some (.int (nI ii)), o5, o6, none] [] σ Q := by
  refine e_aload_n dL_law_518 rfl rfl ?_
  refine e_aload_n dL_law_519 rfl rfl ?_
  refine e_iload dL_law_520 rfl ?_
  refine e_iconst (nI 1) dL_law_522 (by decide) ?_
  refine e_iadd dL_law_523 ?_
  refine e_int (nI (ii + 1)) (nI_add ii 1) ?_
  refine e_sld (ii + 1) dL_law_524 rfl (by omega) hg ?_
  refine e_int (nI k) ha1 ?_
  refine e_aload_n dL_law_525 rfl rfl ?_
  refine e_iload dL_law_526 rfl ?_
  refine e_iconst (nI 2) dL_law_528 (by decide) ?_
  refine e_iadd dL_law_529 ?_
  refine e_int (nI (ii + 2)) (nI_add ii 2) ?_
  refine e_sld (ii + 2) dL_law_530 rfl (by omega) hg ?_
  refine e_int (nI w) ha2 ?_
  refine e_aload_n dL_law_531 rfl rfl ?_
  refine e_callS [.ref 0, .int (nI k), .int (nI w), .ref 300] dL_law_532 cc_L_piece lk_RL_116 st_L_piece in_RL rfl (Nat.le_of_ble_eq_true rfl) (Nat.le_of_ble_eq_true rfl) ?_
  refine t_L_piece hI.1 hI.2.1 hI.2.2.1 hk hw (fun σ1 s1 c1 v1 => fK_i ?_)
  show fEv g _ mL_law 535 [some (.ref fscr), some (.ref 0), some (.ref 89), some (.ref 300), some (.int (nI ii)), o5, o6, none] [.int (nI 0)] σ1 Q
  have r1 := hI.2.2.2.1.clB hI.2.1 s1
  have M1 := hI.1.sm s1
  refine e_istore (L1 := [some (.ref fscr), some (.ref 0), some (.ref 89), some (.ref 300), some (.int (nI ii)), some (.int (nI 0)), o6, none]) dL_law_535 (by decide) rfl ?_
  refine e_aload_n dL_law_537 rfl rfl ?_
  refine e_aload_n dL_law_538 rfl rfl ?_
  refine e_iload dL_law_539 rfl ?_
  refine e_iconst (nI 1) dL_law_541 (by decide) ?_
  refine e_iadd dL_law_542 ?_
  refine e_int (nI (ii + 1)) (nI_add ii 1) ?_
  refine e_sld (ii + 1) dL_law_543 rfl (by omega) hg ?_
  refine e_int (nI k) ha1 ?_
  refine e_aload_n dL_law_544 rfl rfl ?_
  refine e_iload dL_law_545 rfl ?_
  refine e_iconst (nI 2) dL_law_547 (by decide) ?_
  refine e_iadd dL_law_548 ?_
  refine e_int (nI (ii + 2)) (nI_add ii 2) ?_
  refine e_sld (ii + 2) dL_law_549 rfl (by omega) hg ?_
  refine e_int (nI w) ha2 ?_
  refine e_callV (k := 89) [.int (nI k), .int (nI w)] dL_law_550 cc_X10_piece lk_RL_118 im_X10_piece se_X10_piece (by decide) (M1.s 89 rfl) (M1.n (by decide)) rfl (Nat.le_of_ble_eq_true rfl) (Nat.le_of_ble_eq_true rfl) ?_
  refine t_X10_piece M1 hI.2.1 r1 hk hw (fun σ2 s2 r2 z2 => fK_i ?_)
  show fEv g _ mL_law 553 [some (.ref fscr), some (.ref 0), some (.ref 89), some (.ref 300), some (.int (nI ii)), some (.int (nI 0)), o6, none] [.int (nI ((iS (xI x)) (k * 6 + w)))] σ2 Q
  have M2 := M1.sm s2
  refine e_istore (L1 := [some (.ref fscr), some (.ref 0), some (.ref 89), some (.ref 300), some (.int (nI ii)), some (.int (nI 0)), some (.int (nI ((iS (xI x)) (k * 6 + w)))), none]) dL_law_553 (by decide) rfl ?_
  refine e_aload_n dL_law_555 rfl rfl ?_
  refine e_callV (k := 89) [] dL_law_556 cc_X10_thrown lk_RL_99 im_X10_thrown se_X10_thrown (by decide) (M2.s 89 rfl) (M2.n (by decide)) rfl (Nat.le_of_ble_eq_true rfl) (Nat.le_of_ble_eq_true rfl) ?_
  refine t_X10_thrown M2 z2 (fK_i ?_)
  show fEv g _ mL_law 559 [some (.ref fscr), some (.ref 0), some (.ref 89), some (.ref 300), some (.int (nI ii)), some (.int (nI 0)), some (.int (nI ((iS (xI x)) (k * 6 + w)))), none] [.int (nI 0)] σ2 Q
  refine e_iload dL_law_559 rfl ?_
  refine e_icmp_eq 566 dL_law_561 (by decide) (fun _ => ?_) (fun c => absurd c (by decide))
  refine e_iload dL_law_566 rfl ?_
  refine e_if_ne 583 dL_law_568 (by decide) (fun c => absurd c (by decide)) (fun _ => ?_)
  refine e_aload_n dL_law_571 rfl rfl ?_
  refine e_iconst (nI 0) dL_law_572 (by decide) ?_
  refine e_laload 0 dL_law_573 (M2.s 300 rfl) (M2.n (by decide)) rfl (by omega) (by decide) ?_
  refine e_long (((nI ((iS (xI x)) (k * 6 + w)) : Int32)).toInt64) ((s2.j (fun q => by unfold fRfA at q; omega) 0).trans v1) ?_
  refine e_iload dL_law_574 rfl ?_
  refine e_i2l dL_law_576 ?_
  refine e_lcmp dL_law_577 ?_
  refine e_if_eq 583 dL_law_578 (by decide) (fun _ => ?_) (fun c => absurd (lc_eq.mpr rfl) c)
  refine e_goto 1782 dL_law_583 (by decide) ?_
  exact h σ2 _ _ _ ((hI.both hI.2.1 s1 c1 s2 r2).le (Nat.le_succ nn))
set_option maxRecDepth 20000 in
theorem c_pieceE1 {g : fGP} {d : Nat} {σ : fAH} {Q : fRes → fAH → Prop} {x : fXS} {a b : Int32} {nn ii : Nat} {o5 o6 : Option Value} (hg : gLL g < 2147483648) (hi6 : ii + 6 ≤ gLL g) (hI : fLI g σ x (nn + 1)) (hv : ¬ (nI 0 ≤ a ∧ a < nI ((iS (xI x)) 120))) (ha1 : gxs g (ii + 1) = a) (ha2 : gxs g (ii + 2) = b) (h : ∀ σ' x' o5 o6, fLI g σ' x' nn → fEv g (d + 45) mL_law 1782 [some (.ref fscr), some (.ref 0), some (.ref 89), some (.ref 300), some (.int (nI ii)), o5, o6, none] [] σ' Q) : fEv g (d + 45) mL_law 518 [some (.ref fscr), some (.ref 0), some (.ref 89), some (.ref 300), some (.int (nI ii)), o5, o6, none] [] σ Q := by
  refine e_aload_n dL_law_518 rfl rfl ?_
  refine e_aload_n dL_law_519 rfl rfl ?_
  refine e_iload dL_law_520 rfl ?_
  refine e_iconst (nI 1) dL_law_522 (by decide) ?_
  refine e_iadd dL_law_523 ?_
  refine e_int (nI (ii + 1)) (nI_add ii 1) ?_
  refine e_sld (ii + 1) dL_law_524 rfl (by omega) hg ?_
  refine e_int (a) ha1 ?_
  refine e_aload_n dL_law_525 rfl rfl ?_
  refine e_iload dL_law_526 rfl ?_
  refine e_iconst (nI 2) dL_law_528 (by decide) ?_
  refine e_iadd dL_law_529 ?_
  refine e_int (nI (ii + 2)) (nI_add ii 2) ?_
  refine e_sld (ii + 2) dL_law_530 rfl (by omega) hg ?_
  refine e_int (b) ha2 ?_
  refine e_aload_n dL_law_531 rfl rfl ?_
  refine e_callS [.ref 0, .int a, .int b, .ref 300] dL_law_532 cc_L_piece lk_RL_116 st_L_piece in_RL rfl (Nat.le_of_ble_eq_true rfl) (Nat.le_of_ble_eq_true rfl) ?_
  refine t_L_pieceE1 hI.1 hI.2.1 hI.2.2.1 hv hI.rm (fK_i ?_)
  show fEv g _ mL_law 535 [some (.ref fscr), some (.ref 0), some (.ref 89), some (.ref 300), some (.int (nI ii)), o5, o6, none] [.int (nI 1)] (fthr σ) Q
  have hJ := hI.thr
  refine e_istore (L1 := [some (.ref fscr), some (.ref 0), some (.ref 89), some (.ref 300), some (.int (nI ii)), some (.int (nI 1)), o6, none]) dL_law_535 (by decide) rfl ?_
  refine e_aload_n dL_law_537 rfl rfl ?_
  refine e_aload_n dL_law_538 rfl rfl ?_
  refine e_iload dL_law_539 rfl ?_
  refine e_iconst (nI 1) dL_law_541 (by decide) ?_
  refine e_iadd dL_law_542 ?_
  refine e_int (nI (ii + 1)) (nI_add ii 1) ?_
  refine e_sld (ii + 1) dL_law_543 rfl (by omega) hg ?_
  refine e_int (a) ha1 ?_
  refine e_aload_n dL_law_544 rfl rfl ?_
  refine e_iload dL_law_545 rfl ?_
  refine e_iconst (nI 2) dL_law_547 (by decide) ?_
  refine e_iadd dL_law_548 ?_
  refine e_int (nI (ii + 2)) (nI_add ii 2) ?_
  refine e_sld (ii + 2) dL_law_549 rfl (by omega) hg ?_
  refine e_int (b) ha2 ?_
  refine e_callV (k := 89) [.int a, .int b] dL_law_550 cc_X10_piece lk_RL_118 im_X10_piece se_X10_piece (by decide) (hJ.1.s 89 rfl) (hJ.1.n (by decide)) rfl (Nat.le_of_ble_eq_true rfl) (Nat.le_of_ble_eq_true rfl) ?_
  refine t_X10_pieceE1 hJ.1 hJ.2.1 hJ.2.2.2.1 hv (fun σ2 s2 r2 z2 => fK_i ?_)
  show fEv g _ mL_law 553 [some (.ref fscr), some (.ref 0), some (.ref 89), some (.ref 300), some (.int (nI ii)), some (.int (nI 1)), o6, none] [.int (nI 0)] σ2 Q
  have M2 := hJ.1.sm s2
  refine e_istore (L1 := [some (.ref fscr), some (.ref 0), some (.ref 89), some (.ref 300), some (.int (nI ii)), some (.int (nI 1)), some (.int (nI 0)), none]) dL_law_553 (by decide) rfl ?_
  refine e_aload_n dL_law_555 rfl rfl ?_
  refine e_callV (k := 89) [] dL_law_556 cc_X10_thrown lk_RL_99 im_X10_thrown se_X10_thrown (by decide) (M2.s 89 rfl) (M2.n (by decide)) rfl (Nat.le_of_ble_eq_true rfl) (Nat.le_of_ble_eq_true rfl) ?_
  refine t_X10_thrown M2 z2 (fK_i ?_)
  show fEv g _ mL_law 559 [some (.ref fscr), some (.ref 0), some (.ref 89), some (.ref 300), some (.int (nI ii)), some (.int (nI 1)), some (.int (nI 0)), none] [.int (nI 1)] σ2 Q
  refine e_iload dL_law_559 rfl ?_
  refine e_icmp_eq 566 dL_law_561 (by decide) (fun _ => ?_) (fun c => absurd c (by decide))
  refine e_iload dL_law_566 rfl ?_
  refine e_if_ne 583 dL_law_568 (by decide) (fun _ => ?_) (fun c => absurd c (by decide))
  refine e_goto 1782 dL_law_583 (by decide) ?_
  exact h σ2 x _ _ (hJ.sm s2 hI.2.1 (hJ.2.2.1.rf hI.2.1 s2) r2)
set_option maxRecDepth 20000 in
theorem c_pieceE2 {g : fGP} {d : Nat} {σ : fAH} {Q : fRes → fAH → Prop} {x : fXS} {k : Nat} {b : Int32} {nn ii : Nat} {o5 o6 : Option Value} (hg : gLL g < 2147483648) (hi6 : ii + 6 ≤ gLL g) (hI : fLI g σ x (nn + 1)) (hk : k < (iS (xI x)) 120) (hv : ¬ (nI 0 ≤ b ∧ b ≤ nI 5)) (ha1 : gxs g (ii + 1) = nI k) (ha2 : gxs g (ii + 2) = b) (h : ∀ σ' x' o5 o6, fLI g σ' x' nn → fEv g (d + 45) mL_law 1782 [some (.ref fscr), some (.ref 0), some (.ref 89), some (.ref 300), some (.int (nI ii)), o5, o6, none] [] σ' Q) : fEv g (d + 45) mL_law 518 [some (.ref fscr), some (.ref 0), some (.ref 89), some (.ref 300), some (.int (nI ii)), o5, o6, none] [] σ Q := by
  refine e_aload_n dL_law_518 rfl rfl ?_
  refine e_aload_n dL_law_519 rfl rfl ?_
  refine e_iload dL_law_520 rfl ?_
  refine e_iconst (nI 1) dL_law_522 (by decide) ?_
  refine e_iadd dL_law_523 ?_
  refine e_int (nI (ii + 1)) (nI_add ii 1) ?_
  refine e_sld (ii + 1) dL_law_524 rfl (by omega) hg ?_
  refine e_int (nI k) ha1 ?_
  refine e_aload_n dL_law_525 rfl rfl ?_
  refine e_iload dL_law_526 rfl ?_
  refine e_iconst (nI 2) dL_law_528 (by decide) ?_
  refine e_iadd dL_law_529 ?_
  refine e_int (nI (ii + 2)) (nI_add ii 2) ?_
  refine e_sld (ii + 2) dL_law_530 rfl (by omega) hg ?_
  refine e_int (b) ha2 ?_
  refine e_aload_n dL_law_531 rfl rfl ?_
  refine e_callS [.ref 0, .int (nI k), .int b, .ref 300] dL_law_532 cc_L_piece lk_RL_116 st_L_piece in_RL rfl (Nat.le_of_ble_eq_true rfl) (Nat.le_of_ble_eq_true rfl) ?_
  refine t_L_pieceE2 hI.1 hI.2.1 hI.2.2.1 hk hv hI.rm (fK_i ?_)
  show fEv g _ mL_law 535 [some (.ref fscr), some (.ref 0), some (.ref 89), some (.ref 300), some (.int (nI ii)), o5, o6, none] [.int (nI 2)] (fthr σ) Q
  have hJ := hI.thr
  refine e_istore (L1 := [some (.ref fscr), some (.ref 0), some (.ref 89), some (.ref 300), some (.int (nI ii)), some (.int (nI 2)), o6, none]) dL_law_535 (by decide) rfl ?_
  refine e_aload_n dL_law_537 rfl rfl ?_
  refine e_aload_n dL_law_538 rfl rfl ?_
  refine e_iload dL_law_539 rfl ?_
  refine e_iconst (nI 1) dL_law_541 (by decide) ?_
  refine e_iadd dL_law_542 ?_
  refine e_int (nI (ii + 1)) (nI_add ii 1) ?_
  refine e_sld (ii + 1) dL_law_543 rfl (by omega) hg ?_
  refine e_int (nI k) ha1 ?_
  refine e_aload_n dL_law_544 rfl rfl ?_
  refine e_iload dL_law_545 rfl ?_
  refine e_iconst (nI 2) dL_law_547 (by decide) ?_
  refine e_iadd dL_law_548 ?_
  refine e_int (nI (ii + 2)) (nI_add ii 2) ?_
  refine e_sld (ii + 2) dL_law_549 rfl (by omega) hg ?_
  refine e_int (b) ha2 ?_
  refine e_callV (k := 89) [.int (nI k), .int b] dL_law_550 cc_X10_piece lk_RL_118 im_X10_piece se_X10_piece (by decide) (hJ.1.s 89 rfl) (hJ.1.n (by decide)) rfl (Nat.le_of_ble_eq_true rfl) (Nat.le_of_ble_eq_true rfl) ?_
  refine t_X10_pieceE2 hJ.1 hJ.2.1 hJ.2.2.2.1 hk hv (fun σ2 s2 r2 z2 => fK_i ?_)
  show fEv g _ mL_law 553 [some (.ref fscr), some (.ref 0), some (.ref 89), some (.ref 300), some (.int (nI ii)), some (.int (nI 2)), o6, none] [.int (nI 0)] σ2 Q
  have M2 := hJ.1.sm s2
  refine e_istore (L1 := [some (.ref fscr), some (.ref 0), some (.ref 89), some (.ref 300), some (.int (nI ii)), some (.int (nI 2)), some (.int (nI 0)), none]) dL_law_553 (by decide) rfl ?_
  refine e_aload_n dL_law_555 rfl rfl ?_
  refine e_callV (k := 89) [] dL_law_556 cc_X10_thrown lk_RL_99 im_X10_thrown se_X10_thrown (by decide) (M2.s 89 rfl) (M2.n (by decide)) rfl (Nat.le_of_ble_eq_true rfl) (Nat.le_of_ble_eq_true rfl) ?_
  refine t_X10_thrown M2 z2 (fK_i ?_)
  show fEv g _ mL_law 559 [some (.ref fscr), some (.ref 0), some (.ref 89), some (.ref 300), some (.int (nI ii)), some (.int (nI 2)), some (.int (nI 0)), none] [.int (nI 2)] σ2 Q
  refine e_iload dL_law_559 rfl ?_
  refine e_icmp_eq 566 dL_law_561 (by decide) (fun _ => ?_) (fun c => absurd c (by decide))
  refine e_iload dL_law_566 rfl ?_
  refine e_if_ne 583 dL_law_568 (by decide) (fun _ => ?_) (fun c => absurd c (by decide))
  refine e_goto 1782 dL_law_583 (by decide) ?_
  exact h σ2 x _ _ (hJ.sm s2 hI.2.1 (hJ.2.2.1.rf hI.2.1 s2) r2)
set_option maxRecDepth 20000 in
theorem c_odds {g : fGP} {d : Nat} {σ : fAH} {Q : fRes → fAH → Prop} {x : fXS} {t k : Nat} {nn ii : Nat} {o5 o6 : Option Value} (hg : gLL g < 2147483648) (hi6 : ii + 6 ≤ gLL g) (hI : fLI g σ x (nn + 1)) (ht : t < 30) (hk : 1 ≤ k ∧ k ≤ 9) (ha1 : gxs g (ii + 1) = nI t) (ha2 : gxs g (ii + 2) = nI k) (h : ∀ σ' x' o5 o6, fLI g σ' x' nn → fEv g (d + 45) mL_law 1782 [some (.ref fscr), some (.ref 0), some (.ref 89), some (.ref 300), some (.int (nI ii)), o5, o6, none] [] σ' Q) : fEv g (d + 45) mL_law 586 [some (.ref fscr), some (.ref 0), some (.ref 89), some (.ref 300), some (.int (nI ii)), o5, o6, none] [] σ Q := by
  refine e_aload_n dL_law_586 rfl rfl ?_
  refine e_aload_n dL_law_587 rfl rfl ?_
  refine e_iload dL_law_588 rfl ?_
  refine e_iconst (nI 1) dL_law_590 (by decide) ?_
  refine e_iadd dL_law_591 ?_
  refine e_int (nI (ii + 1)) (nI_add ii 1) ?_
  refine e_sld (ii + 1) dL_law_592 rfl (by omega) hg ?_
  refine e_int (nI t) ha1 ?_
  refine e_aload_n dL_law_593 rfl rfl ?_
  refine e_iload dL_law_594 rfl ?_
  refine e_iconst (nI 2) dL_law_596 (by decide) ?_
  refine e_iadd dL_law_597 ?_
  refine e_int (nI (ii + 2)) (nI_add ii 2) ?_
  refine e_sld (ii + 2) dL_law_598 rfl (by omega) hg ?_
  refine e_int (nI k) ha2 ?_
  refine e_aload_n dL_law_599 rfl rfl ?_
  refine e_callS [.ref 0, .int (nI t), .int (nI k), .ref 300] dL_law_600 cc_L_odds lk_RL_119 st_L_odds in_RL rfl (Nat.le_of_ble_eq_true rfl) (Nat.le_of_ble_eq_true rfl) ?_
  refine t_L_odds hI.1 hI.2.1 hI.2.2.1 ht hk (fun σ1 s1 c1 v1 => fK_i ?_)
  show fEv g _ mL_law 603 [some (.ref fscr), some (.ref 0), some (.ref 89), some (.ref 300), some (.int (nI ii)), o5, o6, none] [.int (nI 0)] σ1 Q
  have r1 := hI.2.2.2.1.clB hI.2.1 s1
  have M1 := hI.1.sm s1
  refine e_istore (L1 := [some (.ref fscr), some (.ref 0), some (.ref 89), some (.ref 300), some (.int (nI ii)), some (.int (nI 0)), o6, none]) dL_law_603 (by decide) rfl ?_
  refine e_aload_n dL_law_605 rfl rfl ?_
  refine e_aload_n dL_law_606 rfl rfl ?_
  refine e_iload dL_law_607 rfl ?_
  refine e_iconst (nI 1) dL_law_609 (by decide) ?_
  refine e_iadd dL_law_610 ?_
  refine e_int (nI (ii + 1)) (nI_add ii 1) ?_
  refine e_sld (ii + 1) dL_law_611 rfl (by omega) hg ?_
  refine e_int (nI t) ha1 ?_
  refine e_aload_n dL_law_612 rfl rfl ?_
  refine e_iload dL_law_613 rfl ?_
  refine e_iconst (nI 2) dL_law_615 (by decide) ?_
  refine e_iadd dL_law_616 ?_
  refine e_int (nI (ii + 2)) (nI_add ii 2) ?_
  refine e_sld (ii + 2) dL_law_617 rfl (by omega) hg ?_
  refine e_int (nI k) ha2 ?_
  refine e_callV (k := 89) [.int (nI t), .int (nI k)] dL_law_618 cc_X10_odds lk_RL_121 im_X10_odds se_X10_odds (by decide) (M1.s 89 rfl) (M1.n (by decide)) rfl (Nat.le_of_ble_eq_true rfl) (Nat.le_of_ble_eq_true rfl) ?_
  refine t_X10_odds M1 hI.2.1 r1 ht hk (fun σ2 s2 r2 z2 => fK_i ?_)
  show fEv g _ mL_law 621 [some (.ref fscr), some (.ref 0), some (.ref 89), some (.ref 300), some (.int (nI ii)), some (.int (nI 0)), o6, none] [.int (nI (moc (xD x) t (10 - k) k 0))] σ2 Q
  have M2 := M1.sm s2
  refine e_istore (L1 := [some (.ref fscr), some (.ref 0), some (.ref 89), some (.ref 300), some (.int (nI ii)), some (.int (nI 0)), some (.int (nI (moc (xD x) t (10 - k) k 0))), none]) dL_law_621 (by decide) rfl ?_
  refine e_aload_n dL_law_623 rfl rfl ?_
  refine e_callV (k := 89) [] dL_law_624 cc_X10_thrown lk_RL_99 im_X10_thrown se_X10_thrown (by decide) (M2.s 89 rfl) (M2.n (by decide)) rfl (Nat.le_of_ble_eq_true rfl) (Nat.le_of_ble_eq_true rfl) ?_
  refine t_X10_thrown M2 z2 (fK_i ?_)
  show fEv g _ mL_law 627 [some (.ref fscr), some (.ref 0), some (.ref 89), some (.ref 300), some (.int (nI ii)), some (.int (nI 0)), some (.int (nI (moc (xD x) t (10 - k) k 0))), none] [.int (nI 0)] σ2 Q
  refine e_iload dL_law_627 rfl ?_
  refine e_icmp_eq 634 dL_law_629 (by decide) (fun _ => ?_) (fun c => absurd c (by decide))
  refine e_iload dL_law_634 rfl ?_
  refine e_if_ne 651 dL_law_636 (by decide) (fun c => absurd c (by decide)) (fun _ => ?_)
  refine e_aload_n dL_law_639 rfl rfl ?_
  refine e_iconst (nI 0) dL_law_640 (by decide) ?_
  refine e_laload 0 dL_law_641 (M2.s 300 rfl) (M2.n (by decide)) rfl (by omega) (by decide) ?_
  refine e_long (((nI (moc (xD x) t (10 - k) k 0) : Int32)).toInt64) ((s2.j (fun q => by unfold fRfA at q; omega) 0).trans v1) ?_
  refine e_iload dL_law_642 rfl ?_
  refine e_i2l dL_law_644 ?_
  refine e_lcmp dL_law_645 ?_
  refine e_if_eq 651 dL_law_646 (by decide) (fun _ => ?_) (fun c => absurd (lc_eq.mpr rfl) c)
  refine e_goto 1782 dL_law_651 (by decide) ?_
  exact h σ2 _ _ _ ((hI.both hI.2.1 s1 c1 s2 r2).le (Nat.le_succ nn))
set_option maxRecDepth 20000 in
theorem c_oddsE1 {g : fGP} {d : Nat} {σ : fAH} {Q : fRes → fAH → Prop} {x : fXS} {a b : Int32} {nn ii : Nat} {o5 o6 : Option Value} (hg : gLL g < 2147483648) (hi6 : ii + 6 ≤ gLL g) (hI : fLI g σ x (nn + 1)) (hv : ¬ (nI 0 ≤ a ∧ a ≤ nI 29)) (ha1 : gxs g (ii + 1) = a) (ha2 : gxs g (ii + 2) = b) (h : ∀ σ' x' o5 o6, fLI g σ' x' nn → fEv g (d + 45) mL_law 1782 [some (.ref fscr), some (.ref 0), some (.ref 89), some (.ref 300), some (.int (nI ii)), o5, o6, none] [] σ' Q) : fEv g (d + 45) mL_law 586 [some (.ref fscr), some (.ref 0), some (.ref 89), some (.ref 300), some (.int (nI ii)), o5, o6, none] [] σ Q := by
  refine e_aload_n dL_law_586 rfl rfl ?_
  refine e_aload_n dL_law_587 rfl rfl ?_
  refine e_iload dL_law_588 rfl ?_
  refine e_iconst (nI 1) dL_law_590 (by decide) ?_
  refine e_iadd dL_law_591 ?_
  refine e_int (nI (ii + 1)) (nI_add ii 1) ?_
  refine e_sld (ii + 1) dL_law_592 rfl (by omega) hg ?_
  refine e_int (a) ha1 ?_
  refine e_aload_n dL_law_593 rfl rfl ?_
  refine e_iload dL_law_594 rfl ?_
  refine e_iconst (nI 2) dL_law_596 (by decide) ?_
  refine e_iadd dL_law_597 ?_
  refine e_int (nI (ii + 2)) (nI_add ii 2) ?_
  refine e_sld (ii + 2) dL_law_598 rfl (by omega) hg ?_
  refine e_int (b) ha2 ?_
  refine e_aload_n dL_law_599 rfl rfl ?_
  refine e_callS [.ref 0, .int a, .int b, .ref 300] dL_law_600 cc_L_odds lk_RL_119 st_L_odds in_RL rfl (Nat.le_of_ble_eq_true rfl) (Nat.le_of_ble_eq_true rfl) ?_
  refine t_L_oddsE1 hI.1 hI.2.1 hI.2.2.1 hv hI.rm (fK_i ?_)
  show fEv g _ mL_law 603 [some (.ref fscr), some (.ref 0), some (.ref 89), some (.ref 300), some (.int (nI ii)), o5, o6, none] [.int (nI 1)] (fthr σ) Q
  have hJ := hI.thr
  refine e_istore (L1 := [some (.ref fscr), some (.ref 0), some (.ref 89), some (.ref 300), some (.int (nI ii)), some (.int (nI 1)), o6, none]) dL_law_603 (by decide) rfl ?_
  refine e_aload_n dL_law_605 rfl rfl ?_
  refine e_aload_n dL_law_606 rfl rfl ?_
  refine e_iload dL_law_607 rfl ?_
  refine e_iconst (nI 1) dL_law_609 (by decide) ?_
  refine e_iadd dL_law_610 ?_
  refine e_int (nI (ii + 1)) (nI_add ii 1) ?_
  refine e_sld (ii + 1) dL_law_611 rfl (by omega) hg ?_
  refine e_int (a) ha1 ?_
  refine e_aload_n dL_law_612 rfl rfl ?_
  refine e_iload dL_law_613 rfl ?_
  refine e_iconst (nI 2) dL_law_615 (by decide) ?_
  refine e_iadd dL_law_616 ?_
  refine e_int (nI (ii + 2)) (nI_add ii 2) ?_
  refine e_sld (ii + 2) dL_law_617 rfl (by omega) hg ?_
  refine e_int (b) ha2 ?_
  refine e_callV (k := 89) [.int a, .int b] dL_law_618 cc_X10_odds lk_RL_121 im_X10_odds se_X10_odds (by decide) (hJ.1.s 89 rfl) (hJ.1.n (by decide)) rfl (Nat.le_of_ble_eq_true rfl) (Nat.le_of_ble_eq_true rfl) ?_
  refine t_X10_oddsE1 hJ.1 hJ.2.1 hJ.2.2.2.1 hv (fun σ2 s2 r2 z2 => fK_i ?_)
  show fEv g _ mL_law 621 [some (.ref fscr), some (.ref 0), some (.ref 89), some (.ref 300), some (.int (nI ii)), some (.int (nI 1)), o6, none] [.int (nI 0)] σ2 Q
  have M2 := hJ.1.sm s2
  refine e_istore (L1 := [some (.ref fscr), some (.ref 0), some (.ref 89), some (.ref 300), some (.int (nI ii)), some (.int (nI 1)), some (.int (nI 0)), none]) dL_law_621 (by decide) rfl ?_
  refine e_aload_n dL_law_623 rfl rfl ?_
  refine e_callV (k := 89) [] dL_law_624 cc_X10_thrown lk_RL_99 im_X10_thrown se_X10_thrown (by decide) (M2.s 89 rfl) (M2.n (by decide)) rfl (Nat.le_of_ble_eq_true rfl) (Nat.le_of_ble_eq_true rfl) ?_
  refine t_X10_thrown M2 z2 (fK_i ?_)
  show fEv g _ mL_law 627 [some (.ref fscr), some (.ref 0), some (.ref 89), some (.ref 300), some (.int (nI ii)), some (.int (nI 1)), some (.int (nI 0)), none] [.int (nI 1)] σ2 Q
  refine e_iload dL_law_627 rfl ?_
  refine e_icmp_eq 634 dL_law_629 (by decide) (fun _ => ?_) (fun c => absurd c (by decide))
  refine e_iload dL_law_634 rfl ?_
  refine e_if_ne 651 dL_law_636 (by decide) (fun _ => ?_) (fun c => absurd c (by decide))
  refine e_goto 1782 dL_law_651 (by decide) ?_
  exact h σ2 x _ _ (hJ.sm s2 hI.2.1 (hJ.2.2.1.rf hI.2.1 s2) r2)
set_option maxRecDepth 20000 in
theorem c_oddsE2 {g : fGP} {d : Nat} {σ : fAH} {Q : fRes → fAH → Prop} {x : fXS} {t : Nat} {b : Int32} {nn ii : Nat} {o5 o6 : Option Value} (hg : gLL g < 2147483648) (hi6 : ii + 6 ≤ gLL g) (hI : fLI g σ x (nn + 1)) (ht : t < 30) (hv : ¬ (nI 1 ≤ b ∧ b ≤ nI 9)) (ha1 : gxs g (ii + 1) = nI t) (ha2 : gxs g (ii + 2) = b) (h : ∀ σ' x' o5 o6, fLI g σ' x' nn → fEv g (d + 45) mL_law 1782 [some (.ref fscr), some (.ref 0), some (.ref 89), some (.ref 300), some (.int (nI ii)), o5, o6, none] [] σ' Q) : fEv g (d + 45) mL_law 586 [some (.ref fscr), some (.ref 0), some (.ref 89), some (.ref 300), some (.int (nI ii)), o5, o6, none] [] σ Q := by
  refine e_aload_n dL_law_586 rfl rfl ?_
  refine e_aload_n dL_law_587 rfl rfl ?_
  refine e_iload dL_law_588 rfl ?_
  refine e_iconst (nI 1) dL_law_590 (by decide) ?_
  refine e_iadd dL_law_591 ?_
  refine e_int (nI (ii + 1)) (nI_add ii 1) ?_
  refine e_sld (ii + 1) dL_law_592 rfl (by omega) hg ?_
  refine e_int (nI t) ha1 ?_
  refine e_aload_n dL_law_593 rfl rfl ?_
  refine e_iload dL_law_594 rfl ?_
  refine e_iconst (nI 2) dL_law_596 (by decide) ?_
  refine e_iadd dL_law_597 ?_
  refine e_int (nI (ii + 2)) (nI_add ii 2) ?_
  refine e_sld (ii + 2) dL_law_598 rfl (by omega) hg ?_
  refine e_int (b) ha2 ?_
  refine e_aload_n dL_law_599 rfl rfl ?_
  refine e_callS [.ref 0, .int (nI t), .int b, .ref 300] dL_law_600 cc_L_odds lk_RL_119 st_L_odds in_RL rfl (Nat.le_of_ble_eq_true rfl) (Nat.le_of_ble_eq_true rfl) ?_
  refine t_L_oddsE2 hI.1 hI.2.1 hI.2.2.1 ht hv hI.rm (fK_i ?_)
  show fEv g _ mL_law 603 [some (.ref fscr), some (.ref 0), some (.ref 89), some (.ref 300), some (.int (nI ii)), o5, o6, none] [.int (nI 1)] (fthr σ) Q
  have hJ := hI.thr
  refine e_istore (L1 := [some (.ref fscr), some (.ref 0), some (.ref 89), some (.ref 300), some (.int (nI ii)), some (.int (nI 1)), o6, none]) dL_law_603 (by decide) rfl ?_
  refine e_aload_n dL_law_605 rfl rfl ?_
  refine e_aload_n dL_law_606 rfl rfl ?_
  refine e_iload dL_law_607 rfl ?_
  refine e_iconst (nI 1) dL_law_609 (by decide) ?_
  refine e_iadd dL_law_610 ?_
  refine e_int (nI (ii + 1)) (nI_add ii 1) ?_
  refine e_sld (ii + 1) dL_law_611 rfl (by omega) hg ?_
  refine e_int (nI t) ha1 ?_
  refine e_aload_n dL_law_612 rfl rfl ?_
  refine e_iload dL_law_613 rfl ?_
  refine e_iconst (nI 2) dL_law_615 (by decide) ?_
  refine e_iadd dL_law_616 ?_
  refine e_int (nI (ii + 2)) (nI_add ii 2) ?_
  refine e_sld (ii + 2) dL_law_617 rfl (by omega) hg ?_
  refine e_int (b) ha2 ?_
  refine e_callV (k := 89) [.int (nI t), .int b] dL_law_618 cc_X10_odds lk_RL_121 im_X10_odds se_X10_odds (by decide) (hJ.1.s 89 rfl) (hJ.1.n (by decide)) rfl (Nat.le_of_ble_eq_true rfl) (Nat.le_of_ble_eq_true rfl) ?_
  refine t_X10_oddsE2 hJ.1 hJ.2.1 hJ.2.2.2.1 ht hv (fun σ2 s2 r2 z2 => fK_i ?_)
  show fEv g _ mL_law 621 [some (.ref fscr), some (.ref 0), some (.ref 89), some (.ref 300), some (.int (nI ii)), some (.int (nI 1)), o6, none] [.int (nI 0)] σ2 Q
  have M2 := hJ.1.sm s2
  refine e_istore (L1 := [some (.ref fscr), some (.ref 0), some (.ref 89), some (.ref 300), some (.int (nI ii)), some (.int (nI 1)), some (.int (nI 0)), none]) dL_law_621 (by decide) rfl ?_
  refine e_aload_n dL_law_623 rfl rfl ?_
  refine e_callV (k := 89) [] dL_law_624 cc_X10_thrown lk_RL_99 im_X10_thrown se_X10_thrown (by decide) (M2.s 89 rfl) (M2.n (by decide)) rfl (Nat.le_of_ble_eq_true rfl) (Nat.le_of_ble_eq_true rfl) ?_
  refine t_X10_thrown M2 z2 (fK_i ?_)
  show fEv g _ mL_law 627 [some (.ref fscr), some (.ref 0), some (.ref 89), some (.ref 300), some (.int (nI ii)), some (.int (nI 1)), some (.int (nI 0)), none] [.int (nI 1)] σ2 Q
  refine e_iload dL_law_627 rfl ?_
  refine e_icmp_eq 634 dL_law_629 (by decide) (fun _ => ?_) (fun c => absurd c (by decide))
  refine e_iload dL_law_634 rfl ?_
  refine e_if_ne 651 dL_law_636 (by decide) (fun _ => ?_) (fun c => absurd c (by decide))
  refine e_goto 1782 dL_law_651 (by decide) ?_
  exact h σ2 x _ _ (hJ.sm s2 hI.2.1 (hJ.2.2.1.rf hI.2.1 s2) r2)
set_option maxRecDepth 20000 in
theorem c_seed {g : fGP} {d : Nat} {σ : fAH} {Q : fRes → fAH → Prop} {x : fXS} {a : Int32} {nn ii : Nat} {o5 o6 : Option Value} (hg : gLL g < 2147483648) (hi6 : ii + 6 ≤ gLL g) (hI : fLI g σ x (nn + 1))  (ha1 : gxs g (ii + 1) = a) (h : ∀ σ' x' o5 o6, fLI g σ' x' nn → fEv g (d + 45) mL_law 1782 [some (.ref fscr), some (.ref 0), some (.ref 89), some (.ref 300), some (.int (nI ii)), o5, o6, none] [] σ' Q) : fEv g (d + 45) mL_law 654 [some (.ref fscr), some (.ref 0), some (.ref 89), some (.ref 300), some (.int (nI ii)), o5, o6, none] [] σ Q := by
  have okx : fOK ((xD x, (iS (xI x), iT (xI x), a, ipn (xI x), iP (xI x), irn (xI x), iR (xI x)), xB x, xt x, xp x, xm x, xM x)) := hI.2.1.seed
  refine e_aload_n dL_law_654 rfl rfl ?_
  refine e_aload_n dL_law_655 rfl rfl ?_
  refine e_iload dL_law_656 rfl ?_
  refine e_iconst (nI 1) dL_law_658 (by decide) ?_
  refine e_iadd dL_law_659 ?_
  refine e_int (nI (ii + 1)) (nI_add ii 1) ?_
  refine e_sld (ii + 1) dL_law_660 rfl (by omega) hg ?_
  refine e_int (a) ha1 ?_
  refine e_callV (k := 0) [.int a] dL_law_661 cc_X9_seed lk_RL_122 im_X9_seed se_X9_seed (by decide) (hI.1.s 0 rfl) (hI.1.n (by decide)) rfl (Nat.le_of_ble_eq_true rfl) (Nat.le_of_ble_eq_true rfl) ?_
  refine t_X9_seed hI.1 hI.2.1 hI.2.2.1  (fun σ1 s0 c1 => fK_i ?_)
  show fEv g _ mL_law 664 [some (.ref fscr), some (.ref 0), some (.ref 89), some (.ref 300), some (.int (nI ii)), o5, o6, none] [.int (iq (xI x))] σ1 Q
  have s1 : fSm fClB σ σ1 := s0.to (fun a (q : a < 89) => Or.inl q)
  have r1 := hI.2.2.2.1.clB hI.2.1 s1
  have M1 := hI.1.sm s1
  refine e_aload_n dL_law_664 rfl rfl ?_
  refine e_aload_n dL_law_665 rfl rfl ?_
  refine e_iload dL_law_666 rfl ?_
  refine e_iconst (nI 1) dL_law_668 (by decide) ?_
  refine e_iadd dL_law_669 ?_
  refine e_int (nI (ii + 1)) (nI_add ii 1) ?_
  refine e_sld (ii + 1) dL_law_670 rfl (by omega) hg ?_
  refine e_int (a) ha1 ?_
  refine e_callV (k := 89) [.int a] dL_law_671 cc_X10_seed lk_RL_125 im_X10_seed se_X10_seed (by decide) (M1.s 89 rfl) (M1.n (by decide)) rfl (Nat.le_of_ble_eq_true rfl) (Nat.le_of_ble_eq_true rfl) ?_
  refine t_X10_seed M1 hI.2.1 r1  (fun σ2 s2 r2 z2 => fK_i ?_)
  show fEv g _ mL_law 674 [some (.ref fscr), some (.ref 0), some (.ref 89), some (.ref 300), some (.int (nI ii)), o5, o6, none] [.int (iq (xI x)), .int (iq (xI x))] σ2 Q
  have M2 := M1.sm s2
  refine e_icmp_eq 1782 dL_law_674 (by decide) (fun _ => ?_) (fun c => absurd rfl c)
  exact h σ2 _ _ _ ((hI.both okx s1 c1 s2 r2).le (Nat.le_succ nn))
set_option maxRecDepth 20000 in
theorem c_night {g : fGP} {d : Nat} {σ : fAH} {Q : fRes → fAH → Prop} {x : fXS} {f c : Nat} {nn ii : Nat} {o5 o6 : Option Value} (hg : gLL g < 2147483648) (hi6 : ii + 6 ≤ gLL g) (hI : fLI g σ x (nn + 1)) (hf : f < 4096) (hv1 : nI f &&& (nI (mfa (mal (xD x) (iS (xI x))) 12 (dT (xD x) 1) 0 0) ^^^ (-1)) = 0) (hv2 : mon f 12 0 ≤ dT (xD x) 3) (hn : (iS (xI x)) 155 < 30) (hc : c ≤ 9) (ha1 : gxs g (ii + 1) = nI f) (ha2 : gxs g (ii + 2) = nI c) (h : ∀ σ' x' o5 o6, fLI g σ' x' nn → fEv g (d + 45) mL_law 1782 [some (.ref fscr), some (.ref 0), some (.ref 89), some (.ref 300), some (.int (nI ii)), o5, o6, none] [] σ' Q) : fEv g (d + 45) mL_law 679 [some (.ref fscr), some (.ref 0), some (.ref 89), some (.ref 300), some (.int (nI ii)), o5, o6, none] [] σ Q := by
  have okx : fOK ((xN f c x (iq (xI x)))) := (fOK.N hI.2.1 f c _ hn)
  refine e_aload_n dL_law_679 rfl rfl ?_
  refine e_aload_n dL_law_680 rfl rfl ?_
  refine e_iload dL_law_681 rfl ?_
  refine e_iconst (nI 1) dL_law_683 (by decide) ?_
  refine e_iadd dL_law_684 ?_
  refine e_int (nI (ii + 1)) (nI_add ii 1) ?_
  refine e_sld (ii + 1) dL_law_685 rfl (by omega) hg ?_
  refine e_int (nI f) ha1 ?_
  refine e_aload_n dL_law_686 rfl rfl ?_
  refine e_iload dL_law_687 rfl ?_
  refine e_iconst (nI 2) dL_law_689 (by decide) ?_
  refine e_iadd dL_law_690 ?_
  refine e_int (nI (ii + 2)) (nI_add ii 2) ?_
  refine e_sld (ii + 2) dL_law_691 rfl (by omega) hg ?_
  refine e_int (nI c) ha2 ?_
  refine e_aload_n dL_law_692 rfl rfl ?_
  refine e_callS [.ref 0, .int (nI f), .int (nI c), .ref 300] dL_law_693 cc_L_night lk_RL_126 st_L_night in_RL rfl (Nat.le_of_ble_eq_true rfl) (Nat.le_of_ble_eq_true rfl) ?_
  refine t_L_night hI.1 hI.2.1 hI.2.2.1 hf hv1 hv2 hn hc okx (fun σ1 s1 c1 v1 => fK_i ?_)
  show fEv g _ mL_law 696 [some (.ref fscr), some (.ref 0), some (.ref 89), some (.ref 300), some (.int (nI ii)), o5, o6, none] [.int (nI 0)] σ1 Q
  have r1 := hI.2.2.2.1.clB hI.2.1 s1
  have M1 := hI.1.sm s1
  refine e_istore (L1 := [some (.ref fscr), some (.ref 0), some (.ref 89), some (.ref 300), some (.int (nI ii)), some (.int (nI 0)), o6, none]) dL_law_696 (by decide) rfl ?_
  refine e_aload_n dL_law_698 rfl rfl ?_
  refine e_aload_n dL_law_699 rfl rfl ?_
  refine e_iload dL_law_700 rfl ?_
  refine e_iconst (nI 1) dL_law_702 (by decide) ?_
  refine e_iadd dL_law_703 ?_
  refine e_int (nI (ii + 1)) (nI_add ii 1) ?_
  refine e_sld (ii + 1) dL_law_704 rfl (by omega) hg ?_
  refine e_int (nI f) ha1 ?_
  refine e_aload_n dL_law_705 rfl rfl ?_
  refine e_iload dL_law_706 rfl ?_
  refine e_iconst (nI 2) dL_law_708 (by decide) ?_
  refine e_iadd dL_law_709 ?_
  refine e_int (nI (ii + 2)) (nI_add ii 2) ?_
  refine e_sld (ii + 2) dL_law_710 rfl (by omega) hg ?_
  refine e_int (nI c) ha2 ?_
  refine e_callV (k := 89) [.int (nI f), .int (nI c)] dL_law_711 cc_X10_night lk_RL_128 im_X10_night se_X10_night (by decide) (M1.s 89 rfl) (M1.n (by decide)) rfl (Nat.le_of_ble_eq_true rfl) (Nat.le_of_ble_eq_true rfl) ?_
  refine t_X10_night M1 hI.2.1 r1 hf hv1 hv2 hn hc (fun σ2 s2 r2 z2 => fK_i ?_)
  show fEv g _ mL_law 714 [some (.ref fscr), some (.ref 0), some (.ref 89), some (.ref 300), some (.int (nI ii)), some (.int (nI 0)), o6, none] [.int (nI ((mgo ldr (xD x) f c ((iS (xI x)), (iT (xI x)), iq (xI x))).1 152) - nI ((iS (xI x)) 152))] σ2 Q
  have M2 := M1.sm s2
  refine e_istore (L1 := [some (.ref fscr), some (.ref 0), some (.ref 89), some (.ref 300), some (.int (nI ii)), some (.int (nI 0)), some (.int (nI ((mgo ldr (xD x) f c ((iS (xI x)), (iT (xI x)), iq (xI x))).1 152) - nI ((iS (xI x)) 152))), none]) dL_law_714 (by decide) rfl ?_
  refine e_aload_n dL_law_716 rfl rfl ?_
  refine e_callV (k := 89) [] dL_law_717 cc_X10_thrown lk_RL_99 im_X10_thrown se_X10_thrown (by decide) (M2.s 89 rfl) (M2.n (by decide)) rfl (Nat.le_of_ble_eq_true rfl) (Nat.le_of_ble_eq_true rfl) ?_
  refine t_X10_thrown M2 z2 (fK_i ?_)
  show fEv g _ mL_law 720 [some (.ref fscr), some (.ref 0), some (.ref 89), some (.ref 300), some (.int (nI ii)), some (.int (nI 0)), some (.int (nI ((mgo ldr (xD x) f c ((iS (xI x)), (iT (xI x)), iq (xI x))).1 152) - nI ((iS (xI x)) 152))), none] [.int (nI 0)] σ2 Q
  refine e_iload dL_law_720 rfl ?_
  refine e_icmp_eq 727 dL_law_722 (by decide) (fun _ => ?_) (fun c => absurd c (by decide))
  refine e_iload dL_law_727 rfl ?_
  refine e_if_ne 744 dL_law_729 (by decide) (fun c => absurd c (by decide)) (fun _ => ?_)
  refine e_aload_n dL_law_732 rfl rfl ?_
  refine e_iconst (nI 0) dL_law_733 (by decide) ?_
  refine e_laload 0 dL_law_734 (M2.s 300 rfl) (M2.n (by decide)) rfl (by omega) (by decide) ?_
  refine e_long (((nI ((mgo ldr (xD x) f c ((iS (xI x)), (iT (xI x)), iq (xI x))).1 152) - nI ((iS (xI x)) 152) : Int32)).toInt64) ((s2.j (fun q => by unfold fRfA at q; omega) 0).trans v1) ?_
  refine e_iload dL_law_735 rfl ?_
  refine e_i2l dL_law_737 ?_
  refine e_lcmp dL_law_738 ?_
  refine e_if_eq 744 dL_law_739 (by decide) (fun _ => ?_) (fun c => absurd (lc_eq.mpr rfl) c)
  refine e_goto 1782 dL_law_744 (by decide) ?_
  exact h σ2 _ _ _ ((hI.both okx s1 c1 s2 r2).le (Nat.le_succ nn))
set_option maxRecDepth 20000 in
theorem c_nightD {g : fGP} {d : Nat} {σ : fAH} {Q : fRes → fAH → Prop} {x : fXS} {f : Nat} {nn ii : Nat} {o5 o6 : Option Value} (hg : gLL g < 2147483648) (hi6 : ii + 6 ≤ gLL g) (hI : fLI g σ x (nn + 1)) (hf : f < 4096) (hv1 : nI f &&& (nI (mfa (mal (xD x) (iS (xI x))) 12 (dT (xD x) 1) 0 0) ^^^ (-1)) = 0) (hv2 : mon f 12 0 ≤ dT (xD x) 3) (hn : (iS (xI x)) 155 < 30) (ha1 : gxs g (ii + 1) = nI f) (ha2 : gxs g (ii + 2) = -1) (h : ∀ σ' x' o5 o6, fLI g σ' x' nn → fEv g (d + 45) mL_law 1782 [some (.ref fscr), some (.ref 0), some (.ref 89), some (.ref 300), some (.int (nI ii)), o5, o6, none] [] σ' Q) : fEv g (d + 45) mL_law 679 [some (.ref fscr), some (.ref 0), some (.ref 89), some (.ref 300), some (.int (nI ii)), o5, o6, none] [] σ Q := by
  have okx : fOK ((xN f (mdc (xD x) (iS (xI x)) (iq (xI x))).1 x (mdc (xD x) (iS (xI x)) (iq (xI x))).2)) := (fOK.N hI.2.1 f _ _ hn)
  refine e_aload_n dL_law_679 rfl rfl ?_
  refine e_aload_n dL_law_680 rfl rfl ?_
  refine e_iload dL_law_681 rfl ?_
  refine e_iconst (nI 1) dL_law_683 (by decide) ?_
  refine e_iadd dL_law_684 ?_
  refine e_int (nI (ii + 1)) (nI_add ii 1) ?_
  refine e_sld (ii + 1) dL_law_685 rfl (by omega) hg ?_
  refine e_int (nI f) ha1 ?_
  refine e_aload_n dL_law_686 rfl rfl ?_
  refine e_iload dL_law_687 rfl ?_
  refine e_iconst (nI 2) dL_law_689 (by decide) ?_
  refine e_iadd dL_law_690 ?_
  refine e_int (nI (ii + 2)) (nI_add ii 2) ?_
  refine e_sld (ii + 2) dL_law_691 rfl (by omega) hg ?_
  refine e_int ((-1)) ha2 ?_
  refine e_aload_n dL_law_692 rfl rfl ?_
  refine e_callS [.ref 0, .int (nI f), .int ((-1)), .ref 300] dL_law_693 cc_L_night lk_RL_126 st_L_night in_RL rfl (Nat.le_of_ble_eq_true rfl) (Nat.le_of_ble_eq_true rfl) ?_
  refine t_L_nightD hI.1 hI.2.1 hI.2.2.1 hf hv1 hv2 hn okx (fun σ1 s1 c1 v1 => fK_i ?_)
  show fEv g _ mL_law 696 [some (.ref fscr), some (.ref 0), some (.ref 89), some (.ref 300), some (.int (nI ii)), o5, o6, none] [.int (nI 0)] σ1 Q
  have r1 := hI.2.2.2.1.clB hI.2.1 s1
  have M1 := hI.1.sm s1
  refine e_istore (L1 := [some (.ref fscr), some (.ref 0), some (.ref 89), some (.ref 300), some (.int (nI ii)), some (.int (nI 0)), o6, none]) dL_law_696 (by decide) rfl ?_
  refine e_aload_n dL_law_698 rfl rfl ?_
  refine e_aload_n dL_law_699 rfl rfl ?_
  refine e_iload dL_law_700 rfl ?_
  refine e_iconst (nI 1) dL_law_702 (by decide) ?_
  refine e_iadd dL_law_703 ?_
  refine e_int (nI (ii + 1)) (nI_add ii 1) ?_
  refine e_sld (ii + 1) dL_law_704 rfl (by omega) hg ?_
  refine e_int (nI f) ha1 ?_
  refine e_aload_n dL_law_705 rfl rfl ?_
  refine e_iload dL_law_706 rfl ?_
  refine e_iconst (nI 2) dL_law_708 (by decide) ?_
  refine e_iadd dL_law_709 ?_
  refine e_int (nI (ii + 2)) (nI_add ii 2) ?_
  refine e_sld (ii + 2) dL_law_710 rfl (by omega) hg ?_
  refine e_int ((-1)) ha2 ?_
  refine e_callV (k := 89) [.int (nI f), .int ((-1))] dL_law_711 cc_X10_night lk_RL_128 im_X10_night se_X10_night (by decide) (M1.s 89 rfl) (M1.n (by decide)) rfl (Nat.le_of_ble_eq_true rfl) (Nat.le_of_ble_eq_true rfl) ?_
  refine t_X10_nightD M1 hI.2.1 r1 hf hv1 hv2 hn (fun σ2 s2 r2 z2 => fK_i ?_)
  show fEv g _ mL_law 714 [some (.ref fscr), some (.ref 0), some (.ref 89), some (.ref 300), some (.int (nI ii)), some (.int (nI 0)), o6, none] [.int (nI ((mgo ldr (xD x) f (mdc (xD x) (iS (xI x)) (iq (xI x))).1 ((iS (xI x)), (iT (xI x)), (mdc (xD x) (iS (xI x)) (iq (xI x))).2)).1 152) - nI ((iS (xI x)) 152))] σ2 Q
  have M2 := M1.sm s2
  refine e_istore (L1 := [some (.ref fscr), some (.ref 0), some (.ref 89), some (.ref 300), some (.int (nI ii)), some (.int (nI 0)), some (.int (nI ((mgo ldr (xD x) f (mdc (xD x) (iS (xI x)) (iq (xI x))).1 ((iS (xI x)), (iT (xI x)), (mdc (xD x) (iS (xI x)) (iq (xI x))).2)).1 152) - nI ((iS (xI x)) 152))), none]) dL_law_714 (by decide) rfl ?_
  refine e_aload_n dL_law_716 rfl rfl ?_
  refine e_callV (k := 89) [] dL_law_717 cc_X10_thrown lk_RL_99 im_X10_thrown se_X10_thrown (by decide) (M2.s 89 rfl) (M2.n (by decide)) rfl (Nat.le_of_ble_eq_true rfl) (Nat.le_of_ble_eq_true rfl) ?_
  refine t_X10_thrown M2 z2 (fK_i ?_)
  show fEv g _ mL_law 720 [some (.ref fscr), some (.ref 0), some (.ref 89), some (.ref 300), some (.int (nI ii)), some (.int (nI 0)), some (.int (nI ((mgo ldr (xD x) f (mdc (xD x) (iS (xI x)) (iq (xI x))).1 ((iS (xI x)), (iT (xI x)), (mdc (xD x) (iS (xI x)) (iq (xI x))).2)).1 152) - nI ((iS (xI x)) 152))), none] [.int (nI 0)] σ2 Q
  refine e_iload dL_law_720 rfl ?_
  refine e_icmp_eq 727 dL_law_722 (by decide) (fun _ => ?_) (fun c => absurd c (by decide))
  refine e_iload dL_law_727 rfl ?_
  refine e_if_ne 744 dL_law_729 (by decide) (fun c => absurd c (by decide)) (fun _ => ?_)
  refine e_aload_n dL_law_732 rfl rfl ?_
  refine e_iconst (nI 0) dL_law_733 (by decide) ?_
  refine e_laload 0 dL_law_734 (M2.s 300 rfl) (M2.n (by decide)) rfl (by omega) (by decide) ?_
  refine e_long (((nI ((mgo ldr (xD x) f (mdc (xD x) (iS (xI x)) (iq (xI x))).1 ((iS (xI x)), (iT (xI x)), (mdc (xD x) (iS (xI x)) (iq (xI x))).2)).1 152) - nI ((iS (xI x)) 152) : Int32)).toInt64) ((s2.j (fun q => by unfold fRfA at q; omega) 0).trans v1) ?_
  refine e_iload dL_law_735 rfl ?_
  refine e_i2l dL_law_737 ?_
  refine e_lcmp dL_law_738 ?_
  refine e_if_eq 744 dL_law_739 (by decide) (fun _ => ?_) (fun c => absurd (lc_eq.mpr rfl) c)
  refine e_goto 1782 dL_law_744 (by decide) ?_
  exact h σ2 _ _ _ ((hI.both okx s1 c1 s2 r2).le (Nat.le_succ nn))
set_option maxRecDepth 20000 in
theorem c_nightE1 {g : fGP} {d : Nat} {σ : fAH} {Q : fRes → fAH → Prop} {x : fXS} {a b : Int32} {nn ii : Nat} {o5 o6 : Option Value} (hg : gLL g < 2147483648) (hi6 : ii + 6 ≤ gLL g) (hI : fLI g σ x (nn + 1)) (hv1 : ¬ a &&& (nI (mfa (mal (xD x) (iS (xI x))) 12 (dT (xD x) 1) 0 0) ^^^ (-1)) = 0) (ha1 : gxs g (ii + 1) = a) (ha2 : gxs g (ii + 2) = b) (h : ∀ σ' x' o5 o6, fLI g σ' x' nn → fEv g (d + 45) mL_law 1782 [some (.ref fscr), some (.ref 0), some (.ref 89), some (.ref 300), some (.int (nI ii)), o5, o6, none] [] σ' Q) : fEv g (d + 45) mL_law 679 [some (.ref fscr), some (.ref 0), some (.ref 89), some (.ref 300), some (.int (nI ii)), o5, o6, none] [] σ Q := by
  refine e_aload_n dL_law_679 rfl rfl ?_
  refine e_aload_n dL_law_680 rfl rfl ?_
  refine e_iload dL_law_681 rfl ?_
  refine e_iconst (nI 1) dL_law_683 (by decide) ?_
  refine e_iadd dL_law_684 ?_
  refine e_int (nI (ii + 1)) (nI_add ii 1) ?_
  refine e_sld (ii + 1) dL_law_685 rfl (by omega) hg ?_
  refine e_int (a) ha1 ?_
  refine e_aload_n dL_law_686 rfl rfl ?_
  refine e_iload dL_law_687 rfl ?_
  refine e_iconst (nI 2) dL_law_689 (by decide) ?_
  refine e_iadd dL_law_690 ?_
  refine e_int (nI (ii + 2)) (nI_add ii 2) ?_
  refine e_sld (ii + 2) dL_law_691 rfl (by omega) hg ?_
  refine e_int (b) ha2 ?_
  refine e_aload_n dL_law_692 rfl rfl ?_
  refine e_callS [.ref 0, .int a, .int b, .ref 300] dL_law_693 cc_L_night lk_RL_126 st_L_night in_RL rfl (Nat.le_of_ble_eq_true rfl) (Nat.le_of_ble_eq_true rfl) ?_
  refine t_L_nightE1 hI.1 hI.2.1 hI.2.2.1 hv1 hI.rm (fK_i ?_)
  show fEv g _ mL_law 696 [some (.ref fscr), some (.ref 0), some (.ref 89), some (.ref 300), some (.int (nI ii)), o5, o6, none] [.int (nI 1)] (fthr σ) Q
  have hJ := hI.thr
  refine e_istore (L1 := [some (.ref fscr), some (.ref 0), some (.ref 89), some (.ref 300), some (.int (nI ii)), some (.int (nI 1)), o6, none]) dL_law_696 (by decide) rfl ?_
  refine e_aload_n dL_law_698 rfl rfl ?_
  refine e_aload_n dL_law_699 rfl rfl ?_
  refine e_iload dL_law_700 rfl ?_
  refine e_iconst (nI 1) dL_law_702 (by decide) ?_
  refine e_iadd dL_law_703 ?_
  refine e_int (nI (ii + 1)) (nI_add ii 1) ?_
  refine e_sld (ii + 1) dL_law_704 rfl (by omega) hg ?_
  refine e_int (a) ha1 ?_
  refine e_aload_n dL_law_705 rfl rfl ?_
  refine e_iload dL_law_706 rfl ?_
  refine e_iconst (nI 2) dL_law_708 (by decide) ?_
  refine e_iadd dL_law_709 ?_
  refine e_int (nI (ii + 2)) (nI_add ii 2) ?_
  refine e_sld (ii + 2) dL_law_710 rfl (by omega) hg ?_
  refine e_int (b) ha2 ?_
  refine e_callV (k := 89) [.int a, .int b] dL_law_711 cc_X10_night lk_RL_128 im_X10_night se_X10_night (by decide) (hJ.1.s 89 rfl) (hJ.1.n (by decide)) rfl (Nat.le_of_ble_eq_true rfl) (Nat.le_of_ble_eq_true rfl) ?_
  refine t_X10_nightE1 hJ.1 hJ.2.1 hJ.2.2.2.1 hv1 (fun σ2 s2 r2 z2 => fK_i ?_)
  show fEv g _ mL_law 714 [some (.ref fscr), some (.ref 0), some (.ref 89), some (.ref 300), some (.int (nI ii)), some (.int (nI 1)), o6, none] [.int (nI 0)] σ2 Q
  have M2 := hJ.1.sm s2
  refine e_istore (L1 := [some (.ref fscr), some (.ref 0), some (.ref 89), some (.ref 300), some (.int (nI ii)), some (.int (nI 1)), some (.int (nI 0)), none]) dL_law_714 (by decide) rfl ?_
  refine e_aload_n dL_law_716 rfl rfl ?_
  refine e_callV (k := 89) [] dL_law_717 cc_X10_thrown lk_RL_99 im_X10_thrown se_X10_thrown (by decide) (M2.s 89 rfl) (M2.n (by decide)) rfl (Nat.le_of_ble_eq_true rfl) (Nat.le_of_ble_eq_true rfl) ?_
  refine t_X10_thrown M2 z2 (fK_i ?_)
  show fEv g _ mL_law 720 [some (.ref fscr), some (.ref 0), some (.ref 89), some (.ref 300), some (.int (nI ii)), some (.int (nI 1)), some (.int (nI 0)), none] [.int (nI 1)] σ2 Q
  refine e_iload dL_law_720 rfl ?_
  refine e_icmp_eq 727 dL_law_722 (by decide) (fun _ => ?_) (fun c => absurd c (by decide))
  refine e_iload dL_law_727 rfl ?_
  refine e_if_ne 744 dL_law_729 (by decide) (fun _ => ?_) (fun c => absurd c (by decide))
  refine e_goto 1782 dL_law_744 (by decide) ?_
  exact h σ2 x _ _ (hJ.sm s2 hI.2.1 (hJ.2.2.1.rf hI.2.1 s2) r2)
set_option maxRecDepth 20000 in
theorem c_nightE2 {g : fGP} {d : Nat} {σ : fAH} {Q : fRes → fAH → Prop} {x : fXS} {f : Nat} {b : Int32} {nn ii : Nat} {o5 o6 : Option Value} (hg : gLL g < 2147483648) (hi6 : ii + 6 ≤ gLL g) (hI : fLI g σ x (nn + 1)) (hf : f < 4096) (hv1 : nI f &&& (nI (mfa (mal (xD x) (iS (xI x))) 12 (dT (xD x) 1) 0 0) ^^^ (-1)) = 0) (hv2 : ¬ mon f 12 0 ≤ dT (xD x) 3) (ha1 : gxs g (ii + 1) = nI f) (ha2 : gxs g (ii + 2) = b) (h : ∀ σ' x' o5 o6, fLI g σ' x' nn → fEv g (d + 45) mL_law 1782 [some (.ref fscr), some (.ref 0), some (.ref 89), some (.ref 300), some (.int (nI ii)), o5, o6, none] [] σ' Q) : fEv g (d + 45) mL_law 679 [some (.ref fscr), some (.ref 0), some (.ref 89), some (.ref 300), some (.int (nI ii)), o5, o6, none] [] σ Q := by
  refine e_aload_n dL_law_679 rfl rfl ?_
  refine e_aload_n dL_law_680 rfl rfl ?_
  refine e_iload dL_law_681 rfl ?_
  refine e_iconst (nI 1) dL_law_683 (by decide) ?_
  refine e_iadd dL_law_684 ?_
  refine e_int (nI (ii + 1)) (nI_add ii 1) ?_
  refine e_sld (ii + 1) dL_law_685 rfl (by omega) hg ?_
  refine e_int (nI f) ha1 ?_
  refine e_aload_n dL_law_686 rfl rfl ?_
  refine e_iload dL_law_687 rfl ?_
  refine e_iconst (nI 2) dL_law_689 (by decide) ?_
  refine e_iadd dL_law_690 ?_
  refine e_int (nI (ii + 2)) (nI_add ii 2) ?_
  refine e_sld (ii + 2) dL_law_691 rfl (by omega) hg ?_
  refine e_int (b) ha2 ?_
  refine e_aload_n dL_law_692 rfl rfl ?_
  refine e_callS [.ref 0, .int (nI f), .int b, .ref 300] dL_law_693 cc_L_night lk_RL_126 st_L_night in_RL rfl (Nat.le_of_ble_eq_true rfl) (Nat.le_of_ble_eq_true rfl) ?_
  refine t_L_nightE2 hI.1 hI.2.1 hI.2.2.1 hf hv1 hv2 hI.rm (fK_i ?_)
  show fEv g _ mL_law 696 [some (.ref fscr), some (.ref 0), some (.ref 89), some (.ref 300), some (.int (nI ii)), o5, o6, none] [.int (nI 1)] (fthr σ) Q
  have hJ := hI.thr
  refine e_istore (L1 := [some (.ref fscr), some (.ref 0), some (.ref 89), some (.ref 300), some (.int (nI ii)), some (.int (nI 1)), o6, none]) dL_law_696 (by decide) rfl ?_
  refine e_aload_n dL_law_698 rfl rfl ?_
  refine e_aload_n dL_law_699 rfl rfl ?_
  refine e_iload dL_law_700 rfl ?_
  refine e_iconst (nI 1) dL_law_702 (by decide) ?_
  refine e_iadd dL_law_703 ?_
  refine e_int (nI (ii + 1)) (nI_add ii 1) ?_
  refine e_sld (ii + 1) dL_law_704 rfl (by omega) hg ?_
  refine e_int (nI f) ha1 ?_
  refine e_aload_n dL_law_705 rfl rfl ?_
  refine e_iload dL_law_706 rfl ?_
  refine e_iconst (nI 2) dL_law_708 (by decide) ?_
  refine e_iadd dL_law_709 ?_
  refine e_int (nI (ii + 2)) (nI_add ii 2) ?_
  refine e_sld (ii + 2) dL_law_710 rfl (by omega) hg ?_
  refine e_int (b) ha2 ?_
  refine e_callV (k := 89) [.int (nI f), .int b] dL_law_711 cc_X10_night lk_RL_128 im_X10_night se_X10_night (by decide) (hJ.1.s 89 rfl) (hJ.1.n (by decide)) rfl (Nat.le_of_ble_eq_true rfl) (Nat.le_of_ble_eq_true rfl) ?_
  refine t_X10_nightE2 hJ.1 hJ.2.1 hJ.2.2.2.1 hf hv1 hv2 (fun σ2 s2 r2 z2 => fK_i ?_)
  show fEv g _ mL_law 714 [some (.ref fscr), some (.ref 0), some (.ref 89), some (.ref 300), some (.int (nI ii)), some (.int (nI 1)), o6, none] [.int (nI 0)] σ2 Q
  have M2 := hJ.1.sm s2
  refine e_istore (L1 := [some (.ref fscr), some (.ref 0), some (.ref 89), some (.ref 300), some (.int (nI ii)), some (.int (nI 1)), some (.int (nI 0)), none]) dL_law_714 (by decide) rfl ?_
  refine e_aload_n dL_law_716 rfl rfl ?_
  refine e_callV (k := 89) [] dL_law_717 cc_X10_thrown lk_RL_99 im_X10_thrown se_X10_thrown (by decide) (M2.s 89 rfl) (M2.n (by decide)) rfl (Nat.le_of_ble_eq_true rfl) (Nat.le_of_ble_eq_true rfl) ?_
  refine t_X10_thrown M2 z2 (fK_i ?_)
  show fEv g _ mL_law 720 [some (.ref fscr), some (.ref 0), some (.ref 89), some (.ref 300), some (.int (nI ii)), some (.int (nI 1)), some (.int (nI 0)), none] [.int (nI 1)] σ2 Q
  refine e_iload dL_law_720 rfl ?_
  refine e_icmp_eq 727 dL_law_722 (by decide) (fun _ => ?_) (fun c => absurd c (by decide))
  refine e_iload dL_law_727 rfl ?_
  refine e_if_ne 744 dL_law_729 (by decide) (fun _ => ?_) (fun c => absurd c (by decide))
  refine e_goto 1782 dL_law_744 (by decide) ?_
  exact h σ2 x _ _ (hJ.sm s2 hI.2.1 (hJ.2.2.1.rf hI.2.1 s2) r2)
set_option maxRecDepth 20000 in
theorem c_nightE3 {g : fGP} {d : Nat} {σ : fAH} {Q : fRes → fAH → Prop} {x : fXS} {f : Nat} {b : Int32} {nn ii : Nat} {o5 o6 : Option Value} (hg : gLL g < 2147483648) (hi6 : ii + 6 ≤ gLL g) (hI : fLI g σ x (nn + 1)) (hf : f < 4096) (hv1 : nI f &&& (nI (mfa (mal (xD x) (iS (xI x))) 12 (dT (xD x) 1) 0 0) ^^^ (-1)) = 0) (hv2 : mon f 12 0 ≤ dT (xD x) 3) (hv : ¬ (-1 ≤ b ∧ b ≤ nI 9)) (ha1 : gxs g (ii + 1) = nI f) (ha2 : gxs g (ii + 2) = b) (h : ∀ σ' x' o5 o6, fLI g σ' x' nn → fEv g (d + 45) mL_law 1782 [some (.ref fscr), some (.ref 0), some (.ref 89), some (.ref 300), some (.int (nI ii)), o5, o6, none] [] σ' Q) : fEv g (d + 45) mL_law 679 [some (.ref fscr), some (.ref 0), some (.ref 89), some (.ref 300), some (.int (nI ii)), o5, o6, none] [] σ Q := by
  refine e_aload_n dL_law_679 rfl rfl ?_
  refine e_aload_n dL_law_680 rfl rfl ?_
  refine e_iload dL_law_681 rfl ?_
  refine e_iconst (nI 1) dL_law_683 (by decide) ?_
  refine e_iadd dL_law_684 ?_
  refine e_int (nI (ii + 1)) (nI_add ii 1) ?_
  refine e_sld (ii + 1) dL_law_685 rfl (by omega) hg ?_
  refine e_int (nI f) ha1 ?_
  refine e_aload_n dL_law_686 rfl rfl ?_
  refine e_iload dL_law_687 rfl ?_
  refine e_iconst (nI 2) dL_law_689 (by decide) ?_
  refine e_iadd dL_law_690 ?_
  refine e_int (nI (ii + 2)) (nI_add ii 2) ?_
  refine e_sld (ii + 2) dL_law_691 rfl (by omega) hg ?_
  refine e_int (b) ha2 ?_
  refine e_aload_n dL_law_692 rfl rfl ?_
  refine e_callS [.ref 0, .int (nI f), .int b, .ref 300] dL_law_693 cc_L_night lk_RL_126 st_L_night in_RL rfl (Nat.le_of_ble_eq_true rfl) (Nat.le_of_ble_eq_true rfl) ?_
  refine t_L_nightE3 hI.1 hI.2.1 hI.2.2.1 hf hv1 hv2 hv hI.rm (fK_i ?_)
  show fEv g _ mL_law 696 [some (.ref fscr), some (.ref 0), some (.ref 89), some (.ref 300), some (.int (nI ii)), o5, o6, none] [.int (nI 1)] (fthr σ) Q
  have hJ := hI.thr
  refine e_istore (L1 := [some (.ref fscr), some (.ref 0), some (.ref 89), some (.ref 300), some (.int (nI ii)), some (.int (nI 1)), o6, none]) dL_law_696 (by decide) rfl ?_
  refine e_aload_n dL_law_698 rfl rfl ?_
  refine e_aload_n dL_law_699 rfl rfl ?_
  refine e_iload dL_law_700 rfl ?_
  refine e_iconst (nI 1) dL_law_702 (by decide) ?_
  refine e_iadd dL_law_703 ?_
  refine e_int (nI (ii + 1)) (nI_add ii 1) ?_
  refine e_sld (ii + 1) dL_law_704 rfl (by omega) hg ?_
  refine e_int (nI f) ha1 ?_
  refine e_aload_n dL_law_705 rfl rfl ?_
  refine e_iload dL_law_706 rfl ?_
  refine e_iconst (nI 2) dL_law_708 (by decide) ?_
  refine e_iadd dL_law_709 ?_
  refine e_int (nI (ii + 2)) (nI_add ii 2) ?_
  refine e_sld (ii + 2) dL_law_710 rfl (by omega) hg ?_
  refine e_int (b) ha2 ?_
  refine e_callV (k := 89) [.int (nI f), .int b] dL_law_711 cc_X10_night lk_RL_128 im_X10_night se_X10_night (by decide) (hJ.1.s 89 rfl) (hJ.1.n (by decide)) rfl (Nat.le_of_ble_eq_true rfl) (Nat.le_of_ble_eq_true rfl) ?_
  refine t_X10_nightE3 hJ.1 hJ.2.1 hJ.2.2.2.1 hf hv1 hv2 hv (fun σ2 s2 r2 z2 => fK_i ?_)
  show fEv g _ mL_law 714 [some (.ref fscr), some (.ref 0), some (.ref 89), some (.ref 300), some (.int (nI ii)), some (.int (nI 1)), o6, none] [.int (nI 0)] σ2 Q
  have M2 := hJ.1.sm s2
  refine e_istore (L1 := [some (.ref fscr), some (.ref 0), some (.ref 89), some (.ref 300), some (.int (nI ii)), some (.int (nI 1)), some (.int (nI 0)), none]) dL_law_714 (by decide) rfl ?_
  refine e_aload_n dL_law_716 rfl rfl ?_
  refine e_callV (k := 89) [] dL_law_717 cc_X10_thrown lk_RL_99 im_X10_thrown se_X10_thrown (by decide) (M2.s 89 rfl) (M2.n (by decide)) rfl (Nat.le_of_ble_eq_true rfl) (Nat.le_of_ble_eq_true rfl) ?_
  refine t_X10_thrown M2 z2 (fK_i ?_)
  show fEv g _ mL_law 720 [some (.ref fscr), some (.ref 0), some (.ref 89), some (.ref 300), some (.int (nI ii)), some (.int (nI 1)), some (.int (nI 0)), none] [.int (nI 1)] σ2 Q
  refine e_iload dL_law_720 rfl ?_
  refine e_icmp_eq 727 dL_law_722 (by decide) (fun _ => ?_) (fun c => absurd c (by decide))
  refine e_iload dL_law_727 rfl ?_
  refine e_if_ne 744 dL_law_729 (by decide) (fun _ => ?_) (fun c => absurd c (by decide))
  refine e_goto 1782 dL_law_744 (by decide) ?_
  exact h σ2 x _ _ (hJ.sm s2 hI.2.1 (hJ.2.2.1.rf hI.2.1 s2) r2)
set_option maxRecDepth 20000 in
theorem c_nightE4 {g : fGP} {d : Nat} {σ : fAH} {Q : fRes → fAH → Prop} {x : fXS} {f : Nat} {b : Int32} {nn ii : Nat} {o5 o6 : Option Value} (hg : gLL g < 2147483648) (hi6 : ii + 6 ≤ gLL g) (hI : fLI g σ x (nn + 1)) (hf : f < 4096) (hv1 : nI f &&& (nI (mfa (mal (xD x) (iS (xI x))) 12 (dT (xD x) 1) 0 0) ^^^ (-1)) = 0) (hv2 : mon f 12 0 ≤ dT (xD x) 3) (hv : -1 ≤ b ∧ b ≤ nI 9) (hn : ¬ (iS (xI x)) 155 < 30) (ha1 : gxs g (ii + 1) = nI f) (ha2 : gxs g (ii + 2) = b) (h : ∀ σ' x' o5 o6, fLI g σ' x' nn → fEv g (d + 45) mL_law 1782 [some (.ref fscr), some (.ref 0), some (.ref 89), some (.ref 300), some (.int (nI ii)), o5, o6, none] [] σ' Q) : fEv g (d + 45) mL_law 679 [some (.ref fscr), some (.ref 0), some (.ref 89), some (.ref 300), some (.int (nI ii)), o5, o6, none] [] σ Q := by
  refine e_aload_n dL_law_679 rfl rfl ?_
  refine e_aload_n dL_law_680 rfl rfl ?_
  refine e_iload dL_law_681 rfl ?_
  refine e_iconst (nI 1) dL_law_683 (by decide) ?_
  refine e_iadd dL_law_684 ?_
  refine e_int (nI (ii + 1)) (nI_add ii 1) ?_
  refine e_sld (ii + 1) dL_law_685 rfl (by omega) hg ?_
  refine e_int (nI f) ha1 ?_
  refine e_aload_n dL_law_686 rfl rfl ?_
  refine e_iload dL_law_687 rfl ?_
  refine e_iconst (nI 2) dL_law_689 (by decide) ?_
  refine e_iadd dL_law_690 ?_
  refine e_int (nI (ii + 2)) (nI_add ii 2) ?_
  refine e_sld (ii + 2) dL_law_691 rfl (by omega) hg ?_
  refine e_int (b) ha2 ?_
  refine e_aload_n dL_law_692 rfl rfl ?_
  refine e_callS [.ref 0, .int (nI f), .int b, .ref 300] dL_law_693 cc_L_night lk_RL_126 st_L_night in_RL rfl (Nat.le_of_ble_eq_true rfl) (Nat.le_of_ble_eq_true rfl) ?_
  refine t_L_nightE4 hI.1 hI.2.1 hI.2.2.1 hf hv1 hv2 hv hn hI.rm (fK_i ?_)
  show fEv g _ mL_law 696 [some (.ref fscr), some (.ref 0), some (.ref 89), some (.ref 300), some (.int (nI ii)), o5, o6, none] [.int (nI 2)] (fthr σ) Q
  have hJ := hI.thr
  refine e_istore (L1 := [some (.ref fscr), some (.ref 0), some (.ref 89), some (.ref 300), some (.int (nI ii)), some (.int (nI 2)), o6, none]) dL_law_696 (by decide) rfl ?_
  refine e_aload_n dL_law_698 rfl rfl ?_
  refine e_aload_n dL_law_699 rfl rfl ?_
  refine e_iload dL_law_700 rfl ?_
  refine e_iconst (nI 1) dL_law_702 (by decide) ?_
  refine e_iadd dL_law_703 ?_
  refine e_int (nI (ii + 1)) (nI_add ii 1) ?_
  refine e_sld (ii + 1) dL_law_704 rfl (by omega) hg ?_
  refine e_int (nI f) ha1 ?_
  refine e_aload_n dL_law_705 rfl rfl ?_
  refine e_iload dL_law_706 rfl ?_
  refine e_iconst (nI 2) dL_law_708 (by decide) ?_
  refine e_iadd dL_law_709 ?_
  refine e_int (nI (ii + 2)) (nI_add ii 2) ?_
  refine e_sld (ii + 2) dL_law_710 rfl (by omega) hg ?_
  refine e_int (b) ha2 ?_
  refine e_callV (k := 89) [.int (nI f), .int b] dL_law_711 cc_X10_night lk_RL_128 im_X10_night se_X10_night (by decide) (hJ.1.s 89 rfl) (hJ.1.n (by decide)) rfl (Nat.le_of_ble_eq_true rfl) (Nat.le_of_ble_eq_true rfl) ?_
  refine t_X10_nightE4 hJ.1 hJ.2.1 hJ.2.2.2.1 hf hv1 hv2 hv hn (fun σ2 s2 r2 z2 => fK_i ?_)
  show fEv g _ mL_law 714 [some (.ref fscr), some (.ref 0), some (.ref 89), some (.ref 300), some (.int (nI ii)), some (.int (nI 2)), o6, none] [.int (nI 0)] σ2 Q
  have M2 := hJ.1.sm s2
  refine e_istore (L1 := [some (.ref fscr), some (.ref 0), some (.ref 89), some (.ref 300), some (.int (nI ii)), some (.int (nI 2)), some (.int (nI 0)), none]) dL_law_714 (by decide) rfl ?_
  refine e_aload_n dL_law_716 rfl rfl ?_
  refine e_callV (k := 89) [] dL_law_717 cc_X10_thrown lk_RL_99 im_X10_thrown se_X10_thrown (by decide) (M2.s 89 rfl) (M2.n (by decide)) rfl (Nat.le_of_ble_eq_true rfl) (Nat.le_of_ble_eq_true rfl) ?_
  refine t_X10_thrown M2 z2 (fK_i ?_)
  show fEv g _ mL_law 720 [some (.ref fscr), some (.ref 0), some (.ref 89), some (.ref 300), some (.int (nI ii)), some (.int (nI 2)), some (.int (nI 0)), none] [.int (nI 2)] σ2 Q
  refine e_iload dL_law_720 rfl ?_
  refine e_icmp_eq 727 dL_law_722 (by decide) (fun _ => ?_) (fun c => absurd c (by decide))
  refine e_iload dL_law_727 rfl ?_
  refine e_if_ne 744 dL_law_729 (by decide) (fun _ => ?_) (fun c => absurd c (by decide))
  refine e_goto 1782 dL_law_744 (by decide) ?_
  exact h σ2 x _ _ (hJ.sm s2 hI.2.1 (hJ.2.2.1.rf hI.2.1 s2) r2)
set_option maxRecDepth 20000 in
theorem c_sums {g : fGP} {d : Nat} {σ : fAH} {Q : fRes → fAH → Prop} {x : fXS} {w : Nat} {nn ii : Nat} {o5 o6 : Option Value} (hg : gLL g < 2147483648) (hi6 : ii + 6 ≤ gLL g) (hI : fLI g σ x (nn + 1)) (hw : w < 8) (ha1 : gxs g (ii + 1) = nI w) (h : ∀ σ' x' o5 o6, fLI g σ' x' nn → fEv g (d + 45) mL_law 1782 [some (.ref fscr), some (.ref 0), some (.ref 89), some (.ref 300), some (.int (nI ii)), o5, o6, none] [] σ' Q) : fEv g (d + 45) mL_law 747 [some (.ref fscr), some (.ref 0), some (.ref 89), some (.ref 300), some (.int (nI ii)), o5, o6, none] [] σ Q := by
  refine e_aload_n dL_law_747 rfl rfl ?_
  refine e_aload_n dL_law_748 rfl rfl ?_
  refine e_iload dL_law_749 rfl ?_
  refine e_iconst (nI 1) dL_law_751 (by decide) ?_
  refine e_iadd dL_law_752 ?_
  refine e_int (nI (ii + 1)) (nI_add ii 1) ?_
  refine e_sld (ii + 1) dL_law_753 rfl (by omega) hg ?_
  refine e_int (nI w) ha1 ?_
  refine e_aload_n dL_law_754 rfl rfl ?_
  refine e_callS [.ref 0, .int (nI w), .ref 300] dL_law_755 cc_L_sums lk_RL_129 st_L_sums in_RL rfl (Nat.le_of_ble_eq_true rfl) (Nat.le_of_ble_eq_true rfl) ?_
  refine t_L_sums hI.1 hI.2.1 hI.2.2.1 hw (fun σ1 s1 c1 v1 => fK_i ?_)
  show fEv g _ mL_law 758 [some (.ref fscr), some (.ref 0), some (.ref 89), some (.ref 300), some (.int (nI ii)), o5, o6, none] [.int (nI 0)] σ1 Q
  have r1 := hI.2.2.2.1.clB hI.2.1 s1
  have M1 := hI.1.sm s1
  refine e_istore (L1 := [some (.ref fscr), some (.ref 0), some (.ref 89), some (.ref 300), some (.int (nI ii)), some (.int (nI 0)), o6, none]) dL_law_758 (by decide) rfl ?_
  refine e_aload_n dL_law_760 rfl rfl ?_
  refine e_aload_n dL_law_761 rfl rfl ?_
  refine e_iload dL_law_762 rfl ?_
  refine e_iconst (nI 1) dL_law_764 (by decide) ?_
  refine e_iadd dL_law_765 ?_
  refine e_int (nI (ii + 1)) (nI_add ii 1) ?_
  refine e_sld (ii + 1) dL_law_766 rfl (by omega) hg ?_
  refine e_int (nI w) ha1 ?_
  refine e_callV (k := 89) [.int (nI w)] dL_law_767 cc_X10_sums lk_RL_131 im_X10_sums se_X10_sums (by decide) (M1.s 89 rfl) (M1.n (by decide)) rfl (Nat.le_of_ble_eq_true rfl) (Nat.le_of_ble_eq_true rfl) ?_
  refine t_X10_sums M1 hI.2.1 r1 hw (fun σ2 s2 r2 z2 => fK_i ?_)
  show fEv g _ mL_law 770 [some (.ref fscr), some (.ref 0), some (.ref 89), some (.ref 300), some (.int (nI ii)), some (.int (nI 0)), o6, none] [.int (vSum (xD x) (iS (xI x)) w)] σ2 Q
  have M2 := M1.sm s2
  refine e_istore (L1 := [some (.ref fscr), some (.ref 0), some (.ref 89), some (.ref 300), some (.int (nI ii)), some (.int (nI 0)), some (.int (vSum (xD x) (iS (xI x)) w)), none]) dL_law_770 (by decide) rfl ?_
  refine e_aload_n dL_law_772 rfl rfl ?_
  refine e_callV (k := 89) [] dL_law_773 cc_X10_thrown lk_RL_99 im_X10_thrown se_X10_thrown (by decide) (M2.s 89 rfl) (M2.n (by decide)) rfl (Nat.le_of_ble_eq_true rfl) (Nat.le_of_ble_eq_true rfl) ?_
  refine t_X10_thrown M2 z2 (fK_i ?_)
  show fEv g _ mL_law 776 [some (.ref fscr), some (.ref 0), some (.ref 89), some (.ref 300), some (.int (nI ii)), some (.int (nI 0)), some (.int (vSum (xD x) (iS (xI x)) w)), none] [.int (nI 0)] σ2 Q
  refine e_iload dL_law_776 rfl ?_
  refine e_icmp_eq 783 dL_law_778 (by decide) (fun _ => ?_) (fun c => absurd c (by decide))
  refine e_iload dL_law_783 rfl ?_
  refine e_if_ne 800 dL_law_785 (by decide) (fun c => absurd c (by decide)) (fun _ => ?_)
  refine e_aload_n dL_law_788 rfl rfl ?_
  refine e_iconst (nI 0) dL_law_789 (by decide) ?_
  refine e_laload 0 dL_law_790 (M2.s 300 rfl) (M2.n (by decide)) rfl (by omega) (by decide) ?_
  refine e_long (((vSum (xD x) (iS (xI x)) w : Int32)).toInt64) ((s2.j (fun q => by unfold fRfA at q; omega) 0).trans v1) ?_
  refine e_iload dL_law_791 rfl ?_
  refine e_i2l dL_law_793 ?_
  refine e_lcmp dL_law_794 ?_
  refine e_if_eq 800 dL_law_795 (by decide) (fun _ => ?_) (fun c => absurd (lc_eq.mpr rfl) c)
  refine e_goto 1782 dL_law_800 (by decide) ?_
  exact h σ2 _ _ _ ((hI.both hI.2.1 s1 c1 s2 r2).le (Nat.le_succ nn))
set_option maxRecDepth 20000 in
theorem c_sumsE {g : fGP} {d : Nat} {σ : fAH} {Q : fRes → fAH → Prop} {x : fXS} {a : Int32} {nn ii : Nat} {o5 o6 : Option Value} (hg : gLL g < 2147483648) (hi6 : ii + 6 ≤ gLL g) (hI : fLI g σ x (nn + 1)) (hv : ¬ (nI 0 ≤ a ∧ a ≤ nI 7)) (ha1 : gxs g (ii + 1) = a) (h : ∀ σ' x' o5 o6, fLI g σ' x' nn → fEv g (d + 45) mL_law 1782 [some (.ref fscr), some (.ref 0), some (.ref 89), some (.ref 300), some (.int (nI ii)), o5, o6, none] [] σ' Q) : fEv g (d + 45) mL_law 747 [some (.ref fscr), some (.ref 0), some (.ref 89), some (.ref 300), some (.int (nI ii)), o5, o6, none] [] σ Q := by
  refine e_aload_n dL_law_747 rfl rfl ?_
  refine e_aload_n dL_law_748 rfl rfl ?_
  refine e_iload dL_law_749 rfl ?_
  refine e_iconst (nI 1) dL_law_751 (by decide) ?_
  refine e_iadd dL_law_752 ?_
  refine e_int (nI (ii + 1)) (nI_add ii 1) ?_
  refine e_sld (ii + 1) dL_law_753 rfl (by omega) hg ?_
  refine e_int (a) ha1 ?_
  refine e_aload_n dL_law_754 rfl rfl ?_
  refine e_callS [.ref 0, .int a, .ref 300] dL_law_755 cc_L_sums lk_RL_129 st_L_sums in_RL rfl (Nat.le_of_ble_eq_true rfl) (Nat.le_of_ble_eq_true rfl) ?_
  refine t_L_sumsE hI.1 hI.2.1 hI.2.2.1 hv hI.rm (fK_i ?_)
  show fEv g _ mL_law 758 [some (.ref fscr), some (.ref 0), some (.ref 89), some (.ref 300), some (.int (nI ii)), o5, o6, none] [.int (nI 1)] (fthr σ) Q
  have hJ := hI.thr
  refine e_istore (L1 := [some (.ref fscr), some (.ref 0), some (.ref 89), some (.ref 300), some (.int (nI ii)), some (.int (nI 1)), o6, none]) dL_law_758 (by decide) rfl ?_
  refine e_aload_n dL_law_760 rfl rfl ?_
  refine e_aload_n dL_law_761 rfl rfl ?_
  refine e_iload dL_law_762 rfl ?_
  refine e_iconst (nI 1) dL_law_764 (by decide) ?_
  refine e_iadd dL_law_765 ?_
  refine e_int (nI (ii + 1)) (nI_add ii 1) ?_
  refine e_sld (ii + 1) dL_law_766 rfl (by omega) hg ?_
  refine e_int (a) ha1 ?_
  refine e_callV (k := 89) [.int a] dL_law_767 cc_X10_sums lk_RL_131 im_X10_sums se_X10_sums (by decide) (hJ.1.s 89 rfl) (hJ.1.n (by decide)) rfl (Nat.le_of_ble_eq_true rfl) (Nat.le_of_ble_eq_true rfl) ?_
  refine t_X10_sumsE hJ.1 hJ.2.1 hJ.2.2.2.1 hv (fun σ2 s2 r2 z2 => fK_i ?_)
  show fEv g _ mL_law 770 [some (.ref fscr), some (.ref 0), some (.ref 89), some (.ref 300), some (.int (nI ii)), some (.int (nI 1)), o6, none] [.int (nI 0)] σ2 Q
  have M2 := hJ.1.sm s2
  refine e_istore (L1 := [some (.ref fscr), some (.ref 0), some (.ref 89), some (.ref 300), some (.int (nI ii)), some (.int (nI 1)), some (.int (nI 0)), none]) dL_law_770 (by decide) rfl ?_
  refine e_aload_n dL_law_772 rfl rfl ?_
  refine e_callV (k := 89) [] dL_law_773 cc_X10_thrown lk_RL_99 im_X10_thrown se_X10_thrown (by decide) (M2.s 89 rfl) (M2.n (by decide)) rfl (Nat.le_of_ble_eq_true rfl) (Nat.le_of_ble_eq_true rfl) ?_
  refine t_X10_thrown M2 z2 (fK_i ?_)
  show fEv g _ mL_law 776 [some (.ref fscr), some (.ref 0), some (.ref 89), some (.ref 300), some (.int (nI ii)), some (.int (nI 1)), some (.int (nI 0)), none] [.int (nI 1)] σ2 Q
  refine e_iload dL_law_776 rfl ?_
  refine e_icmp_eq 783 dL_law_778 (by decide) (fun _ => ?_) (fun c => absurd c (by decide))
  refine e_iload dL_law_783 rfl ?_
  refine e_if_ne 800 dL_law_785 (by decide) (fun _ => ?_) (fun c => absurd c (by decide))
  refine e_goto 1782 dL_law_800 (by decide) ?_
  exact h σ2 x _ _ (hJ.sm s2 hI.2.1 (hJ.2.2.1.rf hI.2.1 s2) r2)
set_option maxRecDepth 20000 in
theorem c_trace {g : fGP} {d : Nat} {σ : fAH} {Q : fRes → fAH → Prop} {x : fXS} {k w : Nat} {nn ii : Nat} {o5 o6 : Option Value} (hg : gLL g < 2147483648) (hi6 : ii + 6 ≤ gLL g) (hI : fLI g σ x (nn + 1)) (hk : k < (iS (xI x)) 152) (hw : w < 4) (ha1 : gxs g (ii + 1) = nI k) (ha2 : gxs g (ii + 2) = nI w) (h : ∀ σ' x' o5 o6, fLI g σ' x' nn → fEv g (d + 45) mL_law 1782 [some (.ref fscr), some (.ref 0), some (.ref 89), some (.ref 300), some (.int (nI ii)), o5, o6, none] [] σ' Q) : fEv g (d + 45) mL_law 803 [some (.ref fscr), some (.ref 0), some (.ref 89), some (.ref 300), some (.int (nI ii)), o5, o6, none] [] σ Q := by
  refine e_aload_n dL_law_803 rfl rfl ?_
  refine e_aload_n dL_law_804 rfl rfl ?_
  refine e_iload dL_law_805 rfl ?_
  refine e_iconst (nI 1) dL_law_807 (by decide) ?_
  refine e_iadd dL_law_808 ?_
  refine e_int (nI (ii + 1)) (nI_add ii 1) ?_
  refine e_sld (ii + 1) dL_law_809 rfl (by omega) hg ?_
  refine e_int (nI k) ha1 ?_
  refine e_aload_n dL_law_810 rfl rfl ?_
  refine e_iload dL_law_811 rfl ?_
  refine e_iconst (nI 2) dL_law_813 (by decide) ?_
  refine e_iadd dL_law_814 ?_
  refine e_int (nI (ii + 2)) (nI_add ii 2) ?_
  refine e_sld (ii + 2) dL_law_815 rfl (by omega) hg ?_
  refine e_int (nI w) ha2 ?_
  refine e_aload_n dL_law_816 rfl rfl ?_
  refine e_callS [.ref 0, .int (nI k), .int (nI w), .ref 300] dL_law_817 cc_L_trace lk_RL_132 st_L_trace in_RL rfl (Nat.le_of_ble_eq_true rfl) (Nat.le_of_ble_eq_true rfl) ?_
  refine t_L_trace hI.1 hI.2.1 hI.2.2.1 hk hw (fun σ1 s1 c1 v1 => fK_i ?_)
  show fEv g _ mL_law 820 [some (.ref fscr), some (.ref 0), some (.ref 89), some (.ref 300), some (.int (nI ii)), o5, o6, none] [.int (nI 0)] σ1 Q
  have r1 := hI.2.2.2.1.clB hI.2.1 s1
  have M1 := hI.1.sm s1
  refine e_istore (L1 := [some (.ref fscr), some (.ref 0), some (.ref 89), some (.ref 300), some (.int (nI ii)), some (.int (nI 0)), o6, none]) dL_law_820 (by decide) rfl ?_
  refine e_aload_n dL_law_822 rfl rfl ?_
  refine e_aload_n dL_law_823 rfl rfl ?_
  refine e_iload dL_law_824 rfl ?_
  refine e_iconst (nI 1) dL_law_826 (by decide) ?_
  refine e_iadd dL_law_827 ?_
  refine e_int (nI (ii + 1)) (nI_add ii 1) ?_
  refine e_sld (ii + 1) dL_law_828 rfl (by omega) hg ?_
  refine e_int (nI k) ha1 ?_
  refine e_aload_n dL_law_829 rfl rfl ?_
  refine e_iload dL_law_830 rfl ?_
  refine e_iconst (nI 2) dL_law_832 (by decide) ?_
  refine e_iadd dL_law_833 ?_
  refine e_int (nI (ii + 2)) (nI_add ii 2) ?_
  refine e_sld (ii + 2) dL_law_834 rfl (by omega) hg ?_
  refine e_int (nI w) ha2 ?_
  refine e_callV (k := 89) [.int (nI k), .int (nI w)] dL_law_835 cc_X10_trace lk_RL_134 im_X10_trace se_X10_trace (by decide) (M1.s 89 rfl) (M1.n (by decide)) rfl (Nat.le_of_ble_eq_true rfl) (Nat.le_of_ble_eq_true rfl) ?_
  refine t_X10_trace M1 hI.2.1 r1 hk hw (fun σ2 s2 r2 z2 => fK_i ?_)
  show fEv g _ mL_law 838 [some (.ref fscr), some (.ref 0), some (.ref 89), some (.ref 300), some (.int (nI ii)), some (.int (nI 0)), o6, none] [.int ((iT (xI x)) (k * 4 + w))] σ2 Q
  have M2 := M1.sm s2
  refine e_istore (L1 := [some (.ref fscr), some (.ref 0), some (.ref 89), some (.ref 300), some (.int (nI ii)), some (.int (nI 0)), some (.int ((iT (xI x)) (k * 4 + w))), none]) dL_law_838 (by decide) rfl ?_
  refine e_aload_n dL_law_840 rfl rfl ?_
  refine e_callV (k := 89) [] dL_law_841 cc_X10_thrown lk_RL_99 im_X10_thrown se_X10_thrown (by decide) (M2.s 89 rfl) (M2.n (by decide)) rfl (Nat.le_of_ble_eq_true rfl) (Nat.le_of_ble_eq_true rfl) ?_
  refine t_X10_thrown M2 z2 (fK_i ?_)
  show fEv g _ mL_law 844 [some (.ref fscr), some (.ref 0), some (.ref 89), some (.ref 300), some (.int (nI ii)), some (.int (nI 0)), some (.int ((iT (xI x)) (k * 4 + w))), none] [.int (nI 0)] σ2 Q
  refine e_iload dL_law_844 rfl ?_
  refine e_icmp_eq 851 dL_law_846 (by decide) (fun _ => ?_) (fun c => absurd c (by decide))
  refine e_iload dL_law_851 rfl ?_
  refine e_if_ne 868 dL_law_853 (by decide) (fun c => absurd c (by decide)) (fun _ => ?_)
  refine e_aload_n dL_law_856 rfl rfl ?_
  refine e_iconst (nI 0) dL_law_857 (by decide) ?_
  refine e_laload 0 dL_law_858 (M2.s 300 rfl) (M2.n (by decide)) rfl (by omega) (by decide) ?_
  refine e_long ((((iT (xI x)) (k * 4 + w) : Int32)).toInt64) ((s2.j (fun q => by unfold fRfA at q; omega) 0).trans v1) ?_
  refine e_iload dL_law_859 rfl ?_
  refine e_i2l dL_law_861 ?_
  refine e_lcmp dL_law_862 ?_
  refine e_if_eq 868 dL_law_863 (by decide) (fun _ => ?_) (fun c => absurd (lc_eq.mpr rfl) c)
  refine e_goto 1782 dL_law_868 (by decide) ?_
  exact h σ2 _ _ _ ((hI.both hI.2.1 s1 c1 s2 r2).le (Nat.le_succ nn))
set_option maxRecDepth 20000 in
theorem c_traceE {g : fGP} {d : Nat} {σ : fAH} {Q : fRes → fAH → Prop} {x : fXS} {a b : Int32} {nn ii : Nat} {o5 o6 : Option Value} (hg : gLL g < 2147483648) (hi6 : ii + 6 ≤ gLL g) (hI : fLI g σ x (nn + 1)) (hv : ¬ (nI 0 ≤ b ∧ b ≤ nI 3)) (ha1 : gxs g (ii + 1) = a) (ha2 : gxs g (ii + 2) = b) (h : ∀ σ' x' o5 o6, fLI g σ' x' nn → fEv g (d + 45) mL_law 1782 [some (.ref fscr), some (.ref 0), some (.ref 89), some (.ref 300), some (.int (nI ii)), o5, o6, none] [] σ' Q) : fEv g (d + 45) mL_law 803 [some (.ref fscr), some (.ref 0), some (.ref 89), some (.ref 300), some (.int (nI ii)), o5, o6, none] [] σ Q := by
  refine e_aload_n dL_law_803 rfl rfl ?_
  refine e_aload_n dL_law_804 rfl rfl ?_
  refine e_iload dL_law_805 rfl ?_
  refine e_iconst (nI 1) dL_law_807 (by decide) ?_
  refine e_iadd dL_law_808 ?_
  refine e_int (nI (ii + 1)) (nI_add ii 1) ?_
  refine e_sld (ii + 1) dL_law_809 rfl (by omega) hg ?_
  refine e_int (a) ha1 ?_
  refine e_aload_n dL_law_810 rfl rfl ?_
  refine e_iload dL_law_811 rfl ?_
  refine e_iconst (nI 2) dL_law_813 (by decide) ?_
  refine e_iadd dL_law_814 ?_
  refine e_int (nI (ii + 2)) (nI_add ii 2) ?_
  refine e_sld (ii + 2) dL_law_815 rfl (by omega) hg ?_
  refine e_int (b) ha2 ?_
  refine e_aload_n dL_law_816 rfl rfl ?_
  refine e_callS [.ref 0, .int a, .int b, .ref 300] dL_law_817 cc_L_trace lk_RL_132 st_L_trace in_RL rfl (Nat.le_of_ble_eq_true rfl) (Nat.le_of_ble_eq_true rfl) ?_
  refine t_L_traceE hI.1 hI.2.1 hI.2.2.1 hv hI.rm (fK_i ?_)
  show fEv g _ mL_law 820 [some (.ref fscr), some (.ref 0), some (.ref 89), some (.ref 300), some (.int (nI ii)), o5, o6, none] [.int (nI 1)] (fthr σ) Q
  have hJ := hI.thr
  refine e_istore (L1 := [some (.ref fscr), some (.ref 0), some (.ref 89), some (.ref 300), some (.int (nI ii)), some (.int (nI 1)), o6, none]) dL_law_820 (by decide) rfl ?_
  refine e_aload_n dL_law_822 rfl rfl ?_
  refine e_aload_n dL_law_823 rfl rfl ?_
  refine e_iload dL_law_824 rfl ?_
  refine e_iconst (nI 1) dL_law_826 (by decide) ?_
  refine e_iadd dL_law_827 ?_
  refine e_int (nI (ii + 1)) (nI_add ii 1) ?_
  refine e_sld (ii + 1) dL_law_828 rfl (by omega) hg ?_
  refine e_int (a) ha1 ?_
  refine e_aload_n dL_law_829 rfl rfl ?_
  refine e_iload dL_law_830 rfl ?_
  refine e_iconst (nI 2) dL_law_832 (by decide) ?_
  refine e_iadd dL_law_833 ?_
  refine e_int (nI (ii + 2)) (nI_add ii 2) ?_
  refine e_sld (ii + 2) dL_law_834 rfl (by omega) hg ?_
  refine e_int (b) ha2 ?_
  refine e_callV (k := 89) [.int a, .int b] dL_law_835 cc_X10_trace lk_RL_134 im_X10_trace se_X10_trace (by decide) (hJ.1.s 89 rfl) (hJ.1.n (by decide)) rfl (Nat.le_of_ble_eq_true rfl) (Nat.le_of_ble_eq_true rfl) ?_
  refine t_X10_traceE hJ.1 hJ.2.1 hJ.2.2.2.1 hv (fun σ2 s2 r2 z2 => fK_i ?_)
  show fEv g _ mL_law 838 [some (.ref fscr), some (.ref 0), some (.ref 89), some (.ref 300), some (.int (nI ii)), some (.int (nI 1)), o6, none] [.int (nI 0)] σ2 Q
  have M2 := hJ.1.sm s2
  refine e_istore (L1 := [some (.ref fscr), some (.ref 0), some (.ref 89), some (.ref 300), some (.int (nI ii)), some (.int (nI 1)), some (.int (nI 0)), none]) dL_law_838 (by decide) rfl ?_
  refine e_aload_n dL_law_840 rfl rfl ?_
  refine e_callV (k := 89) [] dL_law_841 cc_X10_thrown lk_RL_99 im_X10_thrown se_X10_thrown (by decide) (M2.s 89 rfl) (M2.n (by decide)) rfl (Nat.le_of_ble_eq_true rfl) (Nat.le_of_ble_eq_true rfl) ?_
  refine t_X10_thrown M2 z2 (fK_i ?_)
  show fEv g _ mL_law 844 [some (.ref fscr), some (.ref 0), some (.ref 89), some (.ref 300), some (.int (nI ii)), some (.int (nI 1)), some (.int (nI 0)), none] [.int (nI 1)] σ2 Q
  refine e_iload dL_law_844 rfl ?_
  refine e_icmp_eq 851 dL_law_846 (by decide) (fun _ => ?_) (fun c => absurd c (by decide))
  refine e_iload dL_law_851 rfl ?_
  refine e_if_ne 868 dL_law_853 (by decide) (fun _ => ?_) (fun c => absurd c (by decide))
  refine e_goto 1782 dL_law_868 (by decide) ?_
  exact h σ2 x _ _ (hJ.sm s2 hI.2.1 (hJ.2.2.1.rf hI.2.1 s2) r2)
set_option maxRecDepth 20000 in
theorem c_traceN {g : fGP} {d : Nat} {σ : fAH} {Q : fRes → fAH → Prop} {x : fXS} {a : Int32} {w : Nat} {nn ii : Nat} {o5 o6 : Option Value} (hg : gLL g < 2147483648) (hi6 : ii + 6 ≤ gLL g) (hI : fLI g σ x (nn + 1)) (hv : ¬ (nI 0 ≤ a ∧ a < nI ((iS (xI x)) 152))) (hw : w < 4) (ha1 : gxs g (ii + 1) = a) (ha2 : gxs g (ii + 2) = nI w) (h : ∀ σ' x' o5 o6, fLI g σ' x' nn → fEv g (d + 45) mL_law 1782 [some (.ref fscr), some (.ref 0), some (.ref 89), some (.ref 300), some (.int (nI ii)), o5, o6, none] [] σ' Q) : fEv g (d + 45) mL_law 803 [some (.ref fscr), some (.ref 0), some (.ref 89), some (.ref 300), some (.int (nI ii)), o5, o6, none] [] σ Q := by
  refine e_aload_n dL_law_803 rfl rfl ?_
  refine e_aload_n dL_law_804 rfl rfl ?_
  refine e_iload dL_law_805 rfl ?_
  refine e_iconst (nI 1) dL_law_807 (by decide) ?_
  refine e_iadd dL_law_808 ?_
  refine e_int (nI (ii + 1)) (nI_add ii 1) ?_
  refine e_sld (ii + 1) dL_law_809 rfl (by omega) hg ?_
  refine e_int (a) ha1 ?_
  refine e_aload_n dL_law_810 rfl rfl ?_
  refine e_iload dL_law_811 rfl ?_
  refine e_iconst (nI 2) dL_law_813 (by decide) ?_
  refine e_iadd dL_law_814 ?_
  refine e_int (nI (ii + 2)) (nI_add ii 2) ?_
  refine e_sld (ii + 2) dL_law_815 rfl (by omega) hg ?_
  refine e_int (nI w) ha2 ?_
  refine e_aload_n dL_law_816 rfl rfl ?_
  refine e_callS [.ref 0, .int a, .int (nI w), .ref 300] dL_law_817 cc_L_trace lk_RL_132 st_L_trace in_RL rfl (Nat.le_of_ble_eq_true rfl) (Nat.le_of_ble_eq_true rfl) ?_
  refine t_L_traceN hI.1 hI.2.1 hI.2.2.1 hv hw (fun σ1 s1 c1 v1 => fK_i ?_)
  show fEv g _ mL_law 820 [some (.ref fscr), some (.ref 0), some (.ref 89), some (.ref 300), some (.int (nI ii)), o5, o6, none] [.int (nI 0)] σ1 Q
  have r1 := hI.2.2.2.1.clB hI.2.1 s1
  have M1 := hI.1.sm s1
  refine e_istore (L1 := [some (.ref fscr), some (.ref 0), some (.ref 89), some (.ref 300), some (.int (nI ii)), some (.int (nI 0)), o6, none]) dL_law_820 (by decide) rfl ?_
  refine e_aload_n dL_law_822 rfl rfl ?_
  refine e_aload_n dL_law_823 rfl rfl ?_
  refine e_iload dL_law_824 rfl ?_
  refine e_iconst (nI 1) dL_law_826 (by decide) ?_
  refine e_iadd dL_law_827 ?_
  refine e_int (nI (ii + 1)) (nI_add ii 1) ?_
  refine e_sld (ii + 1) dL_law_828 rfl (by omega) hg ?_
  refine e_int (a) ha1 ?_
  refine e_aload_n dL_law_829 rfl rfl ?_
  refine e_iload dL_law_830 rfl ?_
  refine e_iconst (nI 2) dL_law_832 (by decide) ?_
  refine e_iadd dL_law_833 ?_
  refine e_int (nI (ii + 2)) (nI_add ii 2) ?_
  refine e_sld (ii + 2) dL_law_834 rfl (by omega) hg ?_
  refine e_int (nI w) ha2 ?_
  refine e_callV (k := 89) [.int a, .int (nI w)] dL_law_835 cc_X10_trace lk_RL_134 im_X10_trace se_X10_trace (by decide) (M1.s 89 rfl) (M1.n (by decide)) rfl (Nat.le_of_ble_eq_true rfl) (Nat.le_of_ble_eq_true rfl) ?_
  refine t_X10_traceN M1 hI.2.1 r1 hv hw (fun σ2 s2 r2 z2 => fK_i ?_)
  show fEv g _ mL_law 838 [some (.ref fscr), some (.ref 0), some (.ref 89), some (.ref 300), some (.int (nI ii)), some (.int (nI 0)), o6, none] [.int ((-2))] σ2 Q
  have M2 := M1.sm s2
  refine e_istore (L1 := [some (.ref fscr), some (.ref 0), some (.ref 89), some (.ref 300), some (.int (nI ii)), some (.int (nI 0)), some (.int ((-2))), none]) dL_law_838 (by decide) rfl ?_
  refine e_aload_n dL_law_840 rfl rfl ?_
  refine e_callV (k := 89) [] dL_law_841 cc_X10_thrown lk_RL_99 im_X10_thrown se_X10_thrown (by decide) (M2.s 89 rfl) (M2.n (by decide)) rfl (Nat.le_of_ble_eq_true rfl) (Nat.le_of_ble_eq_true rfl) ?_
  refine t_X10_thrown M2 z2 (fK_i ?_)
  show fEv g _ mL_law 844 [some (.ref fscr), some (.ref 0), some (.ref 89), some (.ref 300), some (.int (nI ii)), some (.int (nI 0)), some (.int ((-2))), none] [.int (nI 0)] σ2 Q
  refine e_iload dL_law_844 rfl ?_
  refine e_icmp_eq 851 dL_law_846 (by decide) (fun _ => ?_) (fun c => absurd c (by decide))
  refine e_iload dL_law_851 rfl ?_
  refine e_if_ne 868 dL_law_853 (by decide) (fun c => absurd c (by decide)) (fun _ => ?_)
  refine e_aload_n dL_law_856 rfl rfl ?_
  refine e_iconst (nI 0) dL_law_857 (by decide) ?_
  refine e_laload 0 dL_law_858 (M2.s 300 rfl) (M2.n (by decide)) rfl (by omega) (by decide) ?_
  refine e_long ((((-2) : Int32)).toInt64) ((s2.j (fun q => by unfold fRfA at q; omega) 0).trans v1) ?_
  refine e_iload dL_law_859 rfl ?_
  refine e_i2l dL_law_861 ?_
  refine e_lcmp dL_law_862 ?_
  refine e_if_eq 868 dL_law_863 (by decide) (fun _ => ?_) (fun c => absurd (lc_eq.mpr rfl) c)
  refine e_goto 1782 dL_law_868 (by decide) ?_
  exact h σ2 _ _ _ ((hI.both hI.2.1 s1 c1 s2 r2).le (Nat.le_succ nn))
set_option maxRecDepth 20000 in
theorem c_cold {g : fGP} {d : Nat} {σ : fAH} {Q : fRes → fAH → Prop} {x : fXS} {k : Nat} {nn ii : Nat} {o5 o6 : Option Value} (hg : gLL g < 2147483648) (hi6 : ii + 6 ≤ gLL g) (hI : fLI g σ x (nn + 1)) (hk : k < (iS (xI x)) 155) (ha1 : gxs g (ii + 1) = nI k) (h : ∀ σ' x' o5 o6, fLI g σ' x' nn → fEv g (d + 45) mL_law 1782 [some (.ref fscr), some (.ref 0), some (.ref 89), some (.ref 300), some (.int (nI ii)), o5, o6, none] [] σ' Q) : fEv g (d + 45) mL_law 871 [some (.ref fscr), some (.ref 0), some (.ref 89), some (.ref 300), some (.int (nI ii)), o5, o6, none] [] σ Q := by
  refine e_aload_n dL_law_871 rfl rfl ?_
  refine e_aload_n dL_law_872 rfl rfl ?_
  refine e_iload dL_law_873 rfl ?_
  refine e_iconst (nI 1) dL_law_875 (by decide) ?_
  refine e_iadd dL_law_876 ?_
  refine e_int (nI (ii + 1)) (nI_add ii 1) ?_
  refine e_sld (ii + 1) dL_law_877 rfl (by omega) hg ?_
  refine e_int (nI k) ha1 ?_
  refine e_callV (k := 0) [.int (nI k)] dL_law_878 cc_X9_cold lk_RL_135 im_X9_cold se_X9_cold (by decide) (hI.1.s 0 rfl) (hI.1.n (by decide)) rfl (Nat.le_of_ble_eq_true rfl) (Nat.le_of_ble_eq_true rfl) ?_
  refine t_X9_cold hI.1 hI.2.1 hI.2.2.1 hk (fK_i ?_)
  show fEv g _ mL_law 881 [some (.ref fscr), some (.ref 0), some (.ref 89), some (.ref 300), some (.int (nI ii)), o5, o6, none] [.int ((iT (xI x)) (100 + k))] σ Q
  have r1 := hI.2.2.2.1
  have M1 := hI.1
  have s1 : fSm fClB σ σ := ⟨rfl, rfl, fun _ _ => ⟨rfl, rfl⟩⟩
  have c1 := hI.2.2.1
  refine e_aload_n dL_law_881 rfl rfl ?_
  refine e_aload_n dL_law_882 rfl rfl ?_
  refine e_iload dL_law_883 rfl ?_
  refine e_iconst (nI 1) dL_law_885 (by decide) ?_
  refine e_iadd dL_law_886 ?_
  refine e_int (nI (ii + 1)) (nI_add ii 1) ?_
  refine e_sld (ii + 1) dL_law_887 rfl (by omega) hg ?_
  refine e_int (nI k) ha1 ?_
  refine e_callV (k := 89) [.int (nI k)] dL_law_888 cc_X10_cold lk_RL_138 im_X10_cold se_X10_cold (by decide) (hI.1.s 89 rfl) (hI.1.n (by decide)) rfl (Nat.le_of_ble_eq_true rfl) (Nat.le_of_ble_eq_true rfl) ?_
  refine t_X10_cold M1 hI.2.1 r1 hk (fun σ2 s2 r2 z2 => fK_i ?_)
  show fEv g _ mL_law 891 [some (.ref fscr), some (.ref 0), some (.ref 89), some (.ref 300), some (.int (nI ii)), o5, o6, none] [.int ((iT (xI x)) (100 + k)), .int ((iT (xI x)) (100 + k))] σ2 Q
  have M2 := M1.sm s2
  refine e_icmp_eq 1782 dL_law_891 (by decide) (fun _ => ?_) (fun c => absurd rfl c)
  exact h σ2 _ _ _ ((hI.both hI.2.1 s1 c1 s2 r2).le (Nat.le_succ nn))
set_option maxRecDepth 20000 in
theorem c_coldN {g : fGP} {d : Nat} {σ : fAH} {Q : fRes → fAH → Prop} {x : fXS} {a : Int32} {nn ii : Nat} {o5 o6 : Option Value} (hg : gLL g < 2147483648) (hi6 : ii + 6 ≤ gLL g) (hI : fLI g σ x (nn + 1)) (hv : ¬ (nI 0 ≤ a ∧ a < nI ((iS (xI x)) 155))) (ha1 : gxs g (ii + 1) = a) (h : ∀ σ' x' o5 o6, fLI g σ' x' nn → fEv g (d + 45) mL_law 1782 [some (.ref fscr), some (.ref 0), some (.ref 89), some (.ref 300), some (.int (nI ii)), o5, o6, none] [] σ' Q) : fEv g (d + 45) mL_law 871 [some (.ref fscr), some (.ref 0), some (.ref 89), some (.ref 300), some (.int (nI ii)), o5, o6, none] [] σ Q := by
  refine e_aload_n dL_law_871 rfl rfl ?_
  refine e_aload_n dL_law_872 rfl rfl ?_
  refine e_iload dL_law_873 rfl ?_
  refine e_iconst (nI 1) dL_law_875 (by decide) ?_
  refine e_iadd dL_law_876 ?_
  refine e_int (nI (ii + 1)) (nI_add ii 1) ?_
  refine e_sld (ii + 1) dL_law_877 rfl (by omega) hg ?_
  refine e_int (a) ha1 ?_
  refine e_callV (k := 0) [.int a] dL_law_878 cc_X9_cold lk_RL_135 im_X9_cold se_X9_cold (by decide) (hI.1.s 0 rfl) (hI.1.n (by decide)) rfl (Nat.le_of_ble_eq_true rfl) (Nat.le_of_ble_eq_true rfl) ?_
  refine t_X9_coldN hI.1 hI.2.1 hI.2.2.1 hv (fK_i ?_)
  show fEv g _ mL_law 881 [some (.ref fscr), some (.ref 0), some (.ref 89), some (.ref 300), some (.int (nI ii)), o5, o6, none] [.int ((-1))] σ Q
  have r1 := hI.2.2.2.1
  have M1 := hI.1
  have s1 : fSm fClB σ σ := ⟨rfl, rfl, fun _ _ => ⟨rfl, rfl⟩⟩
  have c1 := hI.2.2.1
  refine e_aload_n dL_law_881 rfl rfl ?_
  refine e_aload_n dL_law_882 rfl rfl ?_
  refine e_iload dL_law_883 rfl ?_
  refine e_iconst (nI 1) dL_law_885 (by decide) ?_
  refine e_iadd dL_law_886 ?_
  refine e_int (nI (ii + 1)) (nI_add ii 1) ?_
  refine e_sld (ii + 1) dL_law_887 rfl (by omega) hg ?_
  refine e_int (a) ha1 ?_
  refine e_callV (k := 89) [.int a] dL_law_888 cc_X10_cold lk_RL_138 im_X10_cold se_X10_cold (by decide) (hI.1.s 89 rfl) (hI.1.n (by decide)) rfl (Nat.le_of_ble_eq_true rfl) (Nat.le_of_ble_eq_true rfl) ?_
  refine t_X10_coldN M1 hI.2.1 r1 hv (fun σ2 s2 r2 z2 => fK_i ?_)
  show fEv g _ mL_law 891 [some (.ref fscr), some (.ref 0), some (.ref 89), some (.ref 300), some (.int (nI ii)), o5, o6, none] [.int ((-1)), .int ((-1))] σ2 Q
  have M2 := M1.sm s2
  refine e_icmp_eq 1782 dL_law_891 (by decide) (fun _ => ?_) (fun c => absurd rfl c)
  exact h σ2 _ _ _ ((hI.both hI.2.1 s1 c1 s2 r2).le (Nat.le_succ nn))
set_option maxRecDepth 20000 in
theorem c_undone {g : fGP} {d : Nat} {σ : fAH} {Q : fRes → fAH → Prop} {x : fXS}  {nn ii : Nat} {o5 o6 : Option Value} (hg : gLL g < 2147483648) (hi6 : ii + 6 ≤ gLL g) (hI : fLI g σ x (nn + 1))   (h : ∀ σ' x' o5 o6, fLI g σ' x' nn → fEv g (d + 45) mL_law 1782 [some (.ref fscr), some (.ref 0), some (.ref 89), some (.ref 300), some (.int (nI ii)), o5, o6, none] [] σ' Q) : fEv g (d + 45) mL_law 896 [some (.ref fscr), some (.ref 0), some (.ref 89), some (.ref 300), some (.int (nI ii)), o5, o6, none] [] σ Q := by
  refine e_aload_n dL_law_896 rfl rfl ?_
  refine e_callV (k := 0) [] dL_law_897 cc_X9_undone lk_RL_139 im_X9_undone se_X9_undone (by decide) (hI.1.s 0 rfl) (hI.1.n (by decide)) rfl (Nat.le_of_ble_eq_true rfl) (Nat.le_of_ble_eq_true rfl) ?_
  refine t_X9_undone hI.1 hI.2.1 hI.2.2.1  (fK_i ?_)
  show fEv g _ mL_law 900 [some (.ref fscr), some (.ref 0), some (.ref 89), some (.ref 300), some (.int (nI ii)), o5, o6, none] [.int (nI (mfa (mal (xD x) (iS (xI x))) 12 (dT (xD x) 1) 0 0))] σ Q
  have r1 := hI.2.2.2.1
  have M1 := hI.1
  have s1 : fSm fClB σ σ := ⟨rfl, rfl, fun _ _ => ⟨rfl, rfl⟩⟩
  have c1 := hI.2.2.1
  refine e_aload_n dL_law_900 rfl rfl ?_
  refine e_callV (k := 89) [] dL_law_901 cc_X10_undone lk_RL_142 im_X10_undone se_X10_undone (by decide) (hI.1.s 89 rfl) (hI.1.n (by decide)) rfl (Nat.le_of_ble_eq_true rfl) (Nat.le_of_ble_eq_true rfl) ?_
  refine t_X10_undone M1 hI.2.1 r1  (fun σ2 s2 r2 z2 => fK_i ?_)
  show fEv g _ mL_law 904 [some (.ref fscr), some (.ref 0), some (.ref 89), some (.ref 300), some (.int (nI ii)), o5, o6, none] [.int (nI (mfa (mal (xD x) (iS (xI x))) 12 (dT (xD x) 1) 0 0)), .int (nI (mfa (mal (xD x) (iS (xI x))) 12 (dT (xD x) 1) 0 0))] σ2 Q
  have M2 := M1.sm s2
  refine e_icmp_eq 1782 dL_law_904 (by decide) (fun _ => ?_) (fun c => absurd rfl c)
  exact h σ2 _ _ _ ((hI.both hI.2.1 s1 c1 s2 r2).le (Nat.le_succ nn))
set_option maxRecDepth 20000 in
theorem c_left {g : fGP} {d : Nat} {σ : fAH} {Q : fRes → fAH → Prop} {x : fXS} {k w pt : Nat} {nn ii : Nat} {o5 o6 : Option Value} (hg : gLL g < 2147483648) (hi6 : ii + 6 ≤ gLL g) (hI : fLI g σ x (nn + 1)) (hk : k < dT (xD x) 1) (hw : w ≤ 2) (hp : pt ≤ 1) (ha1 : gxs g (ii + 1) = nI k) (ha2 : gxs g (ii + 2) = nI w) (ha3 : gxs g (ii + 3) = nI pt) (h : ∀ σ' x' o5 o6, fLI g σ' x' nn → fEv g (d + 45) mL_law 1782 [some (.ref fscr), some (.ref 0), some (.ref 89), some (.ref 300), some (.int (nI ii)), o5, o6, none] [] σ' Q) : fEv g (d + 45) mL_law 909 [some (.ref fscr), some (.ref 0), some (.ref 89), some (.ref 300), some (.int (nI ii)), o5, o6, none] [] σ Q := by
  refine e_aload_n dL_law_909 rfl rfl ?_
  refine e_aload_n dL_law_910 rfl rfl ?_
  refine e_iload dL_law_911 rfl ?_
  refine e_iconst (nI 1) dL_law_913 (by decide) ?_
  refine e_iadd dL_law_914 ?_
  refine e_int (nI (ii + 1)) (nI_add ii 1) ?_
  refine e_sld (ii + 1) dL_law_915 rfl (by omega) hg ?_
  refine e_int (nI k) ha1 ?_
  refine e_aload_n dL_law_916 rfl rfl ?_
  refine e_iload dL_law_917 rfl ?_
  refine e_iconst (nI 2) dL_law_919 (by decide) ?_
  refine e_iadd dL_law_920 ?_
  refine e_int (nI (ii + 2)) (nI_add ii 2) ?_
  refine e_sld (ii + 2) dL_law_921 rfl (by omega) hg ?_
  refine e_int (nI w) ha2 ?_
  refine e_aload_n dL_law_922 rfl rfl ?_
  refine e_iload dL_law_923 rfl ?_
  refine e_iconst (nI 3) dL_law_925 (by decide) ?_
  refine e_iadd dL_law_926 ?_
  refine e_int (nI (ii + 3)) (nI_add ii 3) ?_
  refine e_sld (ii + 3) dL_law_927 rfl (by omega) hg ?_
  refine e_int (nI pt) ha3 ?_
  refine e_aload_n dL_law_928 rfl rfl ?_
  refine e_callS [.ref 0, .int (nI k), .int (nI w), .int (nI pt), .ref 300] dL_law_929 cc_L_left lk_RL_143 st_L_left in_RL rfl (Nat.le_of_ble_eq_true rfl) (Nat.le_of_ble_eq_true rfl) ?_
  refine t_L_left hI.1 hI.2.1 hI.2.2.1 hk hw hp (fun σ1 s1 c1 v1 => fK_i ?_)
  show fEv g _ mL_law 932 [some (.ref fscr), some (.ref 0), some (.ref 89), some (.ref 300), some (.int (nI ii)), o5, o6, none] [.int (nI 0)] σ1 Q
  have r1 := hI.2.2.2.1.clB hI.2.1 s1
  have M1 := hI.1.sm s1
  refine e_istore (L1 := [some (.ref fscr), some (.ref 0), some (.ref 89), some (.ref 300), some (.int (nI ii)), some (.int (nI 0)), o6, none]) dL_law_932 (by decide) rfl ?_
  refine e_aload_n dL_law_934 rfl rfl ?_
  refine e_aload_n dL_law_935 rfl rfl ?_
  refine e_iload dL_law_936 rfl ?_
  refine e_iconst (nI 1) dL_law_938 (by decide) ?_
  refine e_iadd dL_law_939 ?_
  refine e_int (nI (ii + 1)) (nI_add ii 1) ?_
  refine e_sld (ii + 1) dL_law_940 rfl (by omega) hg ?_
  refine e_int (nI k) ha1 ?_
  refine e_aload_n dL_law_941 rfl rfl ?_
  refine e_iload dL_law_942 rfl ?_
  refine e_iconst (nI 2) dL_law_944 (by decide) ?_
  refine e_iadd dL_law_945 ?_
  refine e_int (nI (ii + 2)) (nI_add ii 2) ?_
  refine e_sld (ii + 2) dL_law_946 rfl (by omega) hg ?_
  refine e_int (nI w) ha2 ?_
  refine e_aload_n dL_law_947 rfl rfl ?_
  refine e_iload dL_law_948 rfl ?_
  refine e_iconst (nI 3) dL_law_950 (by decide) ?_
  refine e_iadd dL_law_951 ?_
  refine e_int (nI (ii + 3)) (nI_add ii 3) ?_
  refine e_sld (ii + 3) dL_law_952 rfl (by omega) hg ?_
  refine e_int (nI pt) ha3 ?_
  refine e_callV (k := 89) [.int (nI k), .int (nI w), .int (nI pt)] dL_law_953 cc_X10_left lk_RL_146 im_X10_left se_X10_left (by decide) (M1.s 89 rfl) (M1.n (by decide)) rfl (Nat.le_of_ble_eq_true rfl) (Nat.le_of_ble_eq_true rfl) ?_
  refine t_X10_left M1 hI.2.1 r1 hk hw hp (fun σ2 s2 r2 z2 => fK_i ?_)
  show fEv g _ mL_law 956 [some (.ref fscr), some (.ref 0), some (.ref 89), some (.ref 300), some (.int (nI ii)), some (.int (nI 0)), o6, none] [.int (vLeft (xD x) (iS (xI x)) k w pt)] σ2 Q
  have M2 := M1.sm s2
  refine e_istore (L1 := [some (.ref fscr), some (.ref 0), some (.ref 89), some (.ref 300), some (.int (nI ii)), some (.int (nI 0)), some (.int (vLeft (xD x) (iS (xI x)) k w pt)), none]) dL_law_956 (by decide) rfl ?_
  refine e_aload_n dL_law_958 rfl rfl ?_
  refine e_callV (k := 89) [] dL_law_959 cc_X10_thrown lk_RL_99 im_X10_thrown se_X10_thrown (by decide) (M2.s 89 rfl) (M2.n (by decide)) rfl (Nat.le_of_ble_eq_true rfl) (Nat.le_of_ble_eq_true rfl) ?_
  refine t_X10_thrown M2 z2 (fK_i ?_)
  show fEv g _ mL_law 962 [some (.ref fscr), some (.ref 0), some (.ref 89), some (.ref 300), some (.int (nI ii)), some (.int (nI 0)), some (.int (vLeft (xD x) (iS (xI x)) k w pt)), none] [.int (nI 0)] σ2 Q
  refine e_iload dL_law_962 rfl ?_
  refine e_icmp_eq 969 dL_law_964 (by decide) (fun _ => ?_) (fun c => absurd c (by decide))
  refine e_iload dL_law_969 rfl ?_
  refine e_if_ne 986 dL_law_971 (by decide) (fun c => absurd c (by decide)) (fun _ => ?_)
  refine e_aload_n dL_law_974 rfl rfl ?_
  refine e_iconst (nI 0) dL_law_975 (by decide) ?_
  refine e_laload 0 dL_law_976 (M2.s 300 rfl) (M2.n (by decide)) rfl (by omega) (by decide) ?_
  refine e_long (((vLeft (xD x) (iS (xI x)) k w pt : Int32)).toInt64) ((s2.j (fun q => by unfold fRfA at q; omega) 0).trans v1) ?_
  refine e_iload dL_law_977 rfl ?_
  refine e_i2l dL_law_979 ?_
  refine e_lcmp dL_law_980 ?_
  refine e_if_eq 986 dL_law_981 (by decide) (fun _ => ?_) (fun c => absurd (lc_eq.mpr rfl) c)
  refine e_goto 1782 dL_law_986 (by decide) ?_
  exact h σ2 _ _ _ ((hI.both hI.2.1 s1 c1 s2 r2).le (Nat.le_succ nn))
set_option maxRecDepth 20000 in
theorem c_leftE1 {g : fGP} {d : Nat} {σ : fAH} {Q : fRes → fAH → Prop} {x : fXS} {a b c : Int32} {nn ii : Nat} {o5 o6 : Option Value} (hg : gLL g < 2147483648) (hi6 : ii + 6 ≤ gLL g) (hI : fLI g σ x (nn + 1)) (hv : ¬ (nI 0 ≤ a ∧ a < nI (dT (xD x) 1))) (ha1 : gxs g (ii + 1) = a) (ha2 : gxs g (ii + 2) = b) (ha3 : gxs g (ii + 3) = c) (h : ∀ σ' x' o5 o6, fLI g σ' x' nn → fEv g (d + 45) mL_law 1782 [some (.ref fscr), some (.ref 0), some (.ref 89), some (.ref 300), some (.int (nI ii)), o5, o6, none] [] σ' Q) : fEv g (d + 45) mL_law 909 [some (.ref fscr), some (.ref 0), some (.ref 89), some (.ref 300), some (.int (nI ii)), o5, o6, none] [] σ Q := by
  refine e_aload_n dL_law_909 rfl rfl ?_
  refine e_aload_n dL_law_910 rfl rfl ?_
  refine e_iload dL_law_911 rfl ?_
  refine e_iconst (nI 1) dL_law_913 (by decide) ?_
  refine e_iadd dL_law_914 ?_
  refine e_int (nI (ii + 1)) (nI_add ii 1) ?_
  refine e_sld (ii + 1) dL_law_915 rfl (by omega) hg ?_
  refine e_int (a) ha1 ?_
  refine e_aload_n dL_law_916 rfl rfl ?_
  refine e_iload dL_law_917 rfl ?_
  refine e_iconst (nI 2) dL_law_919 (by decide) ?_
  refine e_iadd dL_law_920 ?_
  refine e_int (nI (ii + 2)) (nI_add ii 2) ?_
  refine e_sld (ii + 2) dL_law_921 rfl (by omega) hg ?_
  refine e_int (b) ha2 ?_
  refine e_aload_n dL_law_922 rfl rfl ?_
  refine e_iload dL_law_923 rfl ?_
  refine e_iconst (nI 3) dL_law_925 (by decide) ?_
  refine e_iadd dL_law_926 ?_
  refine e_int (nI (ii + 3)) (nI_add ii 3) ?_
  refine e_sld (ii + 3) dL_law_927 rfl (by omega) hg ?_
  refine e_int (c) ha3 ?_
  refine e_aload_n dL_law_928 rfl rfl ?_
  refine e_callS [.ref 0, .int a, .int b, .int c, .ref 300] dL_law_929 cc_L_left lk_RL_143 st_L_left in_RL rfl (Nat.le_of_ble_eq_true rfl) (Nat.le_of_ble_eq_true rfl) ?_
  refine t_L_leftE1 hI.1 hI.2.1 hI.2.2.1 hv hI.rm (fK_i ?_)
  show fEv g _ mL_law 932 [some (.ref fscr), some (.ref 0), some (.ref 89), some (.ref 300), some (.int (nI ii)), o5, o6, none] [.int (nI 1)] (fthr σ) Q
  have hJ := hI.thr
  refine e_istore (L1 := [some (.ref fscr), some (.ref 0), some (.ref 89), some (.ref 300), some (.int (nI ii)), some (.int (nI 1)), o6, none]) dL_law_932 (by decide) rfl ?_
  refine e_aload_n dL_law_934 rfl rfl ?_
  refine e_aload_n dL_law_935 rfl rfl ?_
  refine e_iload dL_law_936 rfl ?_
  refine e_iconst (nI 1) dL_law_938 (by decide) ?_
  refine e_iadd dL_law_939 ?_
  refine e_int (nI (ii + 1)) (nI_add ii 1) ?_
  refine e_sld (ii + 1) dL_law_940 rfl (by omega) hg ?_
  refine e_int (a) ha1 ?_
  refine e_aload_n dL_law_941 rfl rfl ?_
  refine e_iload dL_law_942 rfl ?_
  refine e_iconst (nI 2) dL_law_944 (by decide) ?_
  refine e_iadd dL_law_945 ?_
  refine e_int (nI (ii + 2)) (nI_add ii 2) ?_
  refine e_sld (ii + 2) dL_law_946 rfl (by omega) hg ?_
  refine e_int (b) ha2 ?_
  refine e_aload_n dL_law_947 rfl rfl ?_
  refine e_iload dL_law_948 rfl ?_
  refine e_iconst (nI 3) dL_law_950 (by decide) ?_
  refine e_iadd dL_law_951 ?_
  refine e_int (nI (ii + 3)) (nI_add ii 3) ?_
  refine e_sld (ii + 3) dL_law_952 rfl (by omega) hg ?_
  refine e_int (c) ha3 ?_
  refine e_callV (k := 89) [.int a, .int b, .int c] dL_law_953 cc_X10_left lk_RL_146 im_X10_left se_X10_left (by decide) (hJ.1.s 89 rfl) (hJ.1.n (by decide)) rfl (Nat.le_of_ble_eq_true rfl) (Nat.le_of_ble_eq_true rfl) ?_
  refine t_X10_leftE1 hJ.1 hJ.2.1 hJ.2.2.2.1 hv (fun σ2 s2 r2 z2 => fK_i ?_)
  show fEv g _ mL_law 956 [some (.ref fscr), some (.ref 0), some (.ref 89), some (.ref 300), some (.int (nI ii)), some (.int (nI 1)), o6, none] [.int (nI 0)] σ2 Q
  have M2 := hJ.1.sm s2
  refine e_istore (L1 := [some (.ref fscr), some (.ref 0), some (.ref 89), some (.ref 300), some (.int (nI ii)), some (.int (nI 1)), some (.int (nI 0)), none]) dL_law_956 (by decide) rfl ?_
  refine e_aload_n dL_law_958 rfl rfl ?_
  refine e_callV (k := 89) [] dL_law_959 cc_X10_thrown lk_RL_99 im_X10_thrown se_X10_thrown (by decide) (M2.s 89 rfl) (M2.n (by decide)) rfl (Nat.le_of_ble_eq_true rfl) (Nat.le_of_ble_eq_true rfl) ?_
  refine t_X10_thrown M2 z2 (fK_i ?_)
  show fEv g _ mL_law 962 [some (.ref fscr), some (.ref 0), some (.ref 89), some (.ref 300), some (.int (nI ii)), some (.int (nI 1)), some (.int (nI 0)), none] [.int (nI 1)] σ2 Q
  refine e_iload dL_law_962 rfl ?_
  refine e_icmp_eq 969 dL_law_964 (by decide) (fun _ => ?_) (fun c => absurd c (by decide))
  refine e_iload dL_law_969 rfl ?_
  refine e_if_ne 986 dL_law_971 (by decide) (fun _ => ?_) (fun c => absurd c (by decide))
  refine e_goto 1782 dL_law_986 (by decide) ?_
  exact h σ2 x _ _ (hJ.sm s2 hI.2.1 (hJ.2.2.1.rf hI.2.1 s2) r2)
set_option maxRecDepth 20000 in
theorem c_leftE2 {g : fGP} {d : Nat} {σ : fAH} {Q : fRes → fAH → Prop} {x : fXS} {k : Nat} {b c : Int32} {nn ii : Nat} {o5 o6 : Option Value} (hg : gLL g < 2147483648) (hi6 : ii + 6 ≤ gLL g) (hI : fLI g σ x (nn + 1)) (hk : k < dT (xD x) 1) (hv : ¬ (nI 0 ≤ b ∧ b ≤ nI 2)) (ha1 : gxs g (ii + 1) = nI k) (ha2 : gxs g (ii + 2) = b) (ha3 : gxs g (ii + 3) = c) (h : ∀ σ' x' o5 o6, fLI g σ' x' nn → fEv g (d + 45) mL_law 1782 [some (.ref fscr), some (.ref 0), some (.ref 89), some (.ref 300), some (.int (nI ii)), o5, o6, none] [] σ' Q) : fEv g (d + 45) mL_law 909 [some (.ref fscr), some (.ref 0), some (.ref 89), some (.ref 300), some (.int (nI ii)), o5, o6, none] [] σ Q := by
  refine e_aload_n dL_law_909 rfl rfl ?_
  refine e_aload_n dL_law_910 rfl rfl ?_
  refine e_iload dL_law_911 rfl ?_
  refine e_iconst (nI 1) dL_law_913 (by decide) ?_
  refine e_iadd dL_law_914 ?_
  refine e_int (nI (ii + 1)) (nI_add ii 1) ?_
  refine e_sld (ii + 1) dL_law_915 rfl (by omega) hg ?_
  refine e_int (nI k) ha1 ?_
  refine e_aload_n dL_law_916 rfl rfl ?_
  refine e_iload dL_law_917 rfl ?_
  refine e_iconst (nI 2) dL_law_919 (by decide) ?_
  refine e_iadd dL_law_920 ?_
  refine e_int (nI (ii + 2)) (nI_add ii 2) ?_
  refine e_sld (ii + 2) dL_law_921 rfl (by omega) hg ?_
  refine e_int (b) ha2 ?_
  refine e_aload_n dL_law_922 rfl rfl ?_
  refine e_iload dL_law_923 rfl ?_
  refine e_iconst (nI 3) dL_law_925 (by decide) ?_
  refine e_iadd dL_law_926 ?_
  refine e_int (nI (ii + 3)) (nI_add ii 3) ?_
  refine e_sld (ii + 3) dL_law_927 rfl (by omega) hg ?_
  refine e_int (c) ha3 ?_
  refine e_aload_n dL_law_928 rfl rfl ?_
  refine e_callS [.ref 0, .int (nI k), .int b, .int c, .ref 300] dL_law_929 cc_L_left lk_RL_143 st_L_left in_RL rfl (Nat.le_of_ble_eq_true rfl) (Nat.le_of_ble_eq_true rfl) ?_
  refine t_L_leftE2 hI.1 hI.2.1 hI.2.2.1 hk hv hI.rm (fK_i ?_)
  show fEv g _ mL_law 932 [some (.ref fscr), some (.ref 0), some (.ref 89), some (.ref 300), some (.int (nI ii)), o5, o6, none] [.int (nI 2)] (fthr σ) Q
  have hJ := hI.thr
  refine e_istore (L1 := [some (.ref fscr), some (.ref 0), some (.ref 89), some (.ref 300), some (.int (nI ii)), some (.int (nI 2)), o6, none]) dL_law_932 (by decide) rfl ?_
  refine e_aload_n dL_law_934 rfl rfl ?_
  refine e_aload_n dL_law_935 rfl rfl ?_
  refine e_iload dL_law_936 rfl ?_
  refine e_iconst (nI 1) dL_law_938 (by decide) ?_
  refine e_iadd dL_law_939 ?_
  refine e_int (nI (ii + 1)) (nI_add ii 1) ?_
  refine e_sld (ii + 1) dL_law_940 rfl (by omega) hg ?_
  refine e_int (nI k) ha1 ?_
  refine e_aload_n dL_law_941 rfl rfl ?_
  refine e_iload dL_law_942 rfl ?_
  refine e_iconst (nI 2) dL_law_944 (by decide) ?_
  refine e_iadd dL_law_945 ?_
  refine e_int (nI (ii + 2)) (nI_add ii 2) ?_
  refine e_sld (ii + 2) dL_law_946 rfl (by omega) hg ?_
  refine e_int (b) ha2 ?_
  refine e_aload_n dL_law_947 rfl rfl ?_
  refine e_iload dL_law_948 rfl ?_
  refine e_iconst (nI 3) dL_law_950 (by decide) ?_
  refine e_iadd dL_law_951 ?_
  refine e_int (nI (ii + 3)) (nI_add ii 3) ?_
  refine e_sld (ii + 3) dL_law_952 rfl (by omega) hg ?_
  refine e_int (c) ha3 ?_
  refine e_callV (k := 89) [.int (nI k), .int b, .int c] dL_law_953 cc_X10_left lk_RL_146 im_X10_left se_X10_left (by decide) (hJ.1.s 89 rfl) (hJ.1.n (by decide)) rfl (Nat.le_of_ble_eq_true rfl) (Nat.le_of_ble_eq_true rfl) ?_
  refine t_X10_leftE2 hJ.1 hJ.2.1 hJ.2.2.2.1 hk hv (fun σ2 s2 r2 z2 => fK_i ?_)
  show fEv g _ mL_law 956 [some (.ref fscr), some (.ref 0), some (.ref 89), some (.ref 300), some (.int (nI ii)), some (.int (nI 2)), o6, none] [.int (nI 0)] σ2 Q
  have M2 := hJ.1.sm s2
  refine e_istore (L1 := [some (.ref fscr), some (.ref 0), some (.ref 89), some (.ref 300), some (.int (nI ii)), some (.int (nI 2)), some (.int (nI 0)), none]) dL_law_956 (by decide) rfl ?_
  refine e_aload_n dL_law_958 rfl rfl ?_
  refine e_callV (k := 89) [] dL_law_959 cc_X10_thrown lk_RL_99 im_X10_thrown se_X10_thrown (by decide) (M2.s 89 rfl) (M2.n (by decide)) rfl (Nat.le_of_ble_eq_true rfl) (Nat.le_of_ble_eq_true rfl) ?_
  refine t_X10_thrown M2 z2 (fK_i ?_)
  show fEv g _ mL_law 962 [some (.ref fscr), some (.ref 0), some (.ref 89), some (.ref 300), some (.int (nI ii)), some (.int (nI 2)), some (.int (nI 0)), none] [.int (nI 2)] σ2 Q
  refine e_iload dL_law_962 rfl ?_
  refine e_icmp_eq 969 dL_law_964 (by decide) (fun _ => ?_) (fun c => absurd c (by decide))
  refine e_iload dL_law_969 rfl ?_
  refine e_if_ne 986 dL_law_971 (by decide) (fun _ => ?_) (fun c => absurd c (by decide))
  refine e_goto 1782 dL_law_986 (by decide) ?_
  exact h σ2 x _ _ (hJ.sm s2 hI.2.1 (hJ.2.2.1.rf hI.2.1 s2) r2)
set_option maxRecDepth 20000 in
theorem c_leftE3 {g : fGP} {d : Nat} {σ : fAH} {Q : fRes → fAH → Prop} {x : fXS} {k w : Nat} {c : Int32} {nn ii : Nat} {o5 o6 : Option Value} (hg : gLL g < 2147483648) (hi6 : ii + 6 ≤ gLL g) (hI : fLI g σ x (nn + 1)) (hk : k < dT (xD x) 1) (hw : w ≤ 2) (hv : ¬ (nI 0 ≤ c ∧ c ≤ nI 1)) (ha1 : gxs g (ii + 1) = nI k) (ha2 : gxs g (ii + 2) = nI w) (ha3 : gxs g (ii + 3) = c) (h : ∀ σ' x' o5 o6, fLI g σ' x' nn → fEv g (d + 45) mL_law 1782 [some (.ref fscr), some (.ref 0), some (.ref 89), some (.ref 300), some (.int (nI ii)), o5, o6, none] [] σ' Q) : fEv g (d + 45) mL_law 909 [some (.ref fscr), some (.ref 0), some (.ref 89), some (.ref 300), some (.int (nI ii)), o5, o6, none] [] σ Q := by
  refine e_aload_n dL_law_909 rfl rfl ?_
  refine e_aload_n dL_law_910 rfl rfl ?_
  refine e_iload dL_law_911 rfl ?_
  refine e_iconst (nI 1) dL_law_913 (by decide) ?_
  refine e_iadd dL_law_914 ?_
  refine e_int (nI (ii + 1)) (nI_add ii 1) ?_
  refine e_sld (ii + 1) dL_law_915 rfl (by omega) hg ?_
  refine e_int (nI k) ha1 ?_
  refine e_aload_n dL_law_916 rfl rfl ?_
  refine e_iload dL_law_917 rfl ?_
  refine e_iconst (nI 2) dL_law_919 (by decide) ?_
  refine e_iadd dL_law_920 ?_
  refine e_int (nI (ii + 2)) (nI_add ii 2) ?_
  refine e_sld (ii + 2) dL_law_921 rfl (by omega) hg ?_
  refine e_int (nI w) ha2 ?_
  refine e_aload_n dL_law_922 rfl rfl ?_
  refine e_iload dL_law_923 rfl ?_
  refine e_iconst (nI 3) dL_law_925 (by decide) ?_
  refine e_iadd dL_law_926 ?_
  refine e_int (nI (ii + 3)) (nI_add ii 3) ?_
  refine e_sld (ii + 3) dL_law_927 rfl (by omega) hg ?_
  refine e_int (c) ha3 ?_
  refine e_aload_n dL_law_928 rfl rfl ?_
  refine e_callS [.ref 0, .int (nI k), .int (nI w), .int c, .ref 300] dL_law_929 cc_L_left lk_RL_143 st_L_left in_RL rfl (Nat.le_of_ble_eq_true rfl) (Nat.le_of_ble_eq_true rfl) ?_
  refine t_L_leftE3 hI.1 hI.2.1 hI.2.2.1 hk hw hv hI.rm (fK_i ?_)
  show fEv g _ mL_law 932 [some (.ref fscr), some (.ref 0), some (.ref 89), some (.ref 300), some (.int (nI ii)), o5, o6, none] [.int (nI 2)] (fthr σ) Q
  have hJ := hI.thr
  refine e_istore (L1 := [some (.ref fscr), some (.ref 0), some (.ref 89), some (.ref 300), some (.int (nI ii)), some (.int (nI 2)), o6, none]) dL_law_932 (by decide) rfl ?_
  refine e_aload_n dL_law_934 rfl rfl ?_
  refine e_aload_n dL_law_935 rfl rfl ?_
  refine e_iload dL_law_936 rfl ?_
  refine e_iconst (nI 1) dL_law_938 (by decide) ?_
  refine e_iadd dL_law_939 ?_
  refine e_int (nI (ii + 1)) (nI_add ii 1) ?_
  refine e_sld (ii + 1) dL_law_940 rfl (by omega) hg ?_
  refine e_int (nI k) ha1 ?_
  refine e_aload_n dL_law_941 rfl rfl ?_
  refine e_iload dL_law_942 rfl ?_
  refine e_iconst (nI 2) dL_law_944 (by decide) ?_
  refine e_iadd dL_law_945 ?_
  refine e_int (nI (ii + 2)) (nI_add ii 2) ?_
  refine e_sld (ii + 2) dL_law_946 rfl (by omega) hg ?_
  refine e_int (nI w) ha2 ?_
  refine e_aload_n dL_law_947 rfl rfl ?_
  refine e_iload dL_law_948 rfl ?_
  refine e_iconst (nI 3) dL_law_950 (by decide) ?_
  refine e_iadd dL_law_951 ?_
  refine e_int (nI (ii + 3)) (nI_add ii 3) ?_
  refine e_sld (ii + 3) dL_law_952 rfl (by omega) hg ?_
  refine e_int (c) ha3 ?_
  refine e_callV (k := 89) [.int (nI k), .int (nI w), .int c] dL_law_953 cc_X10_left lk_RL_146 im_X10_left se_X10_left (by decide) (hJ.1.s 89 rfl) (hJ.1.n (by decide)) rfl (Nat.le_of_ble_eq_true rfl) (Nat.le_of_ble_eq_true rfl) ?_
  refine t_X10_leftE3 hJ.1 hJ.2.1 hJ.2.2.2.1 hk hw hv (fun σ2 s2 r2 z2 => fK_i ?_)
  show fEv g _ mL_law 956 [some (.ref fscr), some (.ref 0), some (.ref 89), some (.ref 300), some (.int (nI ii)), some (.int (nI 2)), o6, none] [.int (nI 0)] σ2 Q
  have M2 := hJ.1.sm s2
  refine e_istore (L1 := [some (.ref fscr), some (.ref 0), some (.ref 89), some (.ref 300), some (.int (nI ii)), some (.int (nI 2)), some (.int (nI 0)), none]) dL_law_956 (by decide) rfl ?_
  refine e_aload_n dL_law_958 rfl rfl ?_
  refine e_callV (k := 89) [] dL_law_959 cc_X10_thrown lk_RL_99 im_X10_thrown se_X10_thrown (by decide) (M2.s 89 rfl) (M2.n (by decide)) rfl (Nat.le_of_ble_eq_true rfl) (Nat.le_of_ble_eq_true rfl) ?_
  refine t_X10_thrown M2 z2 (fK_i ?_)
  show fEv g _ mL_law 962 [some (.ref fscr), some (.ref 0), some (.ref 89), some (.ref 300), some (.int (nI ii)), some (.int (nI 2)), some (.int (nI 0)), none] [.int (nI 2)] σ2 Q
  refine e_iload dL_law_962 rfl ?_
  refine e_icmp_eq 969 dL_law_964 (by decide) (fun _ => ?_) (fun c => absurd c (by decide))
  refine e_iload dL_law_969 rfl ?_
  refine e_if_ne 986 dL_law_971 (by decide) (fun _ => ?_) (fun c => absurd c (by decide))
  refine e_goto 1782 dL_law_986 (by decide) ?_
  exact h σ2 x _ _ (hJ.sm s2 hI.2.1 (hJ.2.2.1.rf hI.2.1 s2) r2)
set_option maxRecDepth 20000 in
theorem c_fits {g : fGP} {d : Nat} {σ : fAH} {Q : fRes → fAH → Prop} {x : fXS} {k w pt : Nat} {nn ii : Nat} {o5 o6 : Option Value} (hg : gLL g < 2147483648) (hi6 : ii + 6 ≤ gLL g) (hI : fLI g σ x (nn + 1)) (hk : k < dT (xD x) 1) (hw : w ≤ 2) (hp : pt ≤ 1) (ha1 : gxs g (ii + 1) = nI k) (ha2 : gxs g (ii + 2) = nI w) (ha3 : gxs g (ii + 3) = nI pt) (h : ∀ σ' x' o5 o6, fLI g σ' x' nn → fEv g (d + 45) mL_law 1782 [some (.ref fscr), some (.ref 0), some (.ref 89), some (.ref 300), some (.int (nI ii)), o5, o6, none] [] σ' Q) : fEv g (d + 45) mL_law 989 [some (.ref fscr), some (.ref 0), some (.ref 89), some (.ref 300), some (.int (nI ii)), o5, o6, none] [] σ Q := by
  refine e_aload_n dL_law_989 rfl rfl ?_
  refine e_aload_n dL_law_990 rfl rfl ?_
  refine e_iload dL_law_991 rfl ?_
  refine e_iconst (nI 1) dL_law_993 (by decide) ?_
  refine e_iadd dL_law_994 ?_
  refine e_int (nI (ii + 1)) (nI_add ii 1) ?_
  refine e_sld (ii + 1) dL_law_995 rfl (by omega) hg ?_
  refine e_int (nI k) ha1 ?_
  refine e_aload_n dL_law_996 rfl rfl ?_
  refine e_iload dL_law_997 rfl ?_
  refine e_iconst (nI 2) dL_law_999 (by decide) ?_
  refine e_iadd dL_law_1000 ?_
  refine e_int (nI (ii + 2)) (nI_add ii 2) ?_
  refine e_sld (ii + 2) dL_law_1001 rfl (by omega) hg ?_
  refine e_int (nI w) ha2 ?_
  refine e_aload_n dL_law_1002 rfl rfl ?_
  refine e_iload dL_law_1003 rfl ?_
  refine e_iconst (nI 3) dL_law_1005 (by decide) ?_
  refine e_iadd dL_law_1006 ?_
  refine e_int (nI (ii + 3)) (nI_add ii 3) ?_
  refine e_sld (ii + 3) dL_law_1007 rfl (by omega) hg ?_
  refine e_int (nI pt) ha3 ?_
  refine e_aload_n dL_law_1008 rfl rfl ?_
  refine e_callS [.ref 0, .int (nI k), .int (nI w), .int (nI pt), .ref 300] dL_law_1009 cc_L_fits lk_RL_147 st_L_fits in_RL rfl (Nat.le_of_ble_eq_true rfl) (Nat.le_of_ble_eq_true rfl) ?_
  refine t_L_fits hI.1 hI.2.1 hI.2.2.1 hk hw hp (fun σ1 s1 c1 v1 => fK_i ?_)
  show fEv g _ mL_law 1012 [some (.ref fscr), some (.ref 0), some (.ref 89), some (.ref 300), some (.int (nI ii)), o5, o6, none] [.int (nI 0)] σ1 Q
  have r1 := hI.2.2.2.1.clB hI.2.1 s1
  have M1 := hI.1.sm s1
  refine e_istore (L1 := [some (.ref fscr), some (.ref 0), some (.ref 89), some (.ref 300), some (.int (nI ii)), some (.int (nI 0)), o6, none]) dL_law_1012 (by decide) rfl ?_
  refine e_aload_n dL_law_1014 rfl rfl ?_
  refine e_aload_n dL_law_1015 rfl rfl ?_
  refine e_iload dL_law_1016 rfl ?_
  refine e_iconst (nI 1) dL_law_1018 (by decide) ?_
  refine e_iadd dL_law_1019 ?_
  refine e_int (nI (ii + 1)) (nI_add ii 1) ?_
  refine e_sld (ii + 1) dL_law_1020 rfl (by omega) hg ?_
  refine e_int (nI k) ha1 ?_
  refine e_aload_n dL_law_1021 rfl rfl ?_
  refine e_iload dL_law_1022 rfl ?_
  refine e_iconst (nI 2) dL_law_1024 (by decide) ?_
  refine e_iadd dL_law_1025 ?_
  refine e_int (nI (ii + 2)) (nI_add ii 2) ?_
  refine e_sld (ii + 2) dL_law_1026 rfl (by omega) hg ?_
  refine e_int (nI w) ha2 ?_
  refine e_aload_n dL_law_1027 rfl rfl ?_
  refine e_iload dL_law_1028 rfl ?_
  refine e_iconst (nI 3) dL_law_1030 (by decide) ?_
  refine e_iadd dL_law_1031 ?_
  refine e_int (nI (ii + 3)) (nI_add ii 3) ?_
  refine e_sld (ii + 3) dL_law_1032 rfl (by omega) hg ?_
  refine e_int (nI pt) ha3 ?_
  refine e_callV (k := 89) [.int (nI k), .int (nI w), .int (nI pt)] dL_law_1033 cc_X10_fits lk_RL_149 im_X10_fits se_X10_fits (by decide) (M1.s 89 rfl) (M1.n (by decide)) rfl (Nat.le_of_ble_eq_true rfl) (Nat.le_of_ble_eq_true rfl) ?_
  refine t_X10_fits M1 hI.2.1 r1 hk hw hp (fun σ2 s2 r2 z2 => fK_i ?_)
  show fEv g _ mL_law 1036 [some (.ref fscr), some (.ref 0), some (.ref 89), some (.ref 300), some (.int (nI ii)), some (.int (nI 0)), o6, none] [.int (vFit (xD x) (iS (xI x)) k w pt)] σ2 Q
  have M2 := M1.sm s2
  refine e_istore (L1 := [some (.ref fscr), some (.ref 0), some (.ref 89), some (.ref 300), some (.int (nI ii)), some (.int (nI 0)), some (.int (vFit (xD x) (iS (xI x)) k w pt)), none]) dL_law_1036 (by decide) rfl ?_
  refine e_aload_n dL_law_1038 rfl rfl ?_
  refine e_callV (k := 89) [] dL_law_1039 cc_X10_thrown lk_RL_99 im_X10_thrown se_X10_thrown (by decide) (M2.s 89 rfl) (M2.n (by decide)) rfl (Nat.le_of_ble_eq_true rfl) (Nat.le_of_ble_eq_true rfl) ?_
  refine t_X10_thrown M2 z2 (fK_i ?_)
  show fEv g _ mL_law 1042 [some (.ref fscr), some (.ref 0), some (.ref 89), some (.ref 300), some (.int (nI ii)), some (.int (nI 0)), some (.int (vFit (xD x) (iS (xI x)) k w pt)), none] [.int (nI 0)] σ2 Q
  refine e_iload dL_law_1042 rfl ?_
  refine e_icmp_eq 1049 dL_law_1044 (by decide) (fun _ => ?_) (fun c => absurd c (by decide))
  refine e_iload dL_law_1049 rfl ?_
  refine e_if_ne 1066 dL_law_1051 (by decide) (fun c => absurd c (by decide)) (fun _ => ?_)
  refine e_aload_n dL_law_1054 rfl rfl ?_
  refine e_iconst (nI 0) dL_law_1055 (by decide) ?_
  refine e_laload 0 dL_law_1056 (M2.s 300 rfl) (M2.n (by decide)) rfl (by omega) (by decide) ?_
  refine e_long (((vFit (xD x) (iS (xI x)) k w pt : Int32)).toInt64) ((s2.j (fun q => by unfold fRfA at q; omega) 0).trans v1) ?_
  refine e_iload dL_law_1057 rfl ?_
  refine e_i2l dL_law_1059 ?_
  refine e_lcmp dL_law_1060 ?_
  refine e_if_eq 1066 dL_law_1061 (by decide) (fun _ => ?_) (fun c => absurd (lc_eq.mpr rfl) c)
  refine e_goto 1782 dL_law_1066 (by decide) ?_
  exact h σ2 _ _ _ ((hI.both hI.2.1 s1 c1 s2 r2).le (Nat.le_succ nn))
set_option maxRecDepth 20000 in
theorem c_fitsE1 {g : fGP} {d : Nat} {σ : fAH} {Q : fRes → fAH → Prop} {x : fXS} {a b c : Int32} {nn ii : Nat} {o5 o6 : Option Value} (hg : gLL g < 2147483648) (hi6 : ii + 6 ≤ gLL g) (hI : fLI g σ x (nn + 1)) (hv : ¬ (nI 0 ≤ a ∧ a < nI (dT (xD x) 1))) (ha1 : gxs g (ii + 1) = a) (ha2 : gxs g (ii + 2) = b) (ha3 : gxs g (ii + 3) = c) (h : ∀ σ' x' o5 o6, fLI g σ' x' nn → fEv g (d + 45) mL_law 1782 [some (.ref fscr), some (.ref 0), some (.ref 89), some (.ref 300), some (.int (nI ii)), o5, o6, none] [] σ' Q) : fEv g (d + 45) mL_law 989 [some (.ref fscr), some (.ref 0), some (.ref 89), some (.ref 300), some (.int (nI ii)), o5, o6, none] [] σ Q := by
  refine e_aload_n dL_law_989 rfl rfl ?_
  refine e_aload_n dL_law_990 rfl rfl ?_
  refine e_iload dL_law_991 rfl ?_
  refine e_iconst (nI 1) dL_law_993 (by decide) ?_
  refine e_iadd dL_law_994 ?_
  refine e_int (nI (ii + 1)) (nI_add ii 1) ?_
  refine e_sld (ii + 1) dL_law_995 rfl (by omega) hg ?_
  refine e_int (a) ha1 ?_
  refine e_aload_n dL_law_996 rfl rfl ?_
  refine e_iload dL_law_997 rfl ?_
  refine e_iconst (nI 2) dL_law_999 (by decide) ?_
  refine e_iadd dL_law_1000 ?_
  refine e_int (nI (ii + 2)) (nI_add ii 2) ?_
  refine e_sld (ii + 2) dL_law_1001 rfl (by omega) hg ?_
  refine e_int (b) ha2 ?_
  refine e_aload_n dL_law_1002 rfl rfl ?_
  refine e_iload dL_law_1003 rfl ?_
  refine e_iconst (nI 3) dL_law_1005 (by decide) ?_
  refine e_iadd dL_law_1006 ?_
  refine e_int (nI (ii + 3)) (nI_add ii 3) ?_
  refine e_sld (ii + 3) dL_law_1007 rfl (by omega) hg ?_
  refine e_int (c) ha3 ?_
  refine e_aload_n dL_law_1008 rfl rfl ?_
  refine e_callS [.ref 0, .int a, .int b, .int c, .ref 300] dL_law_1009 cc_L_fits lk_RL_147 st_L_fits in_RL rfl (Nat.le_of_ble_eq_true rfl) (Nat.le_of_ble_eq_true rfl) ?_
  refine t_L_fitsE1 hI.1 hI.2.1 hI.2.2.1 hv hI.rm (fK_i ?_)
  show fEv g _ mL_law 1012 [some (.ref fscr), some (.ref 0), some (.ref 89), some (.ref 300), some (.int (nI ii)), o5, o6, none] [.int (nI 1)] (fthr σ) Q
  have hJ := hI.thr
  refine e_istore (L1 := [some (.ref fscr), some (.ref 0), some (.ref 89), some (.ref 300), some (.int (nI ii)), some (.int (nI 1)), o6, none]) dL_law_1012 (by decide) rfl ?_
  refine e_aload_n dL_law_1014 rfl rfl ?_
  refine e_aload_n dL_law_1015 rfl rfl ?_
  refine e_iload dL_law_1016 rfl ?_
  refine e_iconst (nI 1) dL_law_1018 (by decide) ?_
  refine e_iadd dL_law_1019 ?_
  refine e_int (nI (ii + 1)) (nI_add ii 1) ?_
  refine e_sld (ii + 1) dL_law_1020 rfl (by omega) hg ?_
  refine e_int (a) ha1 ?_
  refine e_aload_n dL_law_1021 rfl rfl ?_
  refine e_iload dL_law_1022 rfl ?_
  refine e_iconst (nI 2) dL_law_1024 (by decide) ?_
  refine e_iadd dL_law_1025 ?_
  refine e_int (nI (ii + 2)) (nI_add ii 2) ?_
  refine e_sld (ii + 2) dL_law_1026 rfl (by omega) hg ?_
  refine e_int (b) ha2 ?_
  refine e_aload_n dL_law_1027 rfl rfl ?_
  refine e_iload dL_law_1028 rfl ?_
  refine e_iconst (nI 3) dL_law_1030 (by decide) ?_
  refine e_iadd dL_law_1031 ?_
  refine e_int (nI (ii + 3)) (nI_add ii 3) ?_
  refine e_sld (ii + 3) dL_law_1032 rfl (by omega) hg ?_
  refine e_int (c) ha3 ?_
  refine e_callV (k := 89) [.int a, .int b, .int c] dL_law_1033 cc_X10_fits lk_RL_149 im_X10_fits se_X10_fits (by decide) (hJ.1.s 89 rfl) (hJ.1.n (by decide)) rfl (Nat.le_of_ble_eq_true rfl) (Nat.le_of_ble_eq_true rfl) ?_
  refine t_X10_fitsE1 hJ.1 hJ.2.1 hJ.2.2.2.1 hv (fun σ2 s2 r2 z2 => fK_i ?_)
  show fEv g _ mL_law 1036 [some (.ref fscr), some (.ref 0), some (.ref 89), some (.ref 300), some (.int (nI ii)), some (.int (nI 1)), o6, none] [.int (nI 0)] σ2 Q
  have M2 := hJ.1.sm s2
  refine e_istore (L1 := [some (.ref fscr), some (.ref 0), some (.ref 89), some (.ref 300), some (.int (nI ii)), some (.int (nI 1)), some (.int (nI 0)), none]) dL_law_1036 (by decide) rfl ?_
  refine e_aload_n dL_law_1038 rfl rfl ?_
  refine e_callV (k := 89) [] dL_law_1039 cc_X10_thrown lk_RL_99 im_X10_thrown se_X10_thrown (by decide) (M2.s 89 rfl) (M2.n (by decide)) rfl (Nat.le_of_ble_eq_true rfl) (Nat.le_of_ble_eq_true rfl) ?_
  refine t_X10_thrown M2 z2 (fK_i ?_)
  show fEv g _ mL_law 1042 [some (.ref fscr), some (.ref 0), some (.ref 89), some (.ref 300), some (.int (nI ii)), some (.int (nI 1)), some (.int (nI 0)), none] [.int (nI 1)] σ2 Q
  refine e_iload dL_law_1042 rfl ?_
  refine e_icmp_eq 1049 dL_law_1044 (by decide) (fun _ => ?_) (fun c => absurd c (by decide))
  refine e_iload dL_law_1049 rfl ?_
  refine e_if_ne 1066 dL_law_1051 (by decide) (fun _ => ?_) (fun c => absurd c (by decide))
  refine e_goto 1782 dL_law_1066 (by decide) ?_
  exact h σ2 x _ _ (hJ.sm s2 hI.2.1 (hJ.2.2.1.rf hI.2.1 s2) r2)
set_option maxRecDepth 20000 in
theorem c_fitsE2 {g : fGP} {d : Nat} {σ : fAH} {Q : fRes → fAH → Prop} {x : fXS} {k : Nat} {b c : Int32} {nn ii : Nat} {o5 o6 : Option Value} (hg : gLL g < 2147483648) (hi6 : ii + 6 ≤ gLL g) (hI : fLI g σ x (nn + 1)) (hk : k < dT (xD x) 1) (hv : ¬ (nI 0 ≤ b ∧ b ≤ nI 2)) (ha1 : gxs g (ii + 1) = nI k) (ha2 : gxs g (ii + 2) = b) (ha3 : gxs g (ii + 3) = c) (h : ∀ σ' x' o5 o6, fLI g σ' x' nn → fEv g (d + 45) mL_law 1782 [some (.ref fscr), some (.ref 0), some (.ref 89), some (.ref 300), some (.int (nI ii)), o5, o6, none] [] σ' Q) : fEv g (d + 45) mL_law 989 [some (.ref fscr), some (.ref 0), some (.ref 89), some (.ref 300), some (.int (nI ii)), o5, o6, none] [] σ Q := by
  refine e_aload_n dL_law_989 rfl rfl ?_
  refine e_aload_n dL_law_990 rfl rfl ?_
  refine e_iload dL_law_991 rfl ?_
  refine e_iconst (nI 1) dL_law_993 (by decide) ?_
  refine e_iadd dL_law_994 ?_
  refine e_int (nI (ii + 1)) (nI_add ii 1) ?_
  refine e_sld (ii + 1) dL_law_995 rfl (by omega) hg ?_
  refine e_int (nI k) ha1 ?_
  refine e_aload_n dL_law_996 rfl rfl ?_
  refine e_iload dL_law_997 rfl ?_
  refine e_iconst (nI 2) dL_law_999 (by decide) ?_
  refine e_iadd dL_law_1000 ?_
  refine e_int (nI (ii + 2)) (nI_add ii 2) ?_
  refine e_sld (ii + 2) dL_law_1001 rfl (by omega) hg ?_
  refine e_int (b) ha2 ?_
  refine e_aload_n dL_law_1002 rfl rfl ?_
  refine e_iload dL_law_1003 rfl ?_
  refine e_iconst (nI 3) dL_law_1005 (by decide) ?_
  refine e_iadd dL_law_1006 ?_
  refine e_int (nI (ii + 3)) (nI_add ii 3) ?_
  refine e_sld (ii + 3) dL_law_1007 rfl (by omega) hg ?_
  refine e_int (c) ha3 ?_
  refine e_aload_n dL_law_1008 rfl rfl ?_
  refine e_callS [.ref 0, .int (nI k), .int b, .int c, .ref 300] dL_law_1009 cc_L_fits lk_RL_147 st_L_fits in_RL rfl (Nat.le_of_ble_eq_true rfl) (Nat.le_of_ble_eq_true rfl) ?_
  refine t_L_fitsE2 hI.1 hI.2.1 hI.2.2.1 hk hv hI.rm (fK_i ?_)
  show fEv g _ mL_law 1012 [some (.ref fscr), some (.ref 0), some (.ref 89), some (.ref 300), some (.int (nI ii)), o5, o6, none] [.int (nI 2)] (fthr σ) Q
  have hJ := hI.thr
  refine e_istore (L1 := [some (.ref fscr), some (.ref 0), some (.ref 89), some (.ref 300), some (.int (nI ii)), some (.int (nI 2)), o6, none]) dL_law_1012 (by decide) rfl ?_
  refine e_aload_n dL_law_1014 rfl rfl ?_
  refine e_aload_n dL_law_1015 rfl rfl ?_
  refine e_iload dL_law_1016 rfl ?_
  refine e_iconst (nI 1) dL_law_1018 (by decide) ?_
  refine e_iadd dL_law_1019 ?_
  refine e_int (nI (ii + 1)) (nI_add ii 1) ?_
  refine e_sld (ii + 1) dL_law_1020 rfl (by omega) hg ?_
  refine e_int (nI k) ha1 ?_
  refine e_aload_n dL_law_1021 rfl rfl ?_
  refine e_iload dL_law_1022 rfl ?_
  refine e_iconst (nI 2) dL_law_1024 (by decide) ?_
  refine e_iadd dL_law_1025 ?_
  refine e_int (nI (ii + 2)) (nI_add ii 2) ?_
  refine e_sld (ii + 2) dL_law_1026 rfl (by omega) hg ?_
  refine e_int (b) ha2 ?_
  refine e_aload_n dL_law_1027 rfl rfl ?_
  refine e_iload dL_law_1028 rfl ?_
  refine e_iconst (nI 3) dL_law_1030 (by decide) ?_
  refine e_iadd dL_law_1031 ?_
  refine e_int (nI (ii + 3)) (nI_add ii 3) ?_
  refine e_sld (ii + 3) dL_law_1032 rfl (by omega) hg ?_
  refine e_int (c) ha3 ?_
  refine e_callV (k := 89) [.int (nI k), .int b, .int c] dL_law_1033 cc_X10_fits lk_RL_149 im_X10_fits se_X10_fits (by decide) (hJ.1.s 89 rfl) (hJ.1.n (by decide)) rfl (Nat.le_of_ble_eq_true rfl) (Nat.le_of_ble_eq_true rfl) ?_
  refine t_X10_fitsE2 hJ.1 hJ.2.1 hJ.2.2.2.1 hk hv (fun σ2 s2 r2 z2 => fK_i ?_)
  show fEv g _ mL_law 1036 [some (.ref fscr), some (.ref 0), some (.ref 89), some (.ref 300), some (.int (nI ii)), some (.int (nI 2)), o6, none] [.int (nI 0)] σ2 Q
  have M2 := hJ.1.sm s2
  refine e_istore (L1 := [some (.ref fscr), some (.ref 0), some (.ref 89), some (.ref 300), some (.int (nI ii)), some (.int (nI 2)), some (.int (nI 0)), none]) dL_law_1036 (by decide) rfl ?_
  refine e_aload_n dL_law_1038 rfl rfl ?_
  refine e_callV (k := 89) [] dL_law_1039 cc_X10_thrown lk_RL_99 im_X10_thrown se_X10_thrown (by decide) (M2.s 89 rfl) (M2.n (by decide)) rfl (Nat.le_of_ble_eq_true rfl) (Nat.le_of_ble_eq_true rfl) ?_
  refine t_X10_thrown M2 z2 (fK_i ?_)
  show fEv g _ mL_law 1042 [some (.ref fscr), some (.ref 0), some (.ref 89), some (.ref 300), some (.int (nI ii)), some (.int (nI 2)), some (.int (nI 0)), none] [.int (nI 2)] σ2 Q
  refine e_iload dL_law_1042 rfl ?_
  refine e_icmp_eq 1049 dL_law_1044 (by decide) (fun _ => ?_) (fun c => absurd c (by decide))
  refine e_iload dL_law_1049 rfl ?_
  refine e_if_ne 1066 dL_law_1051 (by decide) (fun _ => ?_) (fun c => absurd c (by decide))
  refine e_goto 1782 dL_law_1066 (by decide) ?_
  exact h σ2 x _ _ (hJ.sm s2 hI.2.1 (hJ.2.2.1.rf hI.2.1 s2) r2)
set_option maxRecDepth 20000 in
theorem c_fitsE3 {g : fGP} {d : Nat} {σ : fAH} {Q : fRes → fAH → Prop} {x : fXS} {k w : Nat} {c : Int32} {nn ii : Nat} {o5 o6 : Option Value} (hg : gLL g < 2147483648) (hi6 : ii + 6 ≤ gLL g) (hI : fLI g σ x (nn + 1)) (hk : k < dT (xD x) 1) (hw : w ≤ 2) (hv : ¬ (nI 0 ≤ c ∧ c ≤ nI 1)) (ha1 : gxs g (ii + 1) = nI k) (ha2 : gxs g (ii + 2) = nI w) (ha3 : gxs g (ii + 3) = c) (h : ∀ σ' x' o5 o6, fLI g σ' x' nn → fEv g (d + 45) mL_law 1782 [some (.ref fscr), some (.ref 0), some (.ref 89), some (.ref 300), some (.int (nI ii)), o5, o6, none] [] σ' Q) : fEv g (d + 45) mL_law 989 [some (.ref fscr), some (.ref 0), some (.ref 89), some (.ref 300), some (.int (nI ii)), o5, o6, none] [] σ Q := by
  refine e_aload_n dL_law_989 rfl rfl ?_
  refine e_aload_n dL_law_990 rfl rfl ?_
  refine e_iload dL_law_991 rfl ?_
  refine e_iconst (nI 1) dL_law_993 (by decide) ?_
  refine e_iadd dL_law_994 ?_
  refine e_int (nI (ii + 1)) (nI_add ii 1) ?_
  refine e_sld (ii + 1) dL_law_995 rfl (by omega) hg ?_
  refine e_int (nI k) ha1 ?_
  refine e_aload_n dL_law_996 rfl rfl ?_
  refine e_iload dL_law_997 rfl ?_
  refine e_iconst (nI 2) dL_law_999 (by decide) ?_
  refine e_iadd dL_law_1000 ?_
  refine e_int (nI (ii + 2)) (nI_add ii 2) ?_
  refine e_sld (ii + 2) dL_law_1001 rfl (by omega) hg ?_
  refine e_int (nI w) ha2 ?_
  refine e_aload_n dL_law_1002 rfl rfl ?_
  refine e_iload dL_law_1003 rfl ?_
  refine e_iconst (nI 3) dL_law_1005 (by decide) ?_
  refine e_iadd dL_law_1006 ?_
  refine e_int (nI (ii + 3)) (nI_add ii 3) ?_
  refine e_sld (ii + 3) dL_law_1007 rfl (by omega) hg ?_
  refine e_int (c) ha3 ?_
  refine e_aload_n dL_law_1008 rfl rfl ?_
  refine e_callS [.ref 0, .int (nI k), .int (nI w), .int c, .ref 300] dL_law_1009 cc_L_fits lk_RL_147 st_L_fits in_RL rfl (Nat.le_of_ble_eq_true rfl) (Nat.le_of_ble_eq_true rfl) ?_
  refine t_L_fitsE3 hI.1 hI.2.1 hI.2.2.1 hk hw hv hI.rm (fK_i ?_)
  show fEv g _ mL_law 1012 [some (.ref fscr), some (.ref 0), some (.ref 89), some (.ref 300), some (.int (nI ii)), o5, o6, none] [.int (nI 2)] (fthr σ) Q
  have hJ := hI.thr
  refine e_istore (L1 := [some (.ref fscr), some (.ref 0), some (.ref 89), some (.ref 300), some (.int (nI ii)), some (.int (nI 2)), o6, none]) dL_law_1012 (by decide) rfl ?_
  refine e_aload_n dL_law_1014 rfl rfl ?_
  refine e_aload_n dL_law_1015 rfl rfl ?_
  refine e_iload dL_law_1016 rfl ?_
  refine e_iconst (nI 1) dL_law_1018 (by decide) ?_
  refine e_iadd dL_law_1019 ?_
  refine e_int (nI (ii + 1)) (nI_add ii 1) ?_
  refine e_sld (ii + 1) dL_law_1020 rfl (by omega) hg ?_
  refine e_int (nI k) ha1 ?_
  refine e_aload_n dL_law_1021 rfl rfl ?_
  refine e_iload dL_law_1022 rfl ?_
  refine e_iconst (nI 2) dL_law_1024 (by decide) ?_
  refine e_iadd dL_law_1025 ?_
  refine e_int (nI (ii + 2)) (nI_add ii 2) ?_
  refine e_sld (ii + 2) dL_law_1026 rfl (by omega) hg ?_
  refine e_int (nI w) ha2 ?_
  refine e_aload_n dL_law_1027 rfl rfl ?_
  refine e_iload dL_law_1028 rfl ?_
  refine e_iconst (nI 3) dL_law_1030 (by decide) ?_
  refine e_iadd dL_law_1031 ?_
  refine e_int (nI (ii + 3)) (nI_add ii 3) ?_
  refine e_sld (ii + 3) dL_law_1032 rfl (by omega) hg ?_
  refine e_int (c) ha3 ?_
  refine e_callV (k := 89) [.int (nI k), .int (nI w), .int c] dL_law_1033 cc_X10_fits lk_RL_149 im_X10_fits se_X10_fits (by decide) (hJ.1.s 89 rfl) (hJ.1.n (by decide)) rfl (Nat.le_of_ble_eq_true rfl) (Nat.le_of_ble_eq_true rfl) ?_
  refine t_X10_fitsE3 hJ.1 hJ.2.1 hJ.2.2.2.1 hk hw hv (fun σ2 s2 r2 z2 => fK_i ?_)
  show fEv g _ mL_law 1036 [some (.ref fscr), some (.ref 0), some (.ref 89), some (.ref 300), some (.int (nI ii)), some (.int (nI 2)), o6, none] [.int (nI 0)] σ2 Q
  have M2 := hJ.1.sm s2
  refine e_istore (L1 := [some (.ref fscr), some (.ref 0), some (.ref 89), some (.ref 300), some (.int (nI ii)), some (.int (nI 2)), some (.int (nI 0)), none]) dL_law_1036 (by decide) rfl ?_
  refine e_aload_n dL_law_1038 rfl rfl ?_
  refine e_callV (k := 89) [] dL_law_1039 cc_X10_thrown lk_RL_99 im_X10_thrown se_X10_thrown (by decide) (M2.s 89 rfl) (M2.n (by decide)) rfl (Nat.le_of_ble_eq_true rfl) (Nat.le_of_ble_eq_true rfl) ?_
  refine t_X10_thrown M2 z2 (fK_i ?_)
  show fEv g _ mL_law 1042 [some (.ref fscr), some (.ref 0), some (.ref 89), some (.ref 300), some (.int (nI ii)), some (.int (nI 2)), some (.int (nI 0)), none] [.int (nI 2)] σ2 Q
  refine e_iload dL_law_1042 rfl ?_
  refine e_icmp_eq 1049 dL_law_1044 (by decide) (fun _ => ?_) (fun c => absurd c (by decide))
  refine e_iload dL_law_1049 rfl ?_
  refine e_if_ne 1066 dL_law_1051 (by decide) (fun _ => ?_) (fun c => absurd c (by decide))
  refine e_goto 1782 dL_law_1066 (by decide) ?_
  exact h σ2 x _ _ (hJ.sm s2 hI.2.1 (hJ.2.2.1.rf hI.2.1 s2) r2)
