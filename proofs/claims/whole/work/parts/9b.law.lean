/-! the law: case by case -/
section LWC
variable {p : Program} {lc : Launch} {e : Env} {s : State} {m : MethodId} {below : List Frame} {meth : Method} {c : Code} {bs L : Nat} {xs : Nat → Int32} {D : va_G} {sa : Nat → Nat} {cy : Nat → ClassId} {ce sl pc : Nat} {l : List (Option Value)} {st : List Value} {h : am_H}
abbrev lwl (i : Nat) (o5 o6 : Option Value) : List (Option Value) := [some (.retAddr 4), some (.ref 0), some (.ref 50), some (.ref 79), some (.int (nI i)), o5, o6]
theorem K_arg (hC : lw_X p s m meth c bs L xs D sa cy) {i j : Nat} {v : Int} {o5 o6 : Option Value} (d0 : decode code pc = .ok (.aload_n 0, 1)) (d1 : decode code (pc + 1) = .ok (.iload 4, 2)) (d2 : decode code (pc + 3) = .ok (.iconst v, 1)) (d3 : decode code (pc + 4) = .ok (.iadd, 1)) (d4 : decode code (pc + 5) = .ok (.iaload, 1)) (hv : Int32.ofInt v = nI j) (hi : i + j < L) (k : lw_K p lc e s m below meth c bs D sa cy ce sl (pc + 6) (lwl i o5 o6) (.int (xs (i + j)) :: st) h) : lw_K p lc e s m below meth c bs D sa cy ce sl pc (lwl i o5 o6) st h := by
  have hL := hC.2.2.2
  refine K_ls hC (i := 0) d0 rfl ?_
  refine K_ld hC (v := .int (nI i)) (x := 4) d1 rfl rfl ?_
  refine K_pu hC d2 rfl ?_
  rw [hv]
  refine K_pu hC d3 rfl ?_
  rw [nI_add]
  refine K_sld hC d4 (vp_in_nI hi (by omega)) ?_
  rw [nI_clamp (by omega)]
  exact k
theorem K_bool (hC : lw_X p s m meth c bs L xs D sa cy) {x : Int32} (d0 : decode code pc = .ok (.ifCond .eq 7, 3)) (d1 : decode code (pc + 3) = .ok (.iconst 1, 1)) (d2 : decode code (pc + 4) = .ok (.goto 4, 3)) (d3 : decode code (pc + 7) = .ok (.iconst 0, 1)) (k : lw_K p lc e s m below meth c bs D sa cy ce sl (pc + 8) l (.int (nI (if decide (¬ x = 0) = true then 1 else 0)) :: st) h) : lw_K p lc e s m below meth c bs D sa cy ce sl pc l (.int x :: st) h := by
  refine K_if_eq hC (pc + 7) d0 (by omega) (fun z => ?_) (fun z => ?_)
  · refine K_pu hC d3 rfl ?_
    have e1 : nI (if decide (¬ x = 0) = true then 1 else 0) = Int32.ofInt 0 := by simp [z]; rfl
    rw [e1] at k
    exact k
  · refine K_pu hC d1 rfl ?_
    refine K_goto hC (pc + 8) d2 (by omega) ?_
    have e1 : nI (if decide (¬ x = 0) = true then 1 else 0) = Int32.ofInt 1 := by simp [z]; rfl
    rw [e1] at k
    exact k
theorem K_c0 (hC : lw_X p s m meth c bs L xs D sa cy) {idx r k0 n0 d1 : Nat} {N : am_M} {v : Option Value} {h1 : am_H} {T : u_T} {fN : Nat} (hd : decode code pc = .ok (.invokevirtual idx, 3)) (hlk : am_lk R_law idx N.1) (hm : am_mV N 0) (hc : am_C d1 N (.ref r :: []) h (v, h1)) (hd1 : d1 < 1000) (hs : am_s h r = some (k0, n0)) (hcl : vwCl[k0]? = some (N.1.cls, T, fN)) (hk0 : k0 < 100) (hr : (st.map fun v => v.category).sum ≤ 8) (hlen : (am_ea (.ref r :: [])).length ≤ N.2.2.1) (hB1 : ce + (am_t h1 - am_t h) ≤ 601024) (hB2 : sl + (am_u h1 - am_u h) ≤ 7293034) (k : lw_K p lc e s m below meth c bs D sa cy (ce + (am_t h1 - am_t h)) (sl + (am_u h1 - am_u h)) (pc + 3) l (v.toList ++ st) h1) : lw_K p lc e s m below meth c bs D sa cy ce sl pc l (.ref r :: st) h := K_cV (vs := []) hC hd hd1 hr hlk hm hs hk0 hcl hlen hc hB1 hB2 k
theorem K_c1 (hC : lw_X p s m meth c bs L xs D sa cy) {idx r k0 n0 d1 : Nat} {N : am_M} {a1 : Value} {v : Option Value} {h1 : am_H} {T : u_T} {fN : Nat} (hd : decode code pc = .ok (.invokevirtual idx, 3)) (hlk : am_lk R_law idx N.1) (hm : am_mV N 1) (hc : am_C d1 N (.ref r :: [a1]) h (v, h1)) (hd1 : d1 < 1000) (hs : am_s h r = some (k0, n0)) (hcl : vwCl[k0]? = some (N.1.cls, T, fN)) (hk0 : k0 < 100) (hr : (st.map fun v => v.category).sum ≤ 8) (hlen : (am_ea (.ref r :: [a1])).length ≤ N.2.2.1) (hB1 : ce + (am_t h1 - am_t h) ≤ 601024) (hB2 : sl + (am_u h1 - am_u h) ≤ 7293034) (k : lw_K p lc e s m below meth c bs D sa cy (ce + (am_t h1 - am_t h)) (sl + (am_u h1 - am_u h)) (pc + 3) l (v.toList ++ st) h1) : lw_K p lc e s m below meth c bs D sa cy ce sl pc l (a1 :: .ref r :: st) h := K_cV (vs := [a1]) hC hd hd1 hr hlk hm hs hk0 hcl hlen hc hB1 hB2 k
theorem K_c2 (hC : lw_X p s m meth c bs L xs D sa cy) {idx r k0 n0 d1 : Nat} {N : am_M} {a1 a2 : Value} {v : Option Value} {h1 : am_H} {T : u_T} {fN : Nat} (hd : decode code pc = .ok (.invokevirtual idx, 3)) (hlk : am_lk R_law idx N.1) (hm : am_mV N 2) (hc : am_C d1 N (.ref r :: [a1, a2]) h (v, h1)) (hd1 : d1 < 1000) (hs : am_s h r = some (k0, n0)) (hcl : vwCl[k0]? = some (N.1.cls, T, fN)) (hk0 : k0 < 100) (hr : (st.map fun v => v.category).sum ≤ 8) (hlen : (am_ea (.ref r :: [a1, a2])).length ≤ N.2.2.1) (hB1 : ce + (am_t h1 - am_t h) ≤ 601024) (hB2 : sl + (am_u h1 - am_u h) ≤ 7293034) (k : lw_K p lc e s m below meth c bs D sa cy (ce + (am_t h1 - am_t h)) (sl + (am_u h1 - am_u h)) (pc + 3) l (v.toList ++ st) h1) : lw_K p lc e s m below meth c bs D sa cy ce sl pc l (a2 :: a1 :: .ref r :: st) h := K_cV (vs := [a1, a2]) hC hd hd1 hr hlk hm hs hk0 hcl hlen hc hB1 hB2 k
theorem K_c3 (hC : lw_X p s m meth c bs L xs D sa cy) {idx r k0 n0 d1 : Nat} {N : am_M} {a1 a2 a3 : Value} {v : Option Value} {h1 : am_H} {T : u_T} {fN : Nat} (hd : decode code pc = .ok (.invokevirtual idx, 3)) (hlk : am_lk R_law idx N.1) (hm : am_mV N 3) (hc : am_C d1 N (.ref r :: [a1, a2, a3]) h (v, h1)) (hd1 : d1 < 1000) (hs : am_s h r = some (k0, n0)) (hcl : vwCl[k0]? = some (N.1.cls, T, fN)) (hk0 : k0 < 100) (hr : (st.map fun v => v.category).sum ≤ 8) (hlen : (am_ea (.ref r :: [a1, a2, a3])).length ≤ N.2.2.1) (hB1 : ce + (am_t h1 - am_t h) ≤ 601024) (hB2 : sl + (am_u h1 - am_u h) ≤ 7293034) (k : lw_K p lc e s m below meth c bs D sa cy (ce + (am_t h1 - am_t h)) (sl + (am_u h1 - am_u h)) (pc + 3) l (v.toList ++ st) h1) : lw_K p lc e s m below meth c bs D sa cy ce sl pc l (a3 :: a2 :: a1 :: .ref r :: st) h := K_cV (vs := [a1, a2, a3]) hC hd hd1 hr hlk hm hs hk0 hcl hlen hc hB1 hB2 k
theorem K_c4 (hC : lw_X p s m meth c bs L xs D sa cy) {idx r k0 n0 d1 : Nat} {N : am_M} {a1 a2 a3 a4 : Value} {v : Option Value} {h1 : am_H} {T : u_T} {fN : Nat} (hd : decode code pc = .ok (.invokevirtual idx, 3)) (hlk : am_lk R_law idx N.1) (hm : am_mV N 4) (hc : am_C d1 N (.ref r :: [a1, a2, a3, a4]) h (v, h1)) (hd1 : d1 < 1000) (hs : am_s h r = some (k0, n0)) (hcl : vwCl[k0]? = some (N.1.cls, T, fN)) (hk0 : k0 < 100) (hr : (st.map fun v => v.category).sum ≤ 8) (hlen : (am_ea (.ref r :: [a1, a2, a3, a4])).length ≤ N.2.2.1) (hB1 : ce + (am_t h1 - am_t h) ≤ 601024) (hB2 : sl + (am_u h1 - am_u h) ≤ 7293034) (k : lw_K p lc e s m below meth c bs D sa cy (ce + (am_t h1 - am_t h)) (sl + (am_u h1 - am_u h)) (pc + 3) l (v.toList ++ st) h1) : lw_K p lc e s m below meth c bs D sa cy ce sl pc l (a4 :: a3 :: a2 :: a1 :: .ref r :: st) h := K_cV (vs := [a1, a2, a3, a4]) hC hd hd1 hr hlk hm hs hk0 hcl hlen hc hB1 hB2 k
theorem K_c5 (hC : lw_X p s m meth c bs L xs D sa cy) {idx r k0 n0 d1 : Nat} {N : am_M} {a1 a2 a3 a4 a5 : Value} {v : Option Value} {h1 : am_H} {T : u_T} {fN : Nat} (hd : decode code pc = .ok (.invokevirtual idx, 3)) (hlk : am_lk R_law idx N.1) (hm : am_mV N 5) (hc : am_C d1 N (.ref r :: [a1, a2, a3, a4, a5]) h (v, h1)) (hd1 : d1 < 1000) (hs : am_s h r = some (k0, n0)) (hcl : vwCl[k0]? = some (N.1.cls, T, fN)) (hk0 : k0 < 100) (hr : (st.map fun v => v.category).sum ≤ 8) (hlen : (am_ea (.ref r :: [a1, a2, a3, a4, a5])).length ≤ N.2.2.1) (hB1 : ce + (am_t h1 - am_t h) ≤ 601024) (hB2 : sl + (am_u h1 - am_u h) ≤ 7293034) (k : lw_K p lc e s m below meth c bs D sa cy (ce + (am_t h1 - am_t h)) (sl + (am_u h1 - am_u h)) (pc + 3) l (v.toList ++ st) h1) : lw_K p lc e s m below meth c bs D sa cy ce sl pc l (a5 :: a4 :: a3 :: a2 :: a1 :: .ref r :: st) h := K_cV (vs := [a1, a2, a3, a4, a5]) hC hd hd1 hr hlk hm hs hk0 hcl hlen hc hB1 hB2 k
theorem lcmp_rf {x : Int64} : lg_cmp x x = 0 := by unfold lg_cmp; simp
set_option maxHeartbeats 2000000 in
theorem L_feed (hC : lw_X p s m meth c bs L xs D sa cy) {i : Nat} {o5 o6 : Option Value} (hI : INV h) (hi : i + 6 ≤ L) (hB1 : ce + 3 ≤ 601024) (hB2 : sl + 400 ≤ 7293034) (k : ∀ h2, INV h2 → lw_K p lc e s m below meth c bs D sa cy (ce + 3) (sl + 400) 1149 (lwl i o5 o6) [] h2) : lw_K p lc e s m below meth c bs D sa cy ce sl 180 (lwl i o5 o6) [] h := by
  have hL := hC.2.2.2
  obtain ⟨x, h1, h2, d1, d2, hd1, hd2, k1, k2, hW1, hI2, t1, u1, t2, u2⟩ := p_feed hI (a := xs (i + 1)) (b := xs (i + 2)) (c := xs (i + 3)) (d := xs (i + 4)) (e := xs (i + 5))
  have hW : Wd h := by obtain ⟨_, _, _, _, _, _, _, _, _, _, _, _, _, _, _, _, _, _, m⟩ := hI; exact m.1.1
  refine K_ld hC (v := .ref 0) (x := 1) dL_law_180 rfl rfl ?_
  refine K_arg hC (j := 1) dL_law_181 dL_law_182 dL_law_184 dL_law_185 dL_law_186 rfl (by omega) ?_
  refine K_arg hC (j := 2) dL_law_187 dL_law_188 dL_law_190 dL_law_191 dL_law_192 rfl (by omega) ?_
  refine K_arg hC (j := 3) dL_law_193 dL_law_194 dL_law_196 dL_law_197 dL_law_198 rfl (by omega) ?_
  refine K_arg hC (j := 4) dL_law_199 dL_law_200 dL_law_202 dL_law_203 dL_law_204 rfl (by omega) ?_
  refine K_arg hC (j := 5) dL_law_205 dL_law_206 dL_law_208 dL_law_209 dL_law_210 rfl (by omega) ?_
  refine K_c5 hC (N := m_X11_feed) dL_law_211 lk_L_19 mV_X11_feed k1 hd1 (ws_0 hW) rfl (by decide) (Nat.le_of_ble_eq_true rfl) (Nat.le_of_ble_eq_true rfl) (by omega) (by omega) ?_
  refine K_ld hC (v := .ref 50) (x := 2) dL_law_214 rfl rfl ?_
  refine K_arg hC (j := 1) dL_law_215 dL_law_216 dL_law_218 dL_law_219 dL_law_220 rfl (by omega) ?_
  refine K_arg hC (j := 2) dL_law_221 dL_law_222 dL_law_224 dL_law_225 dL_law_226 rfl (by omega) ?_
  refine K_arg hC (j := 3) dL_law_227 dL_law_228 dL_law_230 dL_law_231 dL_law_232 rfl (by omega) ?_
  refine K_arg hC (j := 4) dL_law_233 dL_law_234 dL_law_236 dL_law_237 dL_law_238 rfl (by omega) ?_
  refine K_arg hC (j := 5) dL_law_239 dL_law_240 dL_law_242 dL_law_243 dL_law_244 rfl (by omega) ?_
  refine K_c5 hC (N := m_X12_feed) dL_law_245 lk_L_23 mV_X12_feed k2 hd2 (ws_50 hW1) rfl (by decide) (Nat.le_of_ble_eq_true rfl) (Nat.le_of_ble_eq_true rfl) (by omega) (by omega) ?_
  exact K_ic_eq hC 1149 dL_law_248 rfl (fun _ => K_wd (by omega) (by omega) (k h2 hI2)) (fun z => absurd rfl z)
set_option maxHeartbeats 2000000 in
theorem L_end (hC : lw_X p s m meth c bs L xs D sa cy) {i : Nat} {o5 o6 : Option Value} (hI : INV h) (hi : i + 6 ≤ L) (hB1 : ce + 3 ≤ 601024) (hB2 : sl + 400 ≤ 7293034) (k : ∀ h2, INV h2 → lw_K p lc e s m below meth c bs D sa cy (ce + 3) (sl + 400) 1149 (lwl i o5 o6) [] h2) : lw_K p lc e s m below meth c bs D sa cy ce sl 253 (lwl i o5 o6) [] h := by
  have hL := hC.2.2.2
  obtain ⟨x, h1, h2, d1, d2, hd1, hd2, k1, k2, hW1, hI2, t1, u1, t2, u2⟩ := p_end hI (x := xs (i + 1))
  have hW : Wd h := by obtain ⟨_, _, _, _, _, _, _, _, _, _, _, _, _, _, _, _, _, _, m⟩ := hI; exact m.1.1
  refine K_ld hC (v := .ref 0) (x := 1) dL_law_253 rfl rfl ?_
  refine K_arg hC (j := 1) dL_law_254 dL_law_255 dL_law_257 dL_law_258 dL_law_259 rfl (by omega) ?_
  refine K_c1 hC (N := m_X11_end) dL_law_260 lk_L_24 mV_X11_end k1 hd1 (ws_0 hW) rfl (by decide) (Nat.le_of_ble_eq_true rfl) (Nat.le_of_ble_eq_true rfl) (by omega) (by omega) ?_
  refine K_ld hC (v := .ref 50) (x := 2) dL_law_263 rfl rfl ?_
  refine K_arg hC (j := 1) dL_law_264 dL_law_265 dL_law_267 dL_law_268 dL_law_269 rfl (by omega) ?_
  refine K_c1 hC (N := m_X12_end) dL_law_270 lk_L_28 mV_X12_end k2 hd2 (ws_50 hW1) rfl (by decide) (Nat.le_of_ble_eq_true rfl) (Nat.le_of_ble_eq_true rfl) (by omega) (by omega) ?_
  exact K_ic_eq hC 1149 dL_law_273 rfl (fun _ => K_wd (by omega) (by omega) (k h2 hI2)) (fun z => absurd rfl z)
set_option maxHeartbeats 2000000 in
theorem L_fault (hC : lw_X p s m meth c bs L xs D sa cy) {i : Nat} {o5 o6 : Option Value} (hI : INV h) (hi : i + 6 ≤ L) (hB1 : ce + 3 ≤ 601024) (hB2 : sl + 400 ≤ 7293034) (k : ∀ h2, INV h2 → lw_K p lc e s m below meth c bs D sa cy (ce + 3) (sl + 400) 1149 (lwl i o5 o6) [] h2) : lw_K p lc e s m below meth c bs D sa cy ce sl 278 (lwl i o5 o6) [] h := by
  have hL := hC.2.2.2
  obtain ⟨x, h1, h2, d1, d2, hd1, hd2, k1, k2, hW1, hI2, t1, u1, t2, u2⟩ := p_fault hI (x := xs (i + 1))
  have hW : Wd h := by obtain ⟨_, _, _, _, _, _, _, _, _, _, _, _, _, _, _, _, _, _, m⟩ := hI; exact m.1.1
  refine K_ld hC (v := .ref 0) (x := 1) dL_law_278 rfl rfl ?_
  refine K_arg hC (j := 1) dL_law_279 dL_law_280 dL_law_282 dL_law_283 dL_law_284 rfl (by omega) ?_
  refine K_c1 hC (N := m_X11_fault) dL_law_285 lk_L_29 mV_X11_fault k1 hd1 (ws_0 hW) rfl (by decide) (Nat.le_of_ble_eq_true rfl) (Nat.le_of_ble_eq_true rfl) (by omega) (by omega) ?_
  refine K_ld hC (v := .ref 50) (x := 2) dL_law_288 rfl rfl ?_
  refine K_arg hC (j := 1) dL_law_289 dL_law_290 dL_law_292 dL_law_293 dL_law_294 rfl (by omega) ?_
  refine K_c1 hC (N := m_X12_fault) dL_law_295 lk_L_33 mV_X12_fault k2 hd2 (ws_50 hW1) rfl (by decide) (Nat.le_of_ble_eq_true rfl) (Nat.le_of_ble_eq_true rfl) (by omega) (by omega) ?_
  exact K_ic_eq hC 1149 dL_law_298 rfl (fun _ => K_wd (by omega) (by omega) (k h2 hI2)) (fun z => absurd rfl z)
set_option maxHeartbeats 2000000 in
theorem L_text (hC : lw_X p s m meth c bs L xs D sa cy) {i : Nat} {o5 o6 : Option Value} (hI : INV h) (hi : i + 6 ≤ L) (hB1 : ce + 3 ≤ 601024) (hB2 : sl + 400 ≤ 7293034) (k : ∀ h2, INV h2 → lw_K p lc e s m below meth c bs D sa cy (ce + 3) (sl + 400) 1149 (lwl i o5 o6) [] h2) : lw_K p lc e s m below meth c bs D sa cy ce sl 303 (lwl i o5 o6) [] h := by
  have hL := hC.2.2.2
  obtain ⟨x, h1, h2, d1, d2, hd1, hd2, k1, k2, hW1, hI2, t1, u1, t2, u2⟩ := p_text hI (x := xs (i + 1))
  have hW : Wd h := by obtain ⟨_, _, _, _, _, _, _, _, _, _, _, _, _, _, _, _, _, _, m⟩ := hI; exact m.1.1
  refine K_ld hC (v := .ref 0) (x := 1) dL_law_303 rfl rfl ?_
  refine K_arg hC (j := 1) dL_law_304 dL_law_305 dL_law_307 dL_law_308 dL_law_309 rfl (by omega) ?_
  refine K_c1 hC (N := m_X11_text) dL_law_310 lk_L_34 mV_X11_text k1 hd1 (ws_0 hW) rfl (by decide) (Nat.le_of_ble_eq_true rfl) (Nat.le_of_ble_eq_true rfl) (by omega) (by omega) ?_
  refine K_ld hC (v := .ref 50) (x := 2) dL_law_313 rfl rfl ?_
  refine K_arg hC (j := 1) dL_law_314 dL_law_315 dL_law_317 dL_law_318 dL_law_319 rfl (by omega) ?_
  refine K_c1 hC (N := m_X12_text) dL_law_320 lk_L_37 mV_X12_text k2 hd2 (ws_50 hW1) rfl (by decide) (Nat.le_of_ble_eq_true rfl) (Nat.le_of_ble_eq_true rfl) (by omega) (by omega) ?_
  exact K_ic_eq hC 1149 dL_law_323 rfl (fun _ => K_wd (by omega) (by omega) (k h2 hI2)) (fun z => absurd rfl z)
set_option maxHeartbeats 2000000 in
theorem L_seat (hC : lw_X p s m meth c bs L xs D sa cy) {i : Nat} {o5 o6 : Option Value} (hI : INV h) (hi : i + 6 ≤ L) (hB1 : ce + 3 ≤ 601024) (hB2 : sl + 400 ≤ 7293034) (k : ∀ h2, INV h2 → lw_K p lc e s m below meth c bs D sa cy (ce + 3) (sl + 400) 1149 (lwl i o5 o6) [] h2) : lw_K p lc e s m below meth c bs D sa cy ce sl 396 (lwl i o5 o6) [] h := by
  have hL := hC.2.2.2
  obtain ⟨x, h1, h2, d1, d2, hd1, hd2, k1, k2, hW1, hI2, t1, u1, t2, u2⟩ := p_seat hI (x := xs (i + 1))
  have hW : Wd h := by obtain ⟨_, _, _, _, _, _, _, _, _, _, _, _, _, _, _, _, _, _, m⟩ := hI; exact m.1.1
  refine K_ld hC (v := .ref 0) (x := 1) dL_law_396 rfl rfl ?_
  refine K_arg hC (j := 1) dL_law_397 dL_law_398 dL_law_400 dL_law_401 dL_law_402 rfl (by omega) ?_
  refine K_c1 hC (N := m_X11_seat) dL_law_403 lk_L_48 mV_X11_seat k1 hd1 (ws_0 hW) rfl (by decide) (Nat.le_of_ble_eq_true rfl) (Nat.le_of_ble_eq_true rfl) (by omega) (by omega) ?_
  refine K_ld hC (v := .ref 50) (x := 2) dL_law_406 rfl rfl ?_
  refine K_arg hC (j := 1) dL_law_407 dL_law_408 dL_law_410 dL_law_411 dL_law_412 rfl (by omega) ?_
  refine K_c1 hC (N := m_X12_seat) dL_law_413 lk_L_51 mV_X12_seat k2 hd2 (ws_50 hW1) rfl (by decide) (Nat.le_of_ble_eq_true rfl) (Nat.le_of_ble_eq_true rfl) (by omega) (by omega) ?_
  exact K_ic_eq hC 1149 dL_law_416 rfl (fun _ => K_wd (by omega) (by omega) (k h2 hI2)) (fun z => absurd rfl z)
set_option maxHeartbeats 2000000 in
theorem L_manners (hC : lw_X p s m meth c bs L xs D sa cy) {i : Nat} {o5 o6 : Option Value} (hI : INV h) (hi : i + 6 ≤ L) (hB1 : ce + 3 ≤ 601024) (hB2 : sl + 400 ≤ 7293034) (k : ∀ h2, INV h2 → lw_K p lc e s m below meth c bs D sa cy (ce + 3) (sl + 400) 1149 (lwl i o5 o6) [] h2) : lw_K p lc e s m below meth c bs D sa cy ce sl 421 (lwl i o5 o6) [] h := by
  have hL := hC.2.2.2
  obtain ⟨x, h1, h2, d1, d2, hd1, hd2, k1, k2, hW1, hI2, t1, u1, t2, u2⟩ := p_manners hI (x := xs (i + 1))
  have hW : Wd h := by obtain ⟨_, _, _, _, _, _, _, _, _, _, _, _, _, _, _, _, _, _, m⟩ := hI; exact m.1.1
  refine K_ld hC (v := .ref 0) (x := 1) dL_law_421 rfl rfl ?_
  refine K_arg hC (j := 1) dL_law_422 dL_law_423 dL_law_425 dL_law_426 dL_law_427 rfl (by omega) ?_
  refine K_c1 hC (N := m_X11_manners) dL_law_428 lk_L_52 mV_X11_manners k1 hd1 (ws_0 hW) rfl (by decide) (Nat.le_of_ble_eq_true rfl) (Nat.le_of_ble_eq_true rfl) (by omega) (by omega) ?_
  refine K_ld hC (v := .ref 50) (x := 2) dL_law_431 rfl rfl ?_
  refine K_arg hC (j := 1) dL_law_432 dL_law_433 dL_law_435 dL_law_436 dL_law_437 rfl (by omega) ?_
  refine K_c1 hC (N := m_X12_manners) dL_law_438 lk_L_55 mV_X12_manners k2 hd2 (ws_50 hW1) rfl (by decide) (Nat.le_of_ble_eq_true rfl) (Nat.le_of_ble_eq_true rfl) (by omega) (by omega) ?_
  exact K_ic_eq hC 1149 dL_law_441 rfl (fun _ => K_wd (by omega) (by omega) (k h2 hI2)) (fun z => absurd rfl z)
set_option maxHeartbeats 2000000 in
theorem L_set (hC : lw_X p s m meth c bs L xs D sa cy) {i : Nat} {o5 o6 : Option Value} (hI : INV h) (hi : i + 6 ≤ L) (hB1 : ce + 3 ≤ 601024) (hB2 : sl + 400 ≤ 7293034) (k : ∀ h2, INV h2 → lw_K p lc e s m below meth c bs D sa cy (ce + 3) (sl + 400) 1149 (lwl i o5 o6) [] h2) : lw_K p lc e s m below meth c bs D sa cy ce sl 446 (lwl i o5 o6) [] h := by
  have hL := hC.2.2.2
  obtain ⟨x, h1, h2, d1, d2, hd1, hd2, k1, k2, hW1, hI2, t1, u1, t2, u2⟩ := p_set hI (x1 := xs (i + 1)) (x2 := xs (i + 2)) (x3 := xs (i + 3))
  have hW : Wd h := by obtain ⟨_, _, _, _, _, _, _, _, _, _, _, _, _, _, _, _, _, _, m⟩ := hI; exact m.1.1
  refine K_ld hC (v := .ref 0) (x := 1) dL_law_446 rfl rfl ?_
  refine K_arg hC (j := 1) dL_law_447 dL_law_448 dL_law_450 dL_law_451 dL_law_452 rfl (by omega) ?_
  refine K_arg hC (j := 2) dL_law_453 dL_law_454 dL_law_456 dL_law_457 dL_law_458 rfl (by omega) ?_
  refine K_arg hC (j := 3) dL_law_459 dL_law_460 dL_law_462 dL_law_463 dL_law_464 rfl (by omega) ?_
  refine K_c3 hC (N := m_X11_set) dL_law_465 lk_L_56 mV_X11_set k1 hd1 (ws_0 hW) rfl (by decide) (Nat.le_of_ble_eq_true rfl) (Nat.le_of_ble_eq_true rfl) (by omega) (by omega) ?_
  refine K_ld hC (v := .ref 50) (x := 2) dL_law_468 rfl rfl ?_
  refine K_arg hC (j := 1) dL_law_469 dL_law_470 dL_law_472 dL_law_473 dL_law_474 rfl (by omega) ?_
  refine K_arg hC (j := 2) dL_law_475 dL_law_476 dL_law_478 dL_law_479 dL_law_480 rfl (by omega) ?_
  refine K_arg hC (j := 3) dL_law_481 dL_law_482 dL_law_484 dL_law_485 dL_law_486 rfl (by omega) ?_
  refine K_c3 hC (N := m_X12_set) dL_law_487 lk_L_60 mV_X12_set k2 hd2 (ws_50 hW1) rfl (by decide) (Nat.le_of_ble_eq_true rfl) (Nat.le_of_ble_eq_true rfl) (by omega) (by omega) ?_
  exact K_ic_eq hC 1149 dL_law_490 rfl (fun _ => K_wd (by omega) (by omega) (k h2 hI2)) (fun z => absurd rfl z)
set_option maxHeartbeats 2000000 in
theorem L_change (hC : lw_X p s m meth c bs L xs D sa cy) {i : Nat} {o5 o6 : Option Value} (hI : INV h) (hi : i + 6 ≤ L) (hB1 : ce + 3 ≤ 601024) (hB2 : sl + 400 ≤ 7293034) (k : ∀ h2, INV h2 → lw_K p lc e s m below meth c bs D sa cy (ce + 3) (sl + 400) 1149 (lwl i o5 o6) [] h2) : lw_K p lc e s m below meth c bs D sa cy ce sl 495 (lwl i o5 o6) [] h := by
  have hL := hC.2.2.2
  obtain ⟨x, h1, h2, d1, d2, hd1, hd2, k1, k2, hW1, hI2, t1, u1, t2, u2⟩ := p_change hI (x1 := xs (i + 1)) (x2 := xs (i + 2))
  have hW : Wd h := by obtain ⟨_, _, _, _, _, _, _, _, _, _, _, _, _, _, _, _, _, _, m⟩ := hI; exact m.1.1
  refine K_ld hC (v := .ref 0) (x := 1) dL_law_495 rfl rfl ?_
  refine K_arg hC (j := 1) dL_law_496 dL_law_497 dL_law_499 dL_law_500 dL_law_501 rfl (by omega) ?_
  refine K_arg hC (j := 2) dL_law_502 dL_law_503 dL_law_505 dL_law_506 dL_law_507 rfl (by omega) ?_
  refine K_c2 hC (N := m_X11_change) dL_law_508 lk_L_61 mV_X11_change k1 hd1 (ws_0 hW) rfl (by decide) (Nat.le_of_ble_eq_true rfl) (Nat.le_of_ble_eq_true rfl) (by omega) (by omega) ?_
  refine K_ld hC (v := .ref 50) (x := 2) dL_law_511 rfl rfl ?_
  refine K_arg hC (j := 1) dL_law_512 dL_law_513 dL_law_515 dL_law_516 dL_law_517 rfl (by omega) ?_
  refine K_arg hC (j := 2) dL_law_518 dL_law_519 dL_law_521 dL_law_522 dL_law_523 rfl (by omega) ?_
  refine K_c2 hC (N := m_X12_change) dL_law_524 lk_L_65 mV_X12_change k2 hd2 (ws_50 hW1) rfl (by decide) (Nat.le_of_ble_eq_true rfl) (Nat.le_of_ble_eq_true rfl) (by omega) (by omega) ?_
  exact K_ic_eq hC 1149 dL_law_527 rfl (fun _ => K_wd (by omega) (by omega) (k h2 hI2)) (fun z => absurd rfl z)
set_option maxHeartbeats 2000000 in
theorem L_sit (hC : lw_X p s m meth c bs L xs D sa cy) {i : Nat} {o5 o6 : Option Value} (hI : INV h) (hi : i + 6 ≤ L) (hB1 : ce + 3 ≤ 601024) (hB2 : sl + 400 ≤ 7293034) (k : ∀ h2, INV h2 → lw_K p lc e s m below meth c bs D sa cy (ce + 3) (sl + 400) 1149 (lwl i o5 o6) [] h2) : lw_K p lc e s m below meth c bs D sa cy ce sl 532 (lwl i o5 o6) [] h := by
  have hL := hC.2.2.2
  obtain ⟨x, h1, h2, d1, d2, hd1, hd2, k1, k2, hW1, hI2, t1, u1, t2, u2⟩ := p_sit hI (x := xs (i + 1))
  have hW : Wd h := by obtain ⟨_, _, _, _, _, _, _, _, _, _, _, _, _, _, _, _, _, _, m⟩ := hI; exact m.1.1
  refine K_ld hC (v := .ref 0) (x := 1) dL_law_532 rfl rfl ?_
  refine K_arg hC (j := 1) dL_law_533 dL_law_534 dL_law_536 dL_law_537 dL_law_538 rfl (by omega) ?_
  refine K_c1 hC (N := m_X11_sit) dL_law_539 lk_L_66 mV_X11_sit k1 hd1 (ws_0 hW) rfl (by decide) (Nat.le_of_ble_eq_true rfl) (Nat.le_of_ble_eq_true rfl) (by omega) (by omega) ?_
  refine K_ld hC (v := .ref 50) (x := 2) dL_law_542 rfl rfl ?_
  refine K_arg hC (j := 1) dL_law_543 dL_law_544 dL_law_546 dL_law_547 dL_law_548 rfl (by omega) ?_
  refine K_c1 hC (N := m_X12_sit) dL_law_549 lk_L_69 mV_X12_sit k2 hd2 (ws_50 hW1) rfl (by decide) (Nat.le_of_ble_eq_true rfl) (Nat.le_of_ble_eq_true rfl) (by omega) (by omega) ?_
  exact K_ic_eq hC 1149 dL_law_552 rfl (fun _ => K_wd (by omega) (by omega) (k h2 hI2)) (fun z => absurd rfl z)
set_option maxHeartbeats 2000000 in
theorem L_round (hC : lw_X p s m meth c bs L xs D sa cy) {i : Nat} {o5 o6 : Option Value} (hI : INV h) (hi : i + 6 ≤ L) (hB1 : ce + 3 ≤ 601024) (hB2 : sl + 400 ≤ 7293034) (k : ∀ h2, INV h2 → lw_K p lc e s m below meth c bs D sa cy (ce + 3) (sl + 400) 1149 (lwl i o5 o6) [] h2) : lw_K p lc e s m below meth c bs D sa cy ce sl 557 (lwl i o5 o6) [] h := by
  have hL := hC.2.2.2
  obtain ⟨x, h1, h2, d1, d2, hd1, hd2, k1, k2, hW1, hI2, t1, u1, t2, u2⟩ := p_round hI (x1 := xs (i + 1)) (x2 := xs (i + 2)) (x3 := xs (i + 3))
  have hW : Wd h := by obtain ⟨_, _, _, _, _, _, _, _, _, _, _, _, _, _, _, _, _, _, m⟩ := hI; exact m.1.1
  refine K_ld hC (v := .ref 0) (x := 1) dL_law_557 rfl rfl ?_
  refine K_arg hC (j := 1) dL_law_558 dL_law_559 dL_law_561 dL_law_562 dL_law_563 rfl (by omega) ?_
  refine K_arg hC (j := 2) dL_law_564 dL_law_565 dL_law_567 dL_law_568 dL_law_569 rfl (by omega) ?_
  refine K_arg hC (j := 3) dL_law_570 dL_law_571 dL_law_573 dL_law_574 dL_law_575 rfl (by omega) ?_
  refine K_c3 hC (N := m_X11_round) dL_law_576 lk_L_70 mV_X11_round k1 hd1 (ws_0 hW) rfl (by decide) (Nat.le_of_ble_eq_true rfl) (Nat.le_of_ble_eq_true rfl) (by omega) (by omega) ?_
  refine K_ld hC (v := .ref 50) (x := 2) dL_law_579 rfl rfl ?_
  refine K_arg hC (j := 1) dL_law_580 dL_law_581 dL_law_583 dL_law_584 dL_law_585 rfl (by omega) ?_
  refine K_arg hC (j := 2) dL_law_586 dL_law_587 dL_law_589 dL_law_590 dL_law_591 rfl (by omega) ?_
  refine K_arg hC (j := 3) dL_law_592 dL_law_593 dL_law_595 dL_law_596 dL_law_597 rfl (by omega) ?_
  refine K_c3 hC (N := m_X12_round) dL_law_598 lk_L_74 mV_X12_round k2 hd2 (ws_50 hW1) rfl (by decide) (Nat.le_of_ble_eq_true rfl) (Nat.le_of_ble_eq_true rfl) (by omega) (by omega) ?_
  refine K_pu hC dL_law_601 rfl ?_
  exact K_if_eq hC 1149 dL_law_602 rfl (fun _ => K_wd (by omega) (by omega) (k h2 hI2)) (fun z => absurd lcmp_rf z)
set_option maxHeartbeats 2000000 in
theorem L_tally (hC : lw_X p s m meth c bs L xs D sa cy) {i : Nat} {o5 o6 : Option Value} (hI : INV h) (hi : i + 6 ≤ L) (hB1 : ce + 3 ≤ 601024) (hB2 : sl + 400 ≤ 7293034) (k : ∀ h2, INV h2 → lw_K p lc e s m below meth c bs D sa cy (ce + 3) (sl + 400) 1149 (lwl i o5 o6) [] h2) : lw_K p lc e s m below meth c bs D sa cy ce sl 607 (lwl i o5 o6) [] h := by
  have hL := hC.2.2.2
  obtain ⟨x, h1, h2, d1, d2, hd1, hd2, k1, k2, hW1, hI2, t1, u1, t2, u2⟩ := p_tally hI (x := xs (i + 1))
  have hW : Wd h := by obtain ⟨_, _, _, _, _, _, _, _, _, _, _, _, _, _, _, _, _, _, m⟩ := hI; exact m.1.1
  refine K_ld hC (v := .ref 0) (x := 1) dL_law_607 rfl rfl ?_
  refine K_arg hC (j := 1) dL_law_608 dL_law_609 dL_law_611 dL_law_612 dL_law_613 rfl (by omega) ?_
  refine K_c1 hC (N := m_X11_tally) dL_law_614 lk_L_75 mV_X11_tally k1 hd1 (ws_0 hW) rfl (by decide) (Nat.le_of_ble_eq_true rfl) (Nat.le_of_ble_eq_true rfl) (by omega) (by omega) ?_
  refine K_ld hC (v := .ref 50) (x := 2) dL_law_617 rfl rfl ?_
  refine K_arg hC (j := 1) dL_law_618 dL_law_619 dL_law_621 dL_law_622 dL_law_623 rfl (by omega) ?_
  refine K_c1 hC (N := m_X12_tally) dL_law_624 lk_L_78 mV_X12_tally k2 hd2 (ws_50 hW1) rfl (by decide) (Nat.le_of_ble_eq_true rfl) (Nat.le_of_ble_eq_true rfl) (by omega) (by omega) ?_
  exact K_ic_eq hC 1149 dL_law_627 rfl (fun _ => K_wd (by omega) (by omega) (k h2 hI2)) (fun z => absurd rfl z)
set_option maxHeartbeats 2000000 in
theorem L_odds (hC : lw_X p s m meth c bs L xs D sa cy) {i : Nat} {o5 o6 : Option Value} (hI : INV h) (hi : i + 6 ≤ L) (hB1 : ce + 3 ≤ 601024) (hB2 : sl + 400 ≤ 7293034) (k : ∀ h2, INV h2 → lw_K p lc e s m below meth c bs D sa cy (ce + 3) (sl + 400) 1149 (lwl i o5 o6) [] h2) : lw_K p lc e s m below meth c bs D sa cy ce sl 632 (lwl i o5 o6) [] h := by
  have hL := hC.2.2.2
  obtain ⟨x, h1, h2, d1, d2, hd1, hd2, k1, k2, hW1, hI2, t1, u1, t2, u2⟩ := p_odds hI (x := xs (i + 1))
  have hW : Wd h := by obtain ⟨_, _, _, _, _, _, _, _, _, _, _, _, _, _, _, _, _, _, m⟩ := hI; exact m.1.1
  refine K_ld hC (v := .ref 0) (x := 1) dL_law_632 rfl rfl ?_
  refine K_arg hC (j := 1) dL_law_633 dL_law_634 dL_law_636 dL_law_637 dL_law_638 rfl (by omega) ?_
  refine K_c1 hC (N := m_X11_odds) dL_law_639 lk_L_79 mV_X11_odds k1 hd1 (ws_0 hW) rfl (by decide) (Nat.le_of_ble_eq_true rfl) (Nat.le_of_ble_eq_true rfl) (by omega) (by omega) ?_
  refine K_ld hC (v := .ref 50) (x := 2) dL_law_642 rfl rfl ?_
  refine K_arg hC (j := 1) dL_law_643 dL_law_644 dL_law_646 dL_law_647 dL_law_648 rfl (by omega) ?_
  refine K_c1 hC (N := m_X12_odds) dL_law_649 lk_L_83 mV_X12_odds k2 hd2 (ws_50 hW1) rfl (by decide) (Nat.le_of_ble_eq_true rfl) (Nat.le_of_ble_eq_true rfl) (by omega) (by omega) ?_
  refine K_pu hC dL_law_652 rfl ?_
  exact K_if_eq hC 1149 dL_law_653 rfl (fun _ => K_wd (by omega) (by omega) (k h2 hI2)) (fun z => absurd lcmp_rf z)
set_option maxHeartbeats 2000000 in
theorem L_passed (hC : lw_X p s m meth c bs L xs D sa cy) {i : Nat} {o5 o6 : Option Value} (hI : INV h) (hi : i + 6 ≤ L) (hB1 : ce + 3 ≤ 601024) (hB2 : sl + 400 ≤ 7293034) (k : ∀ h2, INV h2 → lw_K p lc e s m below meth c bs D sa cy (ce + 3) (sl + 400) 1149 (lwl i o5 o6) [] h2) : lw_K p lc e s m below meth c bs D sa cy ce sl 658 (lwl i o5 o6) [] h := by
  have hL := hC.2.2.2
  obtain ⟨x, h1, h2, d1, d2, hd1, hd2, k1, k2, hW1, hI2, t1, u1, t2, u2⟩ := p_passed hI
  have hW : Wd h := by obtain ⟨_, _, _, _, _, _, _, _, _, _, _, _, _, _, _, _, _, _, m⟩ := hI; exact m.1.1
  refine K_ld hC (v := .ref 0) (x := 1) dL_law_658 rfl rfl ?_
  refine K_c0 hC (N := m_X11_passed) dL_law_659 lk_L_84 mV_X11_passed k1 hd1 (ws_0 hW) rfl (by decide) (Nat.le_of_ble_eq_true rfl) (Nat.le_of_ble_eq_true rfl) (by omega) (by omega) ?_
  refine K_ld hC (v := .ref 50) (x := 2) dL_law_662 rfl rfl ?_
  refine K_c0 hC (N := m_X12_passed) dL_law_663 lk_L_88 mV_X12_passed k2 hd2 (ws_50 hW1) rfl (by decide) (Nat.le_of_ble_eq_true rfl) (Nat.le_of_ble_eq_true rfl) (by omega) (by omega) ?_
  refine K_pu hC dL_law_666 rfl ?_
  exact K_if_eq hC 1149 dL_law_667 rfl (fun _ => K_wd (by omega) (by omega) (k h2 hI2)) (fun z => absurd lcmp_rf z)
set_option maxHeartbeats 2000000 in
theorem L_turner (hC : lw_X p s m meth c bs L xs D sa cy) {i : Nat} {o5 o6 : Option Value} (hI : INV h) (hi : i + 6 ≤ L) (hB1 : ce + 3 ≤ 601024) (hB2 : sl + 400 ≤ 7293034) (k : ∀ h2, INV h2 → lw_K p lc e s m below meth c bs D sa cy (ce + 3) (sl + 400) 1149 (lwl i o5 o6) [] h2) : lw_K p lc e s m below meth c bs D sa cy ce sl 672 (lwl i o5 o6) [] h := by
  have hL := hC.2.2.2
  obtain ⟨x, h1, h2, d1, d2, hd1, hd2, k1, k2, hW1, hI2, t1, u1, t2, u2⟩ := p_turner hI
  have hW : Wd h := by obtain ⟨_, _, _, _, _, _, _, _, _, _, _, _, _, _, _, _, _, _, m⟩ := hI; exact m.1.1
  refine K_ld hC (v := .ref 0) (x := 1) dL_law_672 rfl rfl ?_
  refine K_c0 hC (N := m_X11_turner) dL_law_673 lk_L_89 mV_X11_turner k1 hd1 (ws_0 hW) rfl (by decide) (Nat.le_of_ble_eq_true rfl) (Nat.le_of_ble_eq_true rfl) (by omega) (by omega) ?_
  refine K_ld hC (v := .ref 50) (x := 2) dL_law_676 rfl rfl ?_
  refine K_c0 hC (N := m_X12_turner) dL_law_677 lk_L_92 mV_X12_turner k2 hd2 (ws_50 hW1) rfl (by decide) (Nat.le_of_ble_eq_true rfl) (Nat.le_of_ble_eq_true rfl) (by omega) (by omega) ?_
  exact K_ic_eq hC 1149 dL_law_680 rfl (fun _ => K_wd (by omega) (by omega) (k h2 hI2)) (fun z => absurd rfl z)
set_option maxHeartbeats 2000000 in
theorem L_bribe (hC : lw_X p s m meth c bs L xs D sa cy) {i : Nat} {o5 o6 : Option Value} (hI : INV h) (hi : i + 6 ≤ L) (hB1 : ce + 3 ≤ 601024) (hB2 : sl + 400 ≤ 7293034) (k : ∀ h2, INV h2 → lw_K p lc e s m below meth c bs D sa cy (ce + 3) (sl + 400) 1149 (lwl i o5 o6) [] h2) : lw_K p lc e s m below meth c bs D sa cy ce sl 685 (lwl i o5 o6) [] h := by
  have hL := hC.2.2.2
  obtain ⟨x, h1, h2, d1, d2, hd1, hd2, k1, k2, hW1, hI2, t1, u1, t2, u2⟩ := p_bribe hI (x := xs (i + 1))
  have hW : Wd h := by obtain ⟨_, _, _, _, _, _, _, _, _, _, _, _, _, _, _, _, _, _, m⟩ := hI; exact m.1.1
  refine K_ld hC (v := .ref 0) (x := 1) dL_law_685 rfl rfl ?_
  refine K_arg hC (j := 1) dL_law_686 dL_law_687 dL_law_689 dL_law_690 dL_law_691 rfl (by omega) ?_
  refine K_c1 hC (N := m_X11_bribe) dL_law_692 lk_L_93 mV_X11_bribe k1 hd1 (ws_0 hW) rfl (by decide) (Nat.le_of_ble_eq_true rfl) (Nat.le_of_ble_eq_true rfl) (by omega) (by omega) ?_
  refine K_ld hC (v := .ref 50) (x := 2) dL_law_695 rfl rfl ?_
  refine K_arg hC (j := 1) dL_law_696 dL_law_697 dL_law_699 dL_law_700 dL_law_701 rfl (by omega) ?_
  refine K_c1 hC (N := m_X12_bribe) dL_law_702 lk_L_96 mV_X12_bribe k2 hd2 (ws_50 hW1) rfl (by decide) (Nat.le_of_ble_eq_true rfl) (Nat.le_of_ble_eq_true rfl) (by omega) (by omega) ?_
  exact K_ic_eq hC 1149 dL_law_705 rfl (fun _ => K_wd (by omega) (by omega) (k h2 hI2)) (fun z => absurd rfl z)
set_option maxHeartbeats 2000000 in
theorem L_yawn (hC : lw_X p s m meth c bs L xs D sa cy) {i : Nat} {o5 o6 : Option Value} (hI : INV h) (hi : i + 6 ≤ L) (hB1 : ce + 3 ≤ 601024) (hB2 : sl + 400 ≤ 7293034) (k : ∀ h2, INV h2 → lw_K p lc e s m below meth c bs D sa cy (ce + 3) (sl + 400) 1149 (lwl i o5 o6) [] h2) : lw_K p lc e s m below meth c bs D sa cy ce sl 710 (lwl i o5 o6) [] h := by
  have hL := hC.2.2.2
  obtain ⟨x, h1, h2, d1, d2, hd1, hd2, k1, k2, hW1, hI2, t1, u1, t2, u2⟩ := p_yawn hI (x1 := xs (i + 1)) (x2 := xs (i + 2))
  have hW : Wd h := by obtain ⟨_, _, _, _, _, _, _, _, _, _, _, _, _, _, _, _, _, _, m⟩ := hI; exact m.1.1
  refine K_ld hC (v := .ref 0) (x := 1) dL_law_710 rfl rfl ?_
  refine K_arg hC (j := 1) dL_law_711 dL_law_712 dL_law_714 dL_law_715 dL_law_716 rfl (by omega) ?_
  refine K_arg hC (j := 2) dL_law_717 dL_law_718 dL_law_720 dL_law_721 dL_law_722 rfl (by omega) ?_
  refine K_c2 hC (N := m_X11_yawn) dL_law_723 lk_L_97 mV_X11_yawn k1 hd1 (ws_0 hW) rfl (by decide) (Nat.le_of_ble_eq_true rfl) (Nat.le_of_ble_eq_true rfl) (by omega) (by omega) ?_
  refine K_ld hC (v := .ref 50) (x := 2) dL_law_726 rfl rfl ?_
  refine K_arg hC (j := 1) dL_law_727 dL_law_728 dL_law_730 dL_law_731 dL_law_732 rfl (by omega) ?_
  refine K_arg hC (j := 2) dL_law_733 dL_law_734 dL_law_736 dL_law_737 dL_law_738 rfl (by omega) ?_
  refine K_c2 hC (N := m_X12_yawn) dL_law_739 lk_L_100 mV_X12_yawn k2 hd2 (ws_50 hW1) rfl (by decide) (Nat.le_of_ble_eq_true rfl) (Nat.le_of_ble_eq_true rfl) (by omega) (by omega) ?_
  exact K_ic_eq hC 1149 dL_law_742 rfl (fun _ => K_wd (by omega) (by omega) (k h2 hI2)) (fun z => absurd rfl z)
set_option maxHeartbeats 2000000 in
theorem L_yawns (hC : lw_X p s m meth c bs L xs D sa cy) {i : Nat} {o5 o6 : Option Value} (hI : INV h) (hi : i + 6 ≤ L) (hB1 : ce + 3 ≤ 601024) (hB2 : sl + 400 ≤ 7293034) (k : ∀ h2, INV h2 → lw_K p lc e s m below meth c bs D sa cy (ce + 3) (sl + 400) 1149 (lwl i o5 o6) [] h2) : lw_K p lc e s m below meth c bs D sa cy ce sl 747 (lwl i o5 o6) [] h := by
  have hL := hC.2.2.2
  obtain ⟨x, h1, h2, d1, d2, hd1, hd2, k1, k2, hW1, hI2, t1, u1, t2, u2⟩ := p_yawns hI (x1 := xs (i + 1)) (x2 := xs (i + 2))
  have hW : Wd h := by obtain ⟨_, _, _, _, _, _, _, _, _, _, _, _, _, _, _, _, _, _, m⟩ := hI; exact m.1.1
  refine K_ld hC (v := .ref 0) (x := 1) dL_law_747 rfl rfl ?_
  refine K_arg hC (j := 1) dL_law_748 dL_law_749 dL_law_751 dL_law_752 dL_law_753 rfl (by omega) ?_
  refine K_arg hC (j := 2) dL_law_754 dL_law_755 dL_law_757 dL_law_758 dL_law_759 rfl (by omega) ?_
  refine K_c2 hC (N := m_X11_yawns) dL_law_760 lk_L_101 mV_X11_yawns k1 hd1 (ws_0 hW) rfl (by decide) (Nat.le_of_ble_eq_true rfl) (Nat.le_of_ble_eq_true rfl) (by omega) (by omega) ?_
  refine K_ld hC (v := .ref 50) (x := 2) dL_law_763 rfl rfl ?_
  refine K_arg hC (j := 1) dL_law_764 dL_law_765 dL_law_767 dL_law_768 dL_law_769 rfl (by omega) ?_
  refine K_arg hC (j := 2) dL_law_770 dL_law_771 dL_law_773 dL_law_774 dL_law_775 rfl (by omega) ?_
  refine K_c2 hC (N := m_X12_yawns) dL_law_776 lk_L_104 mV_X12_yawns k2 hd2 (ws_50 hW1) rfl (by decide) (Nat.le_of_ble_eq_true rfl) (Nat.le_of_ble_eq_true rfl) (by omega) (by omega) ?_
  exact K_ic_eq hC 1149 dL_law_779 rfl (fun _ => K_wd (by omega) (by omega) (k h2 hI2)) (fun z => absurd rfl z)
set_option maxHeartbeats 2000000 in
theorem L_ill (hC : lw_X p s m meth c bs L xs D sa cy) {i : Nat} {o5 o6 : Option Value} (hI : INV h) (hi : i + 6 ≤ L) (hB1 : ce + 3 ≤ 601024) (hB2 : sl + 400 ≤ 7293034) (k : ∀ h2, INV h2 → lw_K p lc e s m below meth c bs D sa cy (ce + 3) (sl + 400) 1149 (lwl i o5 o6) [] h2) : lw_K p lc e s m below meth c bs D sa cy ce sl 784 (lwl i o5 o6) [] h := by
  have hL := hC.2.2.2
  obtain ⟨x, h1, h2, d1, d2, hd1, hd2, k1, k2, hW1, hI2, t1, u1, t2, u2⟩ := p_ill hI
  have hW : Wd h := by obtain ⟨_, _, _, _, _, _, _, _, _, _, _, _, _, _, _, _, _, _, m⟩ := hI; exact m.1.1
  refine K_ld hC (v := .ref 0) (x := 1) dL_law_784 rfl rfl ?_
  refine K_c0 hC (N := m_X11_ill) dL_law_785 lk_L_105 mV_X11_ill k1 hd1 (ws_0 hW) rfl (by decide) (Nat.le_of_ble_eq_true rfl) (Nat.le_of_ble_eq_true rfl) (by omega) (by omega) ?_
  refine K_ld hC (v := .ref 50) (x := 2) dL_law_788 rfl rfl ?_
  refine K_c0 hC (N := m_X12_ill) dL_law_789 lk_L_108 mV_X12_ill k2 hd2 (ws_50 hW1) rfl (by decide) (Nat.le_of_ble_eq_true rfl) (Nat.le_of_ble_eq_true rfl) (by omega) (by omega) ?_
  exact K_ic_eq hC 1149 dL_law_792 rfl (fun _ => K_wd (by omega) (by omega) (k h2 hI2)) (fun z => absurd rfl z)
set_option maxHeartbeats 2000000 in
theorem L_best (hC : lw_X p s m meth c bs L xs D sa cy) {i : Nat} {o5 o6 : Option Value} (hI : INV h) (hi : i + 6 ≤ L) (hB1 : ce + 3 ≤ 601024) (hB2 : sl + 400 ≤ 7293034) (k : ∀ h2, INV h2 → lw_K p lc e s m below meth c bs D sa cy (ce + 3) (sl + 400) 1149 (lwl i o5 o6) [] h2) : lw_K p lc e s m below meth c bs D sa cy ce sl 797 (lwl i o5 o6) [] h := by
  have hL := hC.2.2.2
  obtain ⟨x, h1, h2, d1, d2, hd1, hd2, k1, k2, hW1, hI2, t1, u1, t2, u2⟩ := p_best hI (x1 := xs (i + 1)) (x2 := xs (i + 2))
  have hW : Wd h := by obtain ⟨_, _, _, _, _, _, _, _, _, _, _, _, _, _, _, _, _, _, m⟩ := hI; exact m.1.1
  refine K_ld hC (v := .ref 0) (x := 1) dL_law_797 rfl rfl ?_
  refine K_arg hC (j := 1) dL_law_798 dL_law_799 dL_law_801 dL_law_802 dL_law_803 rfl (by omega) ?_
  refine K_arg hC (j := 2) dL_law_804 dL_law_805 dL_law_807 dL_law_808 dL_law_809 rfl (by omega) ?_
  refine K_c2 hC (N := m_X11_best) dL_law_810 lk_L_109 mV_X11_best k1 hd1 (ws_0 hW) rfl (by decide) (Nat.le_of_ble_eq_true rfl) (Nat.le_of_ble_eq_true rfl) (by omega) (by omega) ?_
  refine K_ld hC (v := .ref 50) (x := 2) dL_law_813 rfl rfl ?_
  refine K_arg hC (j := 1) dL_law_814 dL_law_815 dL_law_817 dL_law_818 dL_law_819 rfl (by omega) ?_
  refine K_arg hC (j := 2) dL_law_820 dL_law_821 dL_law_823 dL_law_824 dL_law_825 rfl (by omega) ?_
  refine K_c2 hC (N := m_X12_best) dL_law_826 lk_L_112 mV_X12_best k2 hd2 (ws_50 hW1) rfl (by decide) (Nat.le_of_ble_eq_true rfl) (Nat.le_of_ble_eq_true rfl) (by omega) (by omega) ?_
  exact K_ic_eq hC 1149 dL_law_829 rfl (fun _ => K_wd (by omega) (by omega) (k h2 hI2)) (fun z => absurd rfl z)
set_option maxHeartbeats 2000000 in
theorem L_changes (hC : lw_X p s m meth c bs L xs D sa cy) {i : Nat} {o5 o6 : Option Value} (hI : INV h) (hi : i + 6 ≤ L) (hB1 : ce + 3 ≤ 601024) (hB2 : sl + 400 ≤ 7293034) (k : ∀ h2, INV h2 → lw_K p lc e s m below meth c bs D sa cy (ce + 3) (sl + 400) 1149 (lwl i o5 o6) [] h2) : lw_K p lc e s m below meth c bs D sa cy ce sl 834 (lwl i o5 o6) [] h := by
  have hL := hC.2.2.2
  obtain ⟨x, h1, h2, d1, d2, hd1, hd2, k1, k2, hW1, hI2, t1, u1, t2, u2⟩ := p_changes hI (x := xs (i + 1))
  have hW : Wd h := by obtain ⟨_, _, _, _, _, _, _, _, _, _, _, _, _, _, _, _, _, _, m⟩ := hI; exact m.1.1
  refine K_ld hC (v := .ref 0) (x := 1) dL_law_834 rfl rfl ?_
  refine K_arg hC (j := 1) dL_law_835 dL_law_836 dL_law_838 dL_law_839 dL_law_840 rfl (by omega) ?_
  refine K_c1 hC (N := m_X11_changes) dL_law_841 lk_L_113 mV_X11_changes k1 hd1 (ws_0 hW) rfl (by decide) (Nat.le_of_ble_eq_true rfl) (Nat.le_of_ble_eq_true rfl) (by omega) (by omega) ?_
  refine K_ld hC (v := .ref 50) (x := 2) dL_law_844 rfl rfl ?_
  refine K_arg hC (j := 1) dL_law_845 dL_law_846 dL_law_848 dL_law_849 dL_law_850 rfl (by omega) ?_
  refine K_c1 hC (N := m_X12_changes) dL_law_851 lk_L_116 mV_X12_changes k2 hd2 (ws_50 hW1) rfl (by decide) (Nat.le_of_ble_eq_true rfl) (Nat.le_of_ble_eq_true rfl) (by omega) (by omega) ?_
  exact K_ic_eq hC 1149 dL_law_854 rfl (fun _ => K_wd (by omega) (by omega) (k h2 hI2)) (fun z => absurd rfl z)
set_option maxHeartbeats 2000000 in
theorem L_know (hC : lw_X p s m meth c bs L xs D sa cy) {i : Nat} {o5 o6 : Option Value} (hI : INV h) (hi : i + 6 ≤ L) (hB1 : ce + 3 ≤ 601024) (hB2 : sl + 400 ≤ 7293034) (k : ∀ h2, INV h2 → lw_K p lc e s m below meth c bs D sa cy (ce + 3) (sl + 400) 1149 (lwl i o5 o6) [] h2) : lw_K p lc e s m below meth c bs D sa cy ce sl 859 (lwl i o5 o6) [] h := by
  have hL := hC.2.2.2
  obtain ⟨x, h1, h2, d1, d2, hd1, hd2, k1, k2, hW1, hI2, t1, u1, t2, u2⟩ := p_know hI (x := xs (i + 1)) (z := decide (¬ xs (i + 2) = 0))
  have hW : Wd h := by obtain ⟨_, _, _, _, _, _, _, _, _, _, _, _, _, _, _, _, _, _, m⟩ := hI; exact m.1.1
  refine K_ld hC (v := .ref 0) (x := 1) dL_law_859 rfl rfl ?_
  refine K_arg hC (j := 1) dL_law_860 dL_law_861 dL_law_863 dL_law_864 dL_law_865 rfl (by omega) ?_
  refine K_arg hC (j := 2) dL_law_866 dL_law_867 dL_law_869 dL_law_870 dL_law_871 rfl (by omega) ?_
  refine K_bool hC dL_law_872 dL_law_875 dL_law_876 dL_law_879 ?_
  refine K_c2 hC (N := m_X11_know) dL_law_880 lk_L_117 mV_X11_know k1 hd1 (ws_0 hW) rfl (by decide) (Nat.le_of_ble_eq_true rfl) (Nat.le_of_ble_eq_true rfl) (by omega) (by omega) ?_
  refine K_ld hC (v := .ref 50) (x := 2) dL_law_883 rfl rfl ?_
  refine K_arg hC (j := 1) dL_law_884 dL_law_885 dL_law_887 dL_law_888 dL_law_889 rfl (by omega) ?_
  refine K_arg hC (j := 2) dL_law_890 dL_law_891 dL_law_893 dL_law_894 dL_law_895 rfl (by omega) ?_
  refine K_bool hC dL_law_896 dL_law_899 dL_law_900 dL_law_903 ?_
  refine K_c2 hC (N := m_X12_know) dL_law_904 lk_L_121 mV_X12_know k2 hd2 (ws_50 hW1) rfl (by decide) (Nat.le_of_ble_eq_true rfl) (Nat.le_of_ble_eq_true rfl) (by omega) (by omega) ?_
  exact K_ic_eq hC 1149 dL_law_907 rfl (fun _ => K_wd (by omega) (by omega) (k h2 hI2)) (fun z => absurd rfl z)
set_option maxHeartbeats 2000000 in
theorem L_fits (hC : lw_X p s m meth c bs L xs D sa cy) {i : Nat} {o5 o6 : Option Value} (hI : INV h) (hi : i + 6 ≤ L) (hB1 : ce + 3 ≤ 601024) (hB2 : sl + 400 ≤ 7293034) (k : ∀ h2, INV h2 → lw_K p lc e s m below meth c bs D sa cy (ce + 3) (sl + 400) 1149 (lwl i o5 o6) [] h2) : lw_K p lc e s m below meth c bs D sa cy ce sl 912 (lwl i o5 o6) [] h := by
  have hL := hC.2.2.2
  obtain ⟨x, h1, h2, d1, d2, hd1, hd2, k1, k2, hW1, hI2, t1, u1, t2, u2⟩ := p_fits hI (x := xs (i + 1))
  have hW : Wd h := by obtain ⟨_, _, _, _, _, _, _, _, _, _, _, _, _, _, _, _, _, _, m⟩ := hI; exact m.1.1
  refine K_ld hC (v := .ref 0) (x := 1) dL_law_912 rfl rfl ?_
  refine K_arg hC (j := 1) dL_law_913 dL_law_914 dL_law_916 dL_law_917 dL_law_918 rfl (by omega) ?_
  refine K_c1 hC (N := m_X11_fits) dL_law_919 lk_L_122 mV_X11_fits k1 hd1 (ws_0 hW) rfl (by decide) (Nat.le_of_ble_eq_true rfl) (Nat.le_of_ble_eq_true rfl) (by omega) (by omega) ?_
  refine K_ld hC (v := .ref 50) (x := 2) dL_law_922 rfl rfl ?_
  refine K_arg hC (j := 1) dL_law_923 dL_law_924 dL_law_926 dL_law_927 dL_law_928 rfl (by omega) ?_
  refine K_c1 hC (N := m_X12_fits) dL_law_929 lk_L_125 mV_X12_fits k2 hd2 (ws_50 hW1) rfl (by decide) (Nat.le_of_ble_eq_true rfl) (Nat.le_of_ble_eq_true rfl) (by omega) (by omega) ?_
  exact K_ic_eq hC 1149 dL_law_932 rfl (fun _ => K_wd (by omega) (by omega) (k h2 hI2)) (fun z => absurd rfl z)
set_option maxHeartbeats 2000000 in
theorem L_sure (hC : lw_X p s m meth c bs L xs D sa cy) {i : Nat} {o5 o6 : Option Value} (hI : INV h) (hi : i + 6 ≤ L) (hB1 : ce + 3 ≤ 601024) (hB2 : sl + 400 ≤ 7293034) (k : ∀ h2, INV h2 → lw_K p lc e s m below meth c bs D sa cy (ce + 3) (sl + 400) 1149 (lwl i o5 o6) [] h2) : lw_K p lc e s m below meth c bs D sa cy ce sl 937 (lwl i o5 o6) [] h := by
  have hL := hC.2.2.2
  obtain ⟨x, h1, h2, d1, d2, hd1, hd2, k1, k2, hW1, hI2, t1, u1, t2, u2⟩ := p_sure hI (z := decide (¬ xs (i + 1) = 0))
  have hW : Wd h := by obtain ⟨_, _, _, _, _, _, _, _, _, _, _, _, _, _, _, _, _, _, m⟩ := hI; exact m.1.1
  refine K_ld hC (v := .ref 0) (x := 1) dL_law_937 rfl rfl ?_
  refine K_arg hC (j := 1) dL_law_938 dL_law_939 dL_law_941 dL_law_942 dL_law_943 rfl (by omega) ?_
  refine K_bool hC dL_law_944 dL_law_947 dL_law_948 dL_law_951 ?_
  refine K_c1 hC (N := m_X11_sure) dL_law_952 lk_L_126 mV_X11_sure k1 hd1 (ws_0 hW) rfl (by decide) (Nat.le_of_ble_eq_true rfl) (Nat.le_of_ble_eq_true rfl) (by omega) (by omega) ?_
  refine K_ld hC (v := .ref 50) (x := 2) dL_law_955 rfl rfl ?_
  refine K_arg hC (j := 1) dL_law_956 dL_law_957 dL_law_959 dL_law_960 dL_law_961 rfl (by omega) ?_
  refine K_bool hC dL_law_962 dL_law_965 dL_law_966 dL_law_969 ?_
  refine K_c1 hC (N := m_X12_sure) dL_law_970 lk_L_130 mV_X12_sure k2 hd2 (ws_50 hW1) rfl (by decide) (Nat.le_of_ble_eq_true rfl) (Nat.le_of_ble_eq_true rfl) (by omega) (by omega) ?_
  exact K_ic_eq hC 1149 dL_law_973 rfl (fun _ => K_wd (by omega) (by omega) (k h2 hI2)) (fun z => absurd rfl z)
set_option maxHeartbeats 2000000 in
theorem L_seed (hC : lw_X p s m meth c bs L xs D sa cy) {i : Nat} {o5 o6 : Option Value} (hI : INV h) (hi : i + 6 ≤ L) (hB1 : ce + 3 ≤ 601024) (hB2 : sl + 400 ≤ 7293034) (k : ∀ h2, INV h2 → lw_K p lc e s m below meth c bs D sa cy (ce + 3) (sl + 400) 1149 (lwl i o5 o6) [] h2) : lw_K p lc e s m below meth c bs D sa cy ce sl 978 (lwl i o5 o6) [] h := by
  have hL := hC.2.2.2
  obtain ⟨x, h1, h2, d1, d2, hd1, hd2, k1, k2, hW1, hI2, t1, u1, t2, u2⟩ := p_seed hI (s := ((xs (i + 1)).toInt64 <<< ((Int32.ofInt 32).toInt64 &&& 63)) ||| ((xs (i + 2)).toInt64 &&& 4294967295))
  have hW : Wd h := by obtain ⟨_, _, _, _, _, _, _, _, _, _, _, _, _, _, _, _, _, _, m⟩ := hI; exact m.1.1
  refine K_ld hC (v := .ref 0) (x := 1) dL_law_978 rfl rfl ?_
  refine K_arg hC (j := 1) dL_law_979 dL_law_980 dL_law_982 dL_law_983 dL_law_984 rfl (by omega) ?_
  refine K_pu hC dL_law_985 rfl ?_
  refine K_pu hC dL_law_986 rfl ?_
  refine K_pu hC dL_law_988 rfl ?_
  refine K_arg hC (j := 2) dL_law_989 dL_law_990 dL_law_992 dL_law_993 dL_law_994 rfl (by omega) ?_
  refine K_pu hC dL_law_995 rfl ?_
  refine K_ldc2 hC dL_law_996 kc_L_131 ?_
  refine K_pu hC dL_law_999 rfl ?_
  refine K_pu hC dL_law_1000 rfl ?_
  refine K_c1 hC (N := m_X11_seed) dL_law_1001 lk_L_133 mV_X11_seed k1 hd1 (ws_0 hW) rfl (by decide) (Nat.le_of_ble_eq_true rfl) (Nat.le_of_ble_eq_true rfl) (by omega) (by omega) ?_
  refine K_ld hC (v := .ref 50) (x := 2) dL_law_1004 rfl rfl ?_
  refine K_arg hC (j := 1) dL_law_1005 dL_law_1006 dL_law_1008 dL_law_1009 dL_law_1010 rfl (by omega) ?_
  refine K_pu hC dL_law_1011 rfl ?_
  refine K_pu hC dL_law_1012 rfl ?_
  refine K_pu hC dL_law_1014 rfl ?_
  refine K_arg hC (j := 2) dL_law_1015 dL_law_1016 dL_law_1018 dL_law_1019 dL_law_1020 rfl (by omega) ?_
  refine K_pu hC dL_law_1021 rfl ?_
  refine K_ldc2 hC dL_law_1022 kc_L_131 ?_
  refine K_pu hC dL_law_1025 rfl ?_
  refine K_pu hC dL_law_1026 rfl ?_
  refine K_c1 hC (N := m_X12_seed) dL_law_1027 lk_L_137 mV_X12_seed k2 hd2 (ws_50 hW1) rfl (by decide) (Nat.le_of_ble_eq_true rfl) (Nat.le_of_ble_eq_true rfl) (by omega) (by omega) ?_
  exact K_ic_eq hC 1149 dL_law_1030 rfl (fun _ => K_wd (by omega) (by omega) (k h2 hI2)) (fun z => absurd rfl z)
set_option maxHeartbeats 2000000 in
theorem L_sitting (hC : lw_X p s m meth c bs L xs D sa cy) {i : Nat} {o5 o6 : Option Value} (hI : INV h) (hi : i + 6 ≤ L) (hB1 : ce + 3 ≤ 601024) (hB2 : sl + 400 ≤ 7293034) (k : ∀ h2, INV h2 → lw_K p lc e s m below meth c bs D sa cy (ce + 3) (sl + 400) 1149 (lwl i o5 o6) [] h2) : lw_K p lc e s m below meth c bs D sa cy ce sl 1035 (lwl i o5 o6) [] h := by
  have hL := hC.2.2.2
  obtain ⟨x, h1, h2, d1, d2, hd1, hd2, k1, k2, hW1, hI2, t1, u1, t2, u2⟩ := p_sitting hI
  have hW : Wd h := by obtain ⟨_, _, _, _, _, _, _, _, _, _, _, _, _, _, _, _, _, _, m⟩ := hI; exact m.1.1
  refine K_ld hC (v := .ref 0) (x := 1) dL_law_1035 rfl rfl ?_
  refine K_c0 hC (N := m_X11_sitting) dL_law_1036 lk_L_138 mV_X11_sitting k1 hd1 (ws_0 hW) rfl (by decide) (Nat.le_of_ble_eq_true rfl) (Nat.le_of_ble_eq_true rfl) (by omega) (by omega) ?_
  refine K_ld hC (v := .ref 50) (x := 2) dL_law_1039 rfl rfl ?_
  refine K_c0 hC (N := m_X12_sitting) dL_law_1040 lk_L_141 mV_X12_sitting k2 hd2 (ws_50 hW1) rfl (by decide) (Nat.le_of_ble_eq_true rfl) (Nat.le_of_ble_eq_true rfl) (by omega) (by omega) ?_
  exact K_ic_eq hC 1149 dL_law_1043 rfl (fun _ => K_wd (by omega) (by omega) (k h2 hI2)) (fun z => absurd rfl z)
set_option maxHeartbeats 2000000 in
theorem L_sat (hC : lw_X p s m meth c bs L xs D sa cy) {i : Nat} {o5 o6 : Option Value} (hI : INV h) (hi : i + 6 ≤ L) (hB1 : ce + 3 ≤ 601024) (hB2 : sl + 400 ≤ 7293034) (k : ∀ h2, INV h2 → lw_K p lc e s m below meth c bs D sa cy (ce + 3) (sl + 400) 1149 (lwl i o5 o6) [] h2) : lw_K p lc e s m below meth c bs D sa cy ce sl 1048 (lwl i o5 o6) [] h := by
  have hL := hC.2.2.2
  obtain ⟨x, h1, h2, d1, d2, hd1, hd2, k1, k2, hW1, hI2, t1, u1, t2, u2⟩ := p_sat hI (x1 := xs (i + 1)) (x2 := xs (i + 2))
  have hW : Wd h := by obtain ⟨_, _, _, _, _, _, _, _, _, _, _, _, _, _, _, _, _, _, m⟩ := hI; exact m.1.1
  refine K_ld hC (v := .ref 0) (x := 1) dL_law_1048 rfl rfl ?_
  refine K_arg hC (j := 1) dL_law_1049 dL_law_1050 dL_law_1052 dL_law_1053 dL_law_1054 rfl (by omega) ?_
  refine K_arg hC (j := 2) dL_law_1055 dL_law_1056 dL_law_1058 dL_law_1059 dL_law_1060 rfl (by omega) ?_
  refine K_c2 hC (N := m_X11_sat) dL_law_1061 lk_L_142 mV_X11_sat k1 hd1 (ws_0 hW) rfl (by decide) (Nat.le_of_ble_eq_true rfl) (Nat.le_of_ble_eq_true rfl) (by omega) (by omega) ?_
  refine K_ld hC (v := .ref 50) (x := 2) dL_law_1064 rfl rfl ?_
  refine K_arg hC (j := 1) dL_law_1065 dL_law_1066 dL_law_1068 dL_law_1069 dL_law_1070 rfl (by omega) ?_
  refine K_arg hC (j := 2) dL_law_1071 dL_law_1072 dL_law_1074 dL_law_1075 dL_law_1076 rfl (by omega) ?_
  refine K_c2 hC (N := m_X12_sat) dL_law_1077 lk_L_145 mV_X12_sat k2 hd2 (ws_50 hW1) rfl (by decide) (Nat.le_of_ble_eq_true rfl) (Nat.le_of_ble_eq_true rfl) (by omega) (by omega) ?_
  exact K_ic_eq hC 1149 dL_law_1080 rfl (fun _ => K_wd (by omega) (by omega) (k h2 hI2)) (fun z => absurd rfl z)
set_option maxHeartbeats 2000000 in
theorem L_undo (hC : lw_X p s m meth c bs L xs D sa cy) {i : Nat} {o5 o6 : Option Value} (hI : INV h) (hi : i + 6 ≤ L) (hB1 : ce + 3 ≤ 601024) (hB2 : sl + 400 ≤ 7293034) (k : ∀ h2, INV h2 → lw_K p lc e s m below meth c bs D sa cy (ce + 3) (sl + 400) 1149 (lwl i o5 o6) [] h2) : lw_K p lc e s m below meth c bs D sa cy ce sl 1085 (lwl i o5 o6) [] h := by
  have hL := hC.2.2.2
  obtain ⟨x, h1, h2, d1, d2, hd1, hd2, k1, k2, hW1, hI2, t1, u1, t2, u2⟩ := p_undo hI
  have hW : Wd h := by obtain ⟨_, _, _, _, _, _, _, _, _, _, _, _, _, _, _, _, _, _, m⟩ := hI; exact m.1.1
  refine K_ld hC (v := .ref 0) (x := 1) dL_law_1085 rfl rfl ?_
  refine K_c0 hC (N := m_X11_undo) dL_law_1086 lk_L_146 mV_X11_undo k1 hd1 (ws_0 hW) rfl (by decide) (Nat.le_of_ble_eq_true rfl) (Nat.le_of_ble_eq_true rfl) (by omega) (by omega) ?_
  refine K_ld hC (v := .ref 50) (x := 2) dL_law_1089 rfl rfl ?_
  refine K_c0 hC (N := m_X12_undo) dL_law_1090 lk_L_149 mV_X12_undo k2 hd2 (ws_50 hW1) rfl (by decide) (Nat.le_of_ble_eq_true rfl) (Nat.le_of_ble_eq_true rfl) (by omega) (by omega) ?_
  exact K_ic_eq hC 1149 dL_law_1093 rfl (fun _ => K_wd (by omega) (by omega) (k h2 hI2)) (fun z => absurd rfl z)
set_option maxHeartbeats 2000000 in
theorem L_image (hC : lw_X p s m meth c bs L xs D sa cy) {i : Nat} {o5 o6 : Option Value} (hI : INV h) (hi : i + 6 ≤ L) (hB1 : ce + 3 ≤ 601024) (hB2 : sl + 400 ≤ 7293034) (k : ∀ h2, INV h2 → lw_K p lc e s m below meth c bs D sa cy (ce + 3) (sl + 400) 1149 (lwl i o5 o6) [] h2) : lw_K p lc e s m below meth c bs D sa cy ce sl 1098 (lwl i o5 o6) [] h := by
  have hL := hC.2.2.2
  obtain ⟨x, h1, h2, d1, d2, hd1, hd2, k1, k2, hW1, hI2, t1, u1, t2, u2⟩ := p_image hI
  have hW : Wd h := by obtain ⟨_, _, _, _, _, _, _, _, _, _, _, _, _, _, _, _, _, _, m⟩ := hI; exact m.1.1
  refine K_ld hC (v := .ref 0) (x := 1) dL_law_1098 rfl rfl ?_
  refine K_c0 hC (N := m_X11_image) dL_law_1099 lk_L_150 mV_X11_image k1 hd1 (ws_0 hW) rfl (by decide) (Nat.le_of_ble_eq_true rfl) (Nat.le_of_ble_eq_true rfl) (by omega) (by omega) ?_
  refine K_ld hC (v := .ref 50) (x := 2) dL_law_1102 rfl rfl ?_
  refine K_c0 hC (N := m_X12_image) dL_law_1103 lk_L_153 mV_X12_image k2 hd2 (ws_50 hW1) rfl (by decide) (Nat.le_of_ble_eq_true rfl) (Nat.le_of_ble_eq_true rfl) (by omega) (by omega) ?_
  exact K_ic_eq hC 1149 dL_law_1106 rfl (fun _ => K_wd (by omega) (by omega) (k h2 hI2)) (fun z => absurd rfl z)
set_option maxHeartbeats 2000000 in
theorem L_back (hC : lw_X p s m meth c bs L xs D sa cy) {i : Nat} {o5 o6 : Option Value} (hI : INV h) (hi : i + 6 ≤ L) (hB1 : ce + 3 ≤ 601024) (hB2 : sl + 400 ≤ 7293034) (k : ∀ h2, INV h2 → lw_K p lc e s m below meth c bs D sa cy (ce + 3) (sl + 400) 1149 (lwl i o5 o6) [] h2) : lw_K p lc e s m below meth c bs D sa cy ce sl 1111 (lwl i o5 o6) [] h := by
  have hL := hC.2.2.2
  obtain ⟨x, h1, h2, d1, d2, hd1, hd2, k1, k2, hW1, hI2, t1, u1, t2, u2⟩ := p_back hI
  have hW : Wd h := by obtain ⟨_, _, _, _, _, _, _, _, _, _, _, _, _, _, _, _, _, _, m⟩ := hI; exact m.1.1
  refine K_ld hC (v := .ref 0) (x := 1) dL_law_1111 rfl rfl ?_
  refine K_c0 hC (N := m_X11_back) dL_law_1112 lk_L_154 mV_X11_back k1 hd1 (ws_0 hW) rfl (by decide) (Nat.le_of_ble_eq_true rfl) (Nat.le_of_ble_eq_true rfl) (by omega) (by omega) ?_
  refine K_ld hC (v := .ref 50) (x := 2) dL_law_1115 rfl rfl ?_
  refine K_c0 hC (N := m_X12_back) dL_law_1116 lk_L_157 mV_X12_back k2 hd2 (ws_50 hW1) rfl (by decide) (Nat.le_of_ble_eq_true rfl) (Nat.le_of_ble_eq_true rfl) (by omega) (by omega) ?_
  exact K_ic_eq hC 1149 dL_law_1119 rfl (fun _ => K_wd (by omega) (by omega) (k h2 hI2)) (fun z => absurd rfl z)
set_option maxHeartbeats 2000000 in
theorem L_count (hC : lw_X p s m meth c bs L xs D sa cy) {i : Nat} {o5 o6 : Option Value} (hI : INV h) (hi : i + 6 ≤ L) (hB1 : ce + 3 ≤ 601024) (hB2 : sl + 400 ≤ 7293034) (k : ∀ h2, INV h2 → lw_K p lc e s m below meth c bs D sa cy (ce + 3) (sl + 400) 1149 (lwl i o5 o6) [] h2) : lw_K p lc e s m below meth c bs D sa cy ce sl 1124 (lwl i o5 o6) [] h := by
  have hL := hC.2.2.2
  obtain ⟨x, h1, h2, d1, d2, hd1, hd2, k1, k2, hW1, hI2, t1, u1, t2, u2⟩ := p_count hI (x := xs (i + 1))
  have hW : Wd h := by obtain ⟨_, _, _, _, _, _, _, _, _, _, _, _, _, _, _, _, _, _, m⟩ := hI; exact m.1.1
  refine K_ld hC (v := .ref 0) (x := 1) dL_law_1124 rfl rfl ?_
  refine K_arg hC (j := 1) dL_law_1125 dL_law_1126 dL_law_1128 dL_law_1129 dL_law_1130 rfl (by omega) ?_
  refine K_c1 hC (N := m_X11_count) dL_law_1131 lk_L_158 mV_X11_count k1 hd1 (ws_0 hW) rfl (by decide) (Nat.le_of_ble_eq_true rfl) (Nat.le_of_ble_eq_true rfl) (by omega) (by omega) ?_
  refine K_ld hC (v := .ref 50) (x := 2) dL_law_1134 rfl rfl ?_
  refine K_arg hC (j := 1) dL_law_1135 dL_law_1136 dL_law_1138 dL_law_1139 dL_law_1140 rfl (by omega) ?_
  refine K_c1 hC (N := m_X12_count) dL_law_1141 lk_L_161 mV_X12_count k2 hd2 (ws_50 hW1) rfl (by decide) (Nat.le_of_ble_eq_true rfl) (Nat.le_of_ble_eq_true rfl) (by omega) (by omega) ?_
  exact K_ic_eq hC 1149 dL_law_1144 rfl (fun _ => K_wd (by omega) (by omega) (k h2 hI2)) (fun z => absurd rfl z)
end LWC
