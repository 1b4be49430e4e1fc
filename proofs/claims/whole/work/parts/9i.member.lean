/-! member: the law's own method, and its case -/
theorem mb_ofWH {l : Launch} {y : MethodName} {ws ws' : List Cond} {rm : Room} {Pc : Array Value → State → Prop} {Qc : Array Value → State → Outcome → State → Prop} {mc ms : Nat} {free : Addr → Prop} {cc : ByteArray} {maxL : Nat} {ret : Option FieldType} {hh : List (Nat × Nat × Nat × Nat)} (hy : plainName y.cls = true) (hw : ws = Cond.codeWith y cc maxL ret hh :: ws')
    (body : ∀ p e s m args below meth c s₁, BodyLoose p l y (headSpec ws rm) cc maxL ret e s m args below meth c s₁ → c.maxLocals = maxL → Pc args s → W p l e (headSpec ws rm).room s m args below meth c s.heap [] 0 0 (MQ below Qc args s mc ms free) (entryFrame m args maxL)) : Met l y ws rm Pc Qc mc ms free := by
  refine MetFree.of_bodyS (code := cc) (maxLocals := maxL) (ret := ret) hy ?_ ?_
  · intro args s m h hn
    obtain ⟨m9, meth, c, hn9, h1, h2, h3, h4, -, h5, h6, -⟩ := Cond.codeWith_spec (atoms_spec (ws := ws) h _ (by rw [hw]; exact List.mem_cons_self))
    cases hn.symm.trans hn9
    exact ⟨meth, c, h1, h2, h3, h4, h5, h6⟩
  · intro p e s m args below meth c s₁ B hml hP _
    have hh0 : s₁.heap = s.heap := by rw [B.state]; rfl
    obtain ⟨t, a1, o, b1, b2, b3⟩ := body p e s m args below meth c s₁ B hml hP s₁ hh0 (Stand.of_body B)
    exact ⟨t, o, a1, b1, b2, ⟨b3.1, b3.2⟩⟩
abbrev mbh : List (Nat × Nat × Nat × Nat) := [(0, 10, 13, 13)]
abbrev mbws : List Cond := Cond.codeWith yL_member cL_member 5 (some .int) mbh :: am_GT
theorem mb_cw : Cond.codeWith yL_member cL_member 5 (some .int) mbh ∈ lw_tbl := by decide +kernel
theorem mb_st : Cond.static yL_member ∈ lw_tbl := by decide +kernel
theorem mb_iL : Cond.initialized RL ∈ lw_tbl := by decide +kernel
theorem mb_good : GoodIn am_GT (va_wsS RL 38 yL_member mbws) := by
  intro w hw
  unfold va_wsS at hw
  simp only [List.cons_append, List.nil_append, List.mem_cons] at hw
  rcases hw with rfl | rfl | rfl | rfl | hw
  · exact ⟨am_gt tw_1083 rfl, good_of_word rfl⟩
  · exact ⟨am_gt mb_st rfl, good_of_word rfl⟩
  · exact ⟨am_gt mb_iL rfl, good_of_word rfl⟩
  · exact ⟨am_gt mb_cw rfl, good_of_word rfl⟩
  · exact ⟨hw, good_of_word (List.mem_filter.mp hw).2⟩
abbrev mbR2 : Room := { frames := 40, cells := 1, slots := 6, locals := 3000 }
abbrev mbQ1 (D : va_G) (b : Nat) (cy : Nat → ClassId) (h : am_H) : Array Value → State → Outcome → State → Prop := va_Qi (S := Nat) (fun r k => r = nI 1 ∧ am_t h ≤ k) (fun k t => am_Hp D b cy (gr h k) t.heap) (am_A b)
set_option maxHeartbeats 4000000 in
theorem mb_L {l : Launch} {D : va_G} {b : Nat} {sa : Nat → Nat} {cy : Nat → ClassId} {h : am_H} {n : Nat} {g : Bool} {F : Nat → Nat → Nat} {x1 x2 : Int32} (hst : l.stackTraces = false) (hW : Wd h) (hM : MB h n g F) (hbad : rg x1 n = none ∨ rg x2 10 = none) : Met l yL_member mbws mbR2 (mbPc D b sa cy h [.ref 0, .int x1, .int x2, .ref 79]) (mbQ1 D b cy h) 1 6 (am_A b) := by
  refine mb_ofWH (cc := cL_member) (maxL := 5) (ret := some .int) (hh := mbh) (by decide +kernel) rfl ?_
  intro p e s m args below meth c s₁ B hml hP
  obtain ⟨rfl, ⟨hG, hH⟩, hZ⟩ := hP
  have htw := atoms_spec (ws := mbws) B.pre
  have hts : ∀ w ∈ am_GT, w.before _ s = true := fun w hw => htw w (List.mem_cons_of_mem _ hw)
  have hx := B.exec
  have hb := B.bytes
  have hown : s.vm.findClass RL = some m.cls := findClass_of_methodNamed B.named
  have htab : c.exceptionTable.toList = tableOf mbh := vx_table (x := yL_member) B (htw _ List.mem_cons_self)
  have hl := am_entry (b := b) (sa := sa) [.ref 0, .int x1, .int x2, .ref 79] (n := 5) (Nat.le_of_ble_eq_true rfl)
  rw [lg_entry_eq]
  generalize (lg_sl (([.ref 0, .int x1, .int x2, .ref 79] : List Value).map (am_tv b sa)) ++ List.replicate (5 - (lg_sl (([.ref 0, .int x1, .int x2, .ref 79] : List Value).map (am_tv b sa))).length) Slot.unset).toArray = ls at hl ⊢
  have l0 : ls[0]? = some (.val (.ref (b + 0))) := hl.2.2 0 (.ref 0) rfl
  have l1 : ls[1]? = some (.val (.int x1)) := hl.2.2 1 (.int x1) rfl
  have l2 : ls[2]? = some (.val (.int x2)) := hl.2.2 2 (.int x2) rfl
  have l3 : ls[3]? = some (.val (.ref (b + 79))) := hl.2.2 3 (.ref 79) rfl
  refine lv_aload_n hx hb dL_member_0 rfl l3 ?_
  refine lv_iconst hx hb dL_member_1 rfl ?_
  refine lv_aload_n hx hb dL_member_2 rfl l0 ?_
  refine lv_iload_n hx hb dL_member_3 rfl l1 ?_
  refine lv_iload_n hx hb dL_member_4 rfl l2 ?_
  obtain ⟨q, -, hq⟩ := am_find hH (ws_0 hW)
  rw [am_ce_ob (ws_0 hW) (by decide)] at hq
  have hrec := va_recv hG.1 hH.1 (show vwCl[11]? = some (RX11, TX11, 17) from rfl) hq
  refine vx_calli (vx_runV (As := [.int x1, .int x2]) (rest := [.int (Int32.ofInt 0), .ref (b + 79)]) ⟨hx, hb, hml, hown, hts⟩ (mb_X (sa := sa) hst hW hM hbad) ⟨callB_of 2 hts (am_good mV_X11_member.1.1) rfl rfl rfl (hts _ (am_gt mV_X11_member.1.2.1 rfl)) (hts _ (am_gt tw_1087 rfl)) mV_X11_member.1.2.2.2.1 ⟨by decide, by decide⟩, hts _ (am_gt mV_X11_member.2.1 rfl), hts _ (am_gt mV_X11_member.2.2 rfl)⟩ ⟨mb_blind, hrec, fun U hU hW9 => ⟨rfl, ⟨hG.call hW9 hU va_S.rf, by rw [hU]; exact hH⟩, mbZ.call hZ hW9 hU va_S.rf⟩⟩ rfl rfl hl.1 rfl (lv_room (Nat.le_of_ble_eq_true rfl)) dL_member_5 ⟨by decide, by decide⟩) va_S.rf (fun _ _ z => z) (fun _ z => z) (fun _ _ z => z) ?_ (fun r u t H1 locs1 _ _ hp => hp.elim)
  intro E ce q9 u t H1 locs1 hth ha _ hBX hsz ho hS1 hce hcv hcl
  obtain ⟨rfl, k, hk, hHp⟩ := hBX
  refine uc_catch (own := RL) (name := NSE) hown ⟨0, 10, 13, 13⟩ [] (by rw [htab]; rfl) rfl (by decide) (hts _ (am_gt cl_L_13 rfl)) (va_tabs (mbB_ot _ (by simp)) rfl (hZ.2.2 (.castable NSE NSE) (by simp))) hce hcv hcl ?_
  refine lv_astore hx hb dL_member_13 (⟨hl.1, hl.2.1, fun q hq => nomatch hq⟩ : lv_has ls 5 []) (by decide) rfl (fun ls' _ => ?_)
  refine lv_iconst hx hb dL_member_15 rfl ?_
  exact W.iret (v := nI 1) hx hb B.returns (fun t ht hW => ⟨⟨nI 1, k, rfl, ⟨rfl, hk⟩, by show am_Hp D b cy (gr h k) _; rw [ht, ← hth]; exact hHp⟩, hS1.F ht⟩) hS1.2.2 dL_member_16 B.notSynchronized
theorem mb_met {lc : Launch} {D : va_G} {b : Nat} {sa : Nat → Nat} {cy : Nat → ClassId} {d : Nat} {vs : List Value} {h : am_H} {o : am_O} (hS : am_Sem d m_L_member 0 (am_en 5 vs) [] h o) (hlen : (am_ea vs).length ≤ 5) : Met lc yL_member mbws (am_rm d h o) (am_Pc D b sa cy h vs) (am_Q D b sa cy o) (am_t o.2 - am_t h) (am_u o.2 - am_u h) (am_A b) := by
  refine mb_ofWH (cc := cL_member) (maxL := 5) (ret := some .int) (hh := mbh) (by decide +kernel) rfl ?_
  intro p e s m args below meth c s₁ B hml hv
  obtain ⟨rfl, hG, hH⟩ := hv
  have hts := atoms_spec (ws := mbws) B.pre
  have hl := am_entry (b := b) (sa := sa) vs hlen
  rw [lg_entry_eq]
  have m1 := hS.1.1
  have m2 := hS.1.2
  exact hS.2 lc D b sa cy p e (am_rm d h o) s m _ below meth c (am_t o.2 - am_t h) (am_u o.2 - am_u h) ⟨B.exec, B.bytes, B.returns, hml, findClass_of_methodNamed B.named, (name_of_methodNamed B.named B.method).1, B.notSynchronized, fun w hw hg => hts w (List.mem_cons_of_mem _ (am_gt hw hg)), hG, Nat.le_refl _, Nat.le_refl _⟩ (Nat.le_refl _) (Nat.le_refl _) s.heap [] 0 0 _ hH va_S.rf hl (by omega) (by omega)
theorem IV.gr {h : am_H} {n : Nat} {g : Bool} {F : Nat → Nat → Nat} {S T : Nat → Nat} {tl : Nat} {tp : Nat → Nat} {mc : Nat} {Z : Nat → ZT} {hold : Option Nat} {kn : Nat} {ks : Nat → Nat} {ky : Nat → Bool} {hd : Nat} {y : Nat → Nat} {p : Nat → Bool} {st : Nat → Int64} {dr : Int64} (m : IV h n g F S T tl tp mc Z hold kn ks ky hd y p st dr) {k : Nat} (hk : am_t h ≤ k) : IV (gr h k) n g F S T tl tp mc Z hold kn ks ky hd y p st dr := by
  obtain ⟨⟨w1, w2⟩, m1, m2, m3, m4, m5, m6, m7, m8, m9⟩ := m
  refine ⟨⟨⟨w1.1, w1.2⟩, Nat.le_trans w2 hk⟩, m1, m2, ⟨m3.1, m3.2.1, m3.2.2.1, fun j hj => (m3.2.2.2.1 j hj).to rfl (fun _ _ _ => ⟨rfl, rfl⟩) rfl (m3.2.2.2.1 j hj).2.2.2.1 hk, m3.2.2.2.2⟩, m4, m5, m6, m7, m8, m9⟩
section LWM
variable {p : Program} {lc : Launch} {e : Env} {s : State} {m : MethodId} {below : List Frame} {meth : Method} {c : Code} {bs L : Nat} {xs : Nat → Int32} {D : va_G} {sa : Nat → Nat} {cy : Nat → ClassId} {ce sl pc : Nat} {l : List (Option Value)} {st : List Value} {h : am_H}
theorem lw_mbZ (hC : lw_X p s m meth c bs L xs D sa cy) : mbZ s.heap.size s := by
  obtain ⟨⟨hx, hb, hr, hml, hown, hts, hX, hbl, hlocks, hgv⟩, hG, hsa, hL⟩ := id hC
  have hs := flat_of_before _ hgv
  have hA : ∀ a : Nat, a < s.heap.size → ¬ am_A s.heap.size a := fun a ha => Nat.not_le.mpr ha
  have hi : Cond.initialized Bundle.tN ∈ lw_tbl := by decide +kernel
  exact ⟨vx_Zqof (hts (.laysStatic Bundle.tN "UNASSIGNED_STACK" Bundle.steD) (by decide +kernel)) (hts _ hi) (hs (.isRef (.static Bundle.tN "UNASSIGNED_STACK" Bundle.steD)) (by decide +kernel)) hA, vx_Zqof (hts (.laysStatic Bundle.tN "SUPPRESSED_SENTINEL" Bundle.listD) (by decide +kernel)) (hts _ hi) (hs (.isRef (.static Bundle.tN "SUPPRESSED_SENTINEL" Bundle.listD)) (by decide +kernel)) hA, fun w hw => va_tabs (mbB_ot w hw) rfl (hts w (mbB_in w hw))⟩
set_option maxHeartbeats 4000000 in
theorem K_mN (hC : lw_X p s m meth c bs L xs D sa cy) {n : Nat} {g : Bool} {F : Nat → Nat → Nat} {x1 x2 : Int32} (hst : lc.stackTraces = false) (hW : Wd h) (hM : MB h n g F) (hbad : rg x1 n = none ∨ rg x2 10 = none) (h1 : ce + 1 ≤ 601024) (h2 : sl + 6 ≤ 7293034) (k : ∀ k, am_t h ≤ k → lw_K p lc e s m below meth c bs D sa cy (ce + 1) (sl + 6) 345 l [.int (nI 1)] (gr h k)) : lw_K p lc e s m below meth c bs D sa cy ce sl 342 l [.ref 79, .int x2, .int x1, .ref 0] h := by
  intro H locs ls hH hS hl
  have hZ := lw_mbZ hC
  obtain ⟨⟨hx, hb, hr, hml, hown, hts, hX, hbl, hlocks, hgv⟩, hG, hsa, hL⟩ := id hC
  subst hsa
  obtain ⟨b, hbe⟩ : ∃ b, b = s.heap.size := ⟨_, rfl⟩
  rw [← hbe] at hH hS hl hG hZ
  have k := fun kk9 z9 H locs ls a1 a2 a3 => k kk9 z9 H locs ls (by rw [← hbe]; exact a1) (by rw [← hbe]; exact a2) (by rw [← hbe]; exact a3)
  rw [← hbe] at k ⊢
  have hts' : ∀ w ∈ am_GT, w.before #[Value.ref (sa 4)] s = true := fun w hw => hts w (List.mem_filter.mp hw).1
  refine va_calli (vx_runSW (As := [.ref (b + 0), .int x1, .int x2, .ref (b + 79)]) (rest := []) ⟨hx, hb, hml, hown, hts'⟩ (mb_L (sa := sa) hst hW hM hbad) (vx_cwSW 4 hts' mb_good rfl rfl rfl ⟨by decide, by decide, by decide +kernel⟩ ⟨by decide, by decide⟩) ⟨mb_blind, fun U hU hW9 => ⟨rfl, ⟨hG.call hW9 hU hS, by rw [hU]; exact hH⟩, mbZ.call hZ hW9 hU hS⟩⟩ rfl rfl hl.1 rfl (lv_room (Nat.le_of_ble_eq_true rfl)) dL_law_342 ⟨h1, h2⟩) hS (fun _ _ z => z) (fun _ z => z) ?_
  intro r u t H1 locs1 hth ha hp hB hsz ho hS1
  obtain ⟨rfl, hk⟩ := hp
  exact k u hk H1 locs1 ls (by rw [← hth]; exact hB) hS1 hl
set_option maxHeartbeats 4000000 in
theorem K_mY (hC : lw_X p s m meth c bs L xs D sa cy) {n : Nat} {g : Bool} {F : Nat → Nat → Nat} {S T : Nat → Nat} {k0 j0 : Nat} (hW : Wd h) (hM : MB h n g F) (hS0 : SB 11 12 13 h n S T) (hk0 : k0 < n) (hj0 : j0 < 10) (h1 : ce ≤ 601024) (h2 : sl ≤ 7293034) (k : lw_K p lc e s m below meth c bs D sa cy ce sl 345 l [.int (nI 0)] (am_wL h 79 0 (mbV n g F S T k0 j0).toInt64)) : lw_K p lc e s m below meth c bs D sa cy ce sl 342 l [.ref 79, .int (nI j0), .int (nI k0), .ref 0] h := by
  intro H locs ls hH hS hl
  obtain ⟨⟨hx, hb, hr, hml, hown, hts, hX, hbl, hlocks, hgv⟩, hG, hsa, hL⟩ := id hC
  subst hsa
  obtain ⟨b, hbe⟩ : ∃ b, b = s.heap.size := ⟨_, rfl⟩
  rw [← hbe] at hH hS hl hG
  have k := fun H locs ls a1 a2 a3 => k H locs ls (by rw [← hbe]; exact a1) (by rw [← hbe]; exact a2) (by rw [← hbe]; exact a3)
  rw [← hbe] at k ⊢
  have hts' : ∀ w ∈ am_GT, w.before #[Value.ref (sa 4)] s = true := fun w hw => hts w (List.mem_filter.mp hw).1
  have hc := c_Lmember hW hM hS0 hk0 hj0
  refine am_goes (v := some (.int (nI 0))) (h1 := am_wL h 79 0 (mbV n g F S T k0 j0).toInt64) (vx_runSW (As := [.ref (b + 0), .int (nI k0), .int (nI j0), .ref (b + 79)]) (rest := []) ⟨hx, hb, hml, hown, hts'⟩ (mb_met (sa := sa) (vs := [.ref 0, .int (nI k0), .int (nI j0), .ref 79]) hc (Nat.le_of_ble_eq_true rfl)) (vx_cwSW 4 hts' mb_good rfl rfl rfl ⟨by decide, by decide, by decide +kernel⟩ ⟨by show 5 + 1 ≤ 2048; decide, by show 8 + (5 + 11) + 64 * 5 ≤ 84000; decide⟩) ⟨am_blind, fun U hU hW9 => ⟨rfl, hG.call hW9 hU hS, by rw [hU]; exact hH⟩⟩ rfl rfl hl.1 rfl (lv_room (Nat.le_of_ble_eq_true rfl)) dL_law_342 ⟨by show ce + (am_t h - am_t h) ≤ 601024; omega, by show sl + (am_u h - am_u h) ≤ 7293034; omega⟩) hS ?_
  intro H1 locs1 hH1 hS1
  have kk := k H1 locs1 ls hH1 hS1 hl
  exact W.widen (k := ce) (n := sl) (by show ce + (am_t h - am_t h) ≤ ce; omega) (by show sl + (am_u h - am_u h) ≤ sl; omega) kk
set_option maxHeartbeats 4000000 in
theorem lw_mem (hC : lw_X p s m meth c bs L xs D sa cy) (hst : lc.stackTraces = false) : LMEM p lc e s m below meth c bs L D sa cy := by
  intro ce sl i o5 o6 h hI hi hB1 hB2 k
  have hL := hC.2.2.2
  obtain ⟨n, g, F, S, T, tl, tp, mc, Z, hold, kn, ks, ky, hd, y, pp, st, dr, m⟩ := hI
  obtain ⟨⟨hW, h80⟩, ⟨hM, hS, hR, h2n, h0g⟩, _⟩ := id m
  refine K_ld hC (v := .ref 0) (x := 1) dL_law_328 rfl rfl ?_
  refine K_arg hC (j := 1) dL_law_329 dL_law_330 dL_law_332 dL_law_333 dL_law_334 rfl (by omega) ?_
  refine K_arg hC (j := 2) dL_law_335 dL_law_336 dL_law_338 dL_law_339 dL_law_340 rfl (by omega) ?_
  refine K_ld hC (v := .ref 79) (x := 3) dL_law_341 rfl rfl ?_
  by_cases hbad : rg (xs (i + 1)) n = none ∨ rg (xs (i + 2)) 10 = none
  · refine K_mN hC hst hW hM hbad (by omega) (by omega) (fun k9 hk9 => ?_)
    have m' := m.gr hk9
    obtain ⟨⟨hW', h80'⟩, ⟨hM', hS', hR', _, _⟩, _⟩ := id m'
    have f : Fx [] [(50, 0)] (gr h k9) (am_wI (gr h k9) 50 0 (nI 1)) := Fx.wI (Or.inr (by decide))
    have m2 := m'.fx f (by simp) (by decide)
    have hW2 := f.Wd hW'
    refine K_so hC (v := .int (nI 1)) (x := 5) (nL := 7) rfl dL_law_345 rfl (by decide) ?_
    refine K_nl (pc' := 347) (l' := lwl i (some (.int (nI 1))) o6) rfl rfl ?_
    refine K_ld hC (v := .ref 50) (x := 2) dL_law_347 rfl rfl ?_
    refine K_arg hC (j := 1) dL_law_348 dL_law_349 dL_law_351 dL_law_352 dL_law_353 rfl (by omega) ?_
    refine K_arg hC (j := 2) dL_law_354 dL_law_355 dL_law_357 dL_law_358 dL_law_359 rfl (by omega) ?_
    refine K_c2 hC (N := m_X12_member) dL_law_360 lk_L_43 mV_X12_member (r_memberN hW' hR' hbad) (by decide) (ws_50 hW') rfl (by decide) (Nat.le_of_ble_eq_true rfl) (Nat.le_of_ble_eq_true rfl) (by show ce + 1 + (am_t (gr h k9) - am_t (gr h k9)) ≤ 601024; omega) (by show sl + 6 + (am_u (gr h k9) - am_u (gr h k9)) ≤ 7293034; omega) ?_
    refine K_so hC (v := .int (nI 0)) (x := 6) (nL := 7) rfl dL_law_363 rfl (by decide) ?_
    refine K_nl (pc' := 365) (l' := lwl i (some (.int (nI 1))) (some (.int (nI 0)))) rfl rfl ?_
    refine K_ld hC (v := .ref 50) (x := 2) dL_law_365 rfl rfl ?_
    refine K_c0 hC (N := m_X12_thrown) dL_law_366 lk_L_44 mV_X12_thrown (r_thrown hW2 wI_e0) (by decide) (ws_50 hW2) rfl (by decide) (Nat.le_of_ble_eq_true rfl) (Nat.le_of_ble_eq_true rfl) (by rw [Nat.sub_self]; show ce + 1 + (am_t (gr h k9) - am_t (gr h k9)) + 0 ≤ 601024; omega) (by rw [Nat.sub_self]; show sl + 6 + (am_u (gr h k9) - am_u (gr h k9)) + 0 ≤ 7293034; omega) ?_
    refine K_ld hC (v := .int (nI 1)) (x := 5) dL_law_369 rfl rfl ?_
    refine K_ic_eq hC 376 dL_law_371 rfl (fun _ => ?_) (fun z => absurd rfl z)
    refine K_ld hC (v := .int (nI 1)) (x := 5) dL_law_376 rfl rfl ?_
    refine K_if_ne hC 393 dL_law_378 rfl (fun _ => ?_) (fun z => absurd z (by decide))
    refine K_goto hC 1149 dL_law_393 rfl ?_
    refine K_wd (ce' := ce + 3) (sl' := sl + 400) ?_ ?_ (k _ _ _ ⟨_, _, _, _, _, _, _, _, _, _, _, _, _, _, _, _, _, _, m2⟩)
    · rw [Nat.sub_self]; show ce + 1 + (am_t (gr h k9) - am_t (gr h k9)) + 0 ≤ ce + 3; omega
    · rw [Nat.sub_self]; show sl + 6 + (am_u (gr h k9) - am_u (gr h k9)) + 0 ≤ sl + 400; omega
  · cases h1 : rg (xs (i + 1)) n with
    | none => exact absurd (Or.inl h1) hbad
    | some k0 =>
    cases h2 : rg (xs (i + 2)) 10 with
    | none => exact absurd (Or.inr h2) hbad
    | some j0 =>
    have h7 := hM.2.2.1
    obtain ⟨e1, hk0⟩ := rg_some (by omega) h1
    obtain ⟨e2, hj0⟩ := rg_some (by omega) h2
    rw [e1, e2]
    refine K_mY hC hW hM hS hk0 hj0 (by omega) (by omega) ?_
    have fa : Fx [79] [] h (am_wL h 79 0 (mbV n g F S T k0 j0).toInt64) := Fx.wL (Or.inl (by decide))
    have m' := m.fx fa (fun x hx => Or.inl ((show ∀ x ∈ [79], x ∈ SCR by decide) x hx)) (by decide)
    obtain ⟨⟨hW', h80'⟩, ⟨hM', hS', hR', _, _⟩, _⟩ := id m'
    have f : Fx [] [(50, 0)] (am_wL h 79 0 (mbV n g F S T k0 j0).toInt64) (am_wI (am_wL h 79 0 (mbV n g F S T k0 j0).toInt64) 50 0 (nI 0)) := Fx.wI (Or.inr (by decide))
    have m2 := m'.fx f (by simp) (by decide)
    have hW2 := f.Wd hW'
    refine K_so hC (v := .int (nI 0)) (x := 5) (nL := 7) rfl dL_law_345 rfl (by decide) ?_
    refine K_nl (pc' := 347) (l' := lwl i (some (.int (nI 0))) o6) rfl rfl ?_
    refine K_ld hC (v := .ref 50) (x := 2) dL_law_347 rfl rfl ?_
    refine K_arg hC (j := 1) dL_law_348 dL_law_349 dL_law_351 dL_law_352 dL_law_353 rfl (by omega) ?_
    refine K_arg hC (j := 2) dL_law_354 dL_law_355 dL_law_357 dL_law_358 dL_law_359 rfl (by omega) ?_
    rw [e1, e2]
    refine K_c2 hC (N := m_X12_member) dL_law_360 lk_L_43 mV_X12_member (r_memberY hW' hR' hk0 hj0) (by decide) (ws_50 hW') rfl (by decide) (Nat.le_of_ble_eq_true rfl) (Nat.le_of_ble_eq_true rfl) (by show ce + (am_t h - am_t h) ≤ 601024; omega) (by show sl + (am_u h - am_u h) ≤ 7293034; omega) ?_
    refine K_so hC (v := .int (mbV n g F S T k0 j0)) (x := 6) (nL := 7) rfl dL_law_363 rfl (by show 6 + 1 < 7 + 1; decide) ?_
    refine K_nl (pc' := 365) (l' := lwl i (some (.int (nI 0))) (some (.int (mbV n g F S T k0 j0)))) rfl rfl ?_
    refine K_ld hC (v := .ref 50) (x := 2) dL_law_365 rfl rfl ?_
    refine K_c0 hC (N := m_X12_thrown) dL_law_366 lk_L_44 mV_X12_thrown (r_thrown hW2 wI_e0) (by decide) (ws_50 hW2) rfl (by decide) (Nat.le_of_ble_eq_true rfl) (Nat.le_of_ble_eq_true rfl) (by rw [Nat.sub_self]; show ce + (am_t h - am_t h) + 0 ≤ 601024; omega) (by rw [Nat.sub_self]; show sl + (am_u h - am_u h) + 0 ≤ 7293034; omega) ?_
    refine K_ld hC (v := .int (nI 0)) (x := 5) dL_law_369 rfl rfl ?_
    refine K_ic_eq hC 376 dL_law_371 rfl (fun _ => ?_) (fun z => absurd rfl z)
    refine K_ld hC (v := .int (nI 0)) (x := 5) dL_law_376 rfl rfl ?_
    refine K_if_ne hC 393 dL_law_378 rfl (fun z => absurd rfl z) (fun _ => ?_)
    refine K_ld hC (v := .ref 79) (x := 3) dL_law_381 rfl rfl ?_
    refine K_pu hC dL_law_382 rfl ?_
    refine K_lald hC (r := 79) (n := 1) (x := nI 0) dL_law_383 (ws_79 hW2) (vp_in_nI (by decide) (by decide)) ?_
    have el : am_l (am_wI (am_wL h 79 0 (mbV n g F S T k0 j0).toInt64) 50 0 (nI 0)) 79 (nI 0).toNatClampNeg = (mbV n g F S T k0 j0).toInt64 := by
      rw [nI_clamp (by decide)]
      show am_l (am_wL h 79 0 (mbV n g F S T k0 j0).toInt64) 79 0 = _
      rw [wL_eq, if_pos rfl]
    rw [el]
    refine K_ld hC (v := .int (mbV n g F S T k0 j0)) (x := 6) dL_law_384 rfl rfl ?_
    refine K_pu hC dL_law_386 rfl ?_
    refine K_pu hC dL_law_387 rfl ?_
    refine K_if_eq hC 393 dL_law_388 rfl (fun _ => ?_) (fun z => absurd lcmp_rf z)
    refine K_goto hC 1149 dL_law_393 rfl ?_
    refine K_wd (ce' := ce + 3) (sl' := sl + 400) ?_ ?_ (k _ _ _ ⟨_, _, _, _, _, _, _, _, _, _, _, _, _, _, _, _, _, _, m2⟩)
    · rw [Nat.sub_self]; show ce + (am_t h - am_t h) + 0 ≤ ce + 3; omega
    · rw [Nat.sub_self]; show sl + (am_u h - am_u h) + 0 ≤ sl + 400; omega
end LWM
