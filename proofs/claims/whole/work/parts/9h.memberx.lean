/-! member: where it throws -/
def NSE : String := "java/util/NoSuchElementException"
/-- the heap with cells more of which nothing is known -/
def gr (h : am_H) (t : Nat) : am_H := (h.1, h.2.1, h.2.2.1, h.2.2.2.1, t, h.2.2.2.2.2)
theorem gr_ix {h : am_H} {k : Nat} (hs : ∀ (r : Nat) (sh : Nat × Nat), am_s h r = some sh → r < am_t h) : am_ix (gr h (am_t h + k)) = am_ix h := by
  show (List.range (am_t h + k)).filter (fun r => (am_s h r).isSome) = (List.range (am_t h)).filter (fun r => (am_s h r).isSome)
  induction k with
  | zero => rfl
  | succ k ih =>
    rw [← Nat.add_assoc, List.range_succ, List.filter_append, ih]
    have e : (am_s h (am_t h + k)).isSome = false := by
      cases hq : am_s h (am_t h + k) with
      | none => rfl
      | some sh => have := hs _ _ hq; omega
    simp [e]
theorem gr_hp {D : va_G} {b : Nat} {cy : Nat → ClassId} {h : am_H} {H H1 : Heap} (hH : am_Hp D b cy h H) (hs : H.size ≤ H1.size) (ho : ∀ q : Nat, q < H.size → H1[q]? = H[q]?) : am_Hp D b cy (gr h (H1.size - b)) H1 := by
  obtain ⟨h1, h2, h3, h4⟩ := hH
  have ek : H1.size - b = am_t h + (H1.size - H.size) := by omega
  have ew : am_wl b cy (gr h (H1.size - b)) = am_wl b cy h := by
    unfold am_wl
    rw [ek, gr_ix h4]
    rfl
  refine ⟨?_, by rw [ew]; exact h2, by show H1.size = b + (H1.size - b); omega, fun r sh hr => ?_⟩
  · rw [ew]
    exact h1.kept (fun q x hx => ho x.1 ((h1 q x hx).lt))
  · have := h4 r sh hr
    show r < H1.size - b
    omega
abbrev mbN : List String := ["java/lang/RuntimeException", "java/lang/Exception"]
abbrev mbB : List Cond := [.declares (Bundle.init0 "java/lang/RuntimeException"), .declares (Bundle.init0 "java/lang/Exception"), .declares (Bundle.init0 Bundle.tN), .castable NSE NSE]
theorem mbB_ot : ∀ w ∈ mbB, w.onTables = true := by decide +kernel
theorem mbB_in : ∀ w ∈ mbB, w ∈ lw_tbl := by decide +kernel
theorem mbB_warm {s U : State} (hW : s.WarmedH U.vm) (h : ∀ w ∈ mbB, va_Nw w s) : ∀ w ∈ mbB, va_Nw w U := by
  intro w hw
  have hz := h w hw
  simp only [mbB, List.mem_cons, List.not_mem_nil, or_false] at hw
  rcases hw with rfl | rfl | rfl | rfl
  · exact va_Nw.warmD hW hz
  · exact va_Nw.warmD hW hz
  · exact va_Nw.warmD hW hz
  · exact va_Nw.warmC hW hz
abbrev mbZ (b : Nat) (U : State) : Prop := vx_Zq Bundle.tN "UNASSIGNED_STACK" Bundle.steD (am_A b) U U.heap ∧ vx_Zq Bundle.tN "SUPPRESSED_SENTINEL" Bundle.listD (am_A b) U U.heap ∧ ∀ w ∈ mbB, va_Nw w U
abbrev mbPc (D : va_G) (b : Nat) (sa : Nat → Nat) (cy : Nat → ClassId) (h : am_H) (vs : List Value) : Array Value → State → Prop := va_Pc (vs.map (am_tv b sa)) (fun U => (am_G D b sa cy U ∧ am_Hp D b cy h U.heap) ∧ mbZ b U)
theorem mb_blind {D : va_G} {b : Nat} {sa : Nat → Nat} {cy : Nat → ClassId} {h : am_H} {vs : List Value} : FrameBlind (mbPc D b sa cy h vs) := fun a U g mk q => ⟨q.1, ⟨am_G.same (u := U) (U := U.calling g mk a) rfl rfl q.2.1.1, q.2.1.2⟩, vx_Zq.moved (Vm.Alike.refl _) q.2.2.1, vx_Zq.moved (Vm.Alike.refl _) q.2.2.2.1, fun w hw => va_tabs (u := U) (mbB_ot w hw) rfl (q.2.2.2.2 w hw)⟩
theorem mbZ.call {b : Nat} {s U : State} {H : Heap} {locs : List Loc} (h : mbZ b s) (hW : s.WarmedH U.vm) (hU : U.heap = H) (hS : va_S (am_A b) s.heap H locs) : mbZ b U := ⟨by rw [hU]; exact vx_Zq.moved hW.alike (h.1.kept hS.2.1), by rw [hU]; exact vx_Zq.moved hW.alike (h.2.1.kept hS.2.1), mbB_warm hW h.2.2⟩
theorem w_get {p : Program} {l : Launch} {e : Env} {R : Room} {s : State} {m : MethodId} {args : Array Value} {below : List Frame} {meth : Method} {c : Code} {H : Heap} {locs : List Loc} {cells slots : Nat} {Q : State → Prop} {cc : ByteArray} {pc : Nat} {ls : Array Slot} {D : va_G} {b : Nat} {sa : Nat → Nat} {cy : Nat → ClassId} {h : am_H} {own : String} {idx k0 j r n : Nat} {v : Value} {rest : List Value} (hx : p.tables.exec = Jvm.exec) (hb : c.code = cc) (hown : s.vm.findClass own = some m.cls) (hts : ∀ w ∈ am_GT, w.before args s = true) (hG : am_G D b sa cy s) (hH : am_Hp D b cy h H) (hdec : decode cc pc = .ok (.getfield idx, 3)) (hf : am_fl own idx k0 j) (hs : am_s h r = some (k0, n)) (hv : am_fa h k0 r j = v) (kk : W p l e R s m args below meth c H locs cells slots Q (F0 m (pc + 3) ls (am_tv b sa v :: rest))) : W p l e R s m args below meth c H locs cells slots Q (F0 m pc ls (.ref (b + r) :: rest)) := by
  obtain ⟨Cn, T, ⟨hc, hin, hty, hnm, hk⟩, hj, hC, hlk⟩ := hf
  obtain ⟨q, -, hq⟩ := am_find hH hs
  rw [am_ce_ob hs hk] at hq
  have hv' : ((List.range (am_nf k0)).map (am_fv b h k0 r))[j]? = some (am_tv b sa v) := by rw [← hv]; exact am_fvs hj
  rcases hlk with hlk | ⟨host, hlk⟩
  · exact va_get hx hb hts hin hown hG.1 hH.1 q hq hc j hj (hts _ (am_gt hlk rfl)) (by rw [hC]; exact fun _ z => z) hv' hdec kk
  · exact va_getN hx hb hts hin hown hG.1 hH.1 q hq hc j hj (va_Nw.use rfl (hG.2.1 _ hlk rfl)) (by rw [hC]; exact fun _ z => z) hv' hdec kk
theorem w_cV {p : Program} {l : Launch} {e : Env} {R : Room} {s : State} {m : MethodId} {args : Array Value} {below : List Frame} {meth : Method} {c : Code} {H : Heap} {locs : List Loc} {cells slots : Nat} {Q : State → Prop} {cc : ByteArray} {pc : Nat} {ls : Array Slot} {D : va_G} {b : Nat} {sa : Nat → Nat} {cy : Nat → ClassId} {h : am_H} {own : String} {nL idx r k0 n0 d' : Nat} {N : am_M} {vs st : List Value} {lo : List (Option Value)} {v : Option Value} {h1' : am_H} {T : u_T} {fN : Nat} (hx : p.tables.exec = Jvm.exec) (hb : c.code = cc) (hml : c.maxLocals = nL) (hown : s.vm.findClass own = some m.cls) (hts : ∀ w ∈ am_GT, w.before args s = true) (hG : am_G D b sa cy s) (hH : am_Hp D b cy h H) (hS : va_S (am_A b) s.heap H locs) (hl : am_L b sa ls nL lo) (hdec : decode cc pc = .ok (.invokevirtual idx, 3)) (hR1 : d' + 1 ≤ R.frames) (hR2 : 64 + 64 * d' ≤ R.locals) (hr9 : (st.map fun v => v.category).sum ≤ 8) (hlk : am_lk own idx N.1) (hm : am_mV N vs.length) (hs : am_s h r = some (k0, n0)) (hk0 : k0 < 100) (hcl : vwCl[k0]? = some (N.1.cls, T, fN)) (hlen : (am_ea (.ref r :: vs)).length ≤ N.2.2.1) (hc : am_Sem d' N 0 (am_en N.2.2.1 (.ref r :: vs)) [] h (v, h1')) (hB1 : cells + (am_t h1' - am_t h) ≤ R.cells) (hB2 : slots + (am_u h1' - am_u h) ≤ R.slots) (k : ∀ (H1 : Heap) (locs1 : List Loc), am_Hp D b cy h1' H1 → va_S (am_A b) s.heap H1 locs1 → W p l e R s m args below meth c H1 locs1 (cells + (am_t h1' - am_t h)) (slots + (am_u h1' - am_u h)) Q (F0 m (pc + 3) ls ((v.toList ++ st).map (am_tv b sa)))) : W p l e R s m args below meth c H locs cells slots Q (F0 m pc ls ((vs.reverse ++ .ref r :: st).map (am_tv b sa))) := by
  have m1 := hc.1
  have hgood := am_good hm.1.1
  have hnl : N.2.2.1 ≤ 45 := hm.1.2.2.2.2
  have hR : (am_rm d' h (v, h1')).frames + 1 ≤ R.frames ∧ 8 + (N.2.2.1 + 11) + (am_rm d' h (v, h1')).locals ≤ R.locals := ⟨hR1, by show 8 + (N.2.2.1 + 11) + 64 * d' ≤ _; omega⟩
  have hf : cells + (am_t h1' - am_t h) ≤ R.cells ∧ slots + (am_u h1' - am_u h) ≤ R.slots := ⟨hB1, hB2⟩
  have kk : ∀ (H1 : Heap) (locs1 : List Loc), am_Hp D b cy h1' H1 → va_S (am_A b) s.heap H1 locs1 → W p l e R s m args below meth c H1 locs1 (cells + (am_t h1' - am_t h)) (slots + (am_u h1' - am_u h)) Q (F0 m (pc + 3) ls ((v.map (am_tv b sa)).toList ++ st.map (am_tv b sa))) := by
    intro H1 locs1 hH1 hS1
    rw [am_vst]
    exact k H1 locs1 hH1 hS1
  have hPU : ∀ U : State, U.heap = H → s.WarmedH U.vm → am_G D b sa cy U ∧ am_Hp D b cy h U.heap := fun U hU hW => ⟨hG.call hW hU hS, by rw [hU]; exact hH⟩
  obtain ⟨q, -, hq⟩ := am_find hH hs
  rw [am_ce_ob hs hk0] at hq
  have hrec := va_recv hG.1 hH.1 hcl hq
  have hst : (vs.reverse ++ .ref r :: st).map (am_tv b sa) = (vs.map (am_tv b sa)).reverse ++ .ref (b + r) :: st.map (am_tv b sa) := by
    rw [List.map_append, List.map_reverse]; rfl
  rw [hst]
  rcases hlk with hlk | ⟨host, hlk⟩
  · exact am_goes (va_runV (As := vs.map (am_tv b sa)) (rest := st.map (am_tv b sa)) ⟨hx, hb, hml, hown, hts⟩ (am_met hc hm.1 hlen) ⟨callB_of vs.length hts hgood rfl rfl rfl (hts _ (am_gt hm.1.2.1 rfl)) (hts _ (am_gt hlk rfl)) hm.1.2.2.2.1 hR, hts _ (am_gt hm.2.1 rfl), hts _ (am_gt hm.2.2 rfl)⟩ ⟨am_blind, hrec, fun U hU hW => ⟨rfl, hPU U hU hW⟩⟩ rfl (by simp) hl.1 rfl (lv_room (by rw [am_tv_cats]; exact hr9)) hdec hf) hS kk
  · exact am_goes (va_runVN (As := vs.map (am_tv b sa)) (rest := st.map (am_tv b sa)) ⟨hx, hb, hml, hown, hts⟩ (am_met hc hm.1 hlen) ⟨va_cnB vs.length hts hgood rfl rfl rfl (hG.2.1 _ hlk rfl) (hts _ (am_gt hm.1.2.1 rfl)) hm.1.2.2.2.1 hR, hts _ (am_gt hm.2.1 rfl), hts _ (am_gt hm.2.2 rfl)⟩ ⟨am_blind, hrec, fun U hU hW => ⟨rfl, hPU U hU hW⟩⟩ rfl (by simp) hl.1 rfl (lv_room (by rw [am_tv_cats]; exact hr9)) hdec hf) hS kk
abbrev mbR : Room := { frames := 20, cells := 1, slots := 6, locals := 1000 }
abbrev mbQ0 (b : Nat) : Array Value → State → Outcome → State → Prop := va_Qi (S := Unit) (fun _ _ => False) (fun _ _ => True) (am_A b)
abbrev mbX (D : va_G) (b : Nat) (cy : Nat → ClassId) (h : am_H) : String → State → State → Prop := vx_X (S := Unit) (fun _ => True) (fun E _ t => E = NSE ∧ ∃ k, am_t h ≤ k ∧ am_Hp D b cy (gr h k) t.heap) (am_A b)
theorem mb_at : ∀ w ∈ vx_at0 RX11 170 NSE mbN, w ∈ am_GT ∨ w ∈ mbB := by decide +kernel
theorem mb_ot : ∀ w ∈ Cond.classLink RX11 168 NSE :: Cond.initialized NSE :: vx_at0 RX11 170 NSE mbN, vx_ot w = true := by decide +kernel
theorem mb_cl : Cond.classLink RX11 168 NSE ∈ am_GT := by decide +kernel
theorem mb_in : Cond.initialized NSE ∈ am_GT := by decide +kernel
set_option maxHeartbeats 4000000 in
theorem mb_X {l : Launch} {D : va_G} {b : Nat} {sa : Nat → Nat} {cy : Nat → ClassId} {h : am_H} {n : Nat} {g : Bool} {F : Nat → Nat → Nat} {x1 x2 : Int32} (hst : l.stackTraces = false) (hW : Wd h) (hM : MB h n g F) (hbad : rg x1 n = none ∨ rg x2 10 = none) : vx_Met l yX11_member (am_ws m_X11_member) mbR (mbPc D b sa cy h [.ref 0, .int x1, .int x2]) (mbQ0 b) (mbX D b cy h) 1 6 (am_A b) := by
  refine vx_ofW (cc := cX11_member) (maxL := m_X11_member.2.2.1) (ret := some .int) (by decide +kernel) rfl ?_
  intro p e s m args below meth c s₁ B hml ht hP
  obtain ⟨rfl, ⟨hG, hH⟩, hZ1, hZ2, hZ3⟩ := hP
  have htw := atoms_spec (ws := am_ws m_X11_member) B.pre
  have hts : ∀ w ∈ am_GT, w.before _ s = true := fun w hw => htw w (List.mem_cons_of_mem _ hw)
  have hx := B.exec
  have hb := B.bytes
  have hown : s.vm.findClass RX11 = some m.cls := findClass_of_methodNamed B.named
  have hl := am_entry (b := b) (sa := sa) [.ref 0, .int x1, .int x2] (n := m_X11_member.2.2.1) (Nat.le_of_ble_eq_true rfl)
  rw [lg_entry_eq]
  generalize (lg_sl (([.ref 0, .int x1, .int x2] : List Value).map (am_tv b sa)) ++ List.replicate (m_X11_member.2.2.1 - (lg_sl (([.ref 0, .int x1, .int x2] : List Value).map (am_tv b sa))).length) Slot.unset).toArray = ls at hl ⊢
  have l0 : ls[0]? = some (.val (.ref (b + 0))) := hl.2.2 0 (.ref 0) rfl
  have l1 : ls[1]? = some (.val (.int x1)) := hl.2.2 1 (.int x1) rfl
  have l2 : ls[2]? = some (.val (.int x2)) := hl.2.2 2 (.int x2) rfl
  refine lv_aload_n hx hb dX11_member_0 rfl l0 ?_
  refine w_get (v := .ref 9) hx hb hown hts hG hH dX11_member_1 fl_X11_48 (ws_0 hW) (by show am_rv (am_p h 0 6) = _; rw [wp_0_6 hW]; rfl) ?_
  refine lv_iload_n hx hb dX11_member_4 rfl l1 ?_
  refine w_cV (N := m_X5_has) (vs := [.int x1]) (r := 9) (st := []) (d' := 0) hx hb hml hown hts hG hH va_S.rf hl dX11_member_5 (by decide) (by decide) (Nat.le_of_ble_eq_true rfl) lk_X11_165 mV_X5_has (ws_9 hW) (by decide) rfl (Nat.le_of_ble_eq_true rfl) (c_hasX hW hM (x := x1)) (by rw [Nat.sub_self]; decide) (by rw [Nat.sub_self]; decide) ?_
  intro H1 locs1 hH1 hS1
  have thr : W p l e (headSpec (am_ws m_X11_member) mbR).room s m (([.ref 0, .int x1, .int x2] : List Value).map (am_tv b sa)).toArray below meth c H1 locs1 0 0 (vx_MQ below (mbQ0 b) (mbX D b cy h) (([.ref 0, .int x1, .int x2] : List Value).map (am_tv b sa)).toArray s 1 6 (am_A b)) (F0 m 21 ls []) := by
    refine vx_throw0 (own := RX11) (cls := NSE) (names := mbN) (ik := 168) (ic := 170) (A := am_A b) hx hb hst hown (by decide +kernel) (by decide +kernel) (hts _ mb_cl) (hts _ mb_in) (fun w hw => (mb_at w hw).elim (hts w) (fun z => va_tabs (mbB_ot w z) rfl (hZ3 w z))) mb_ot hZ1 hZ2 hS1 (hl.1.trans hml.symm) dX11_member_21 dX11_member_24 dX11_member_25 dX11_member_28 (fun x hx => (ht x hx).elim) (by decide) (by decide) (by decide) (by decide) B.notSynchronized ?_ hS1.2.2 (by decide) (by decide)
    intro t ha hsz ho
    refine ⟨(), trivial, ⟨rfl, t.heap.size - b, ?_, gr_hp hH1 hsz ho⟩, Nat.le_trans hS1.1 hsz, fun q hq hA => (ho q (Nat.lt_of_lt_of_le hq hS1.1)).trans (hS1.2.1 q hq hA)⟩
    have := hH1.2.2.1
    omega
  rw [Nat.sub_self, Nat.sub_self]
  refine lv_if_eq (x := nI (isr x1 n)) hx hb dX11_member_8 (tgt := 21) rfl (fun _ => thr) (fun h1 => ?_)
  have hr2 : rg x2 10 = none := by
    rcases hbad with z | z
    · exact absurd (by rw [isr_n z]; rfl) h1
    · exact z
  refine lv_iload_n hx hb dX11_member_11 rfl l2 ?_
  refine lv_if_lt hx hb dX11_member_12 (tgt := 21) rfl (fun _ => thr) (fun h2 => ?_)
  refine lv_iload_n hx hb dX11_member_15 rfl l2 ?_
  refine lv_bipush hx hb dX11_member_16 rfl ?_
  refine lv_icmp_le hx hb dX11_member_18 (tgt := 29) rfl (fun h3 => ?_) (fun _ => thr)
  rcases rg_none (by decide) hr2 with z | ⟨_, z⟩
  · exact absurd z h2
  · exact absurd h3 (rg_gt (k := 9) (by decide) z)
