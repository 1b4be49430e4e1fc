/-! calls -/
def am_mf (N : am_M) (n : Nat) : Prop := Cond.code N.1 N.2.1 N.2.2.1 N.2.2.2 ∈ lw_tbl ∧ Cond.initialized N.1.cls ∈ lw_tbl ∧ plainName N.1.cls = true ∧ (N.1.cls ≠ "java/lang/invoke/MethodHandle" ∧ N.1.cls ≠ "java/lang/invoke/VarHandle" ∧ (parseMethodDescriptor N.1.desc).map (fun d => d.parameters.length) = some n) ∧ N.2.2.1 ≤ 45
def am_mV (N : am_M) (n : Nat) : Prop := am_mf N n ∧ Cond.instanceMethod N.1 ∈ lw_tbl ∧ Cond.selects N.1.cls N.1 N.1 ∈ lw_tbl
def am_mS (N : am_M) (n : Nat) : Prop := am_mf N n ∧ Cond.static N.1 ∈ lw_tbl
def am_mI (N : am_M) (n : Nat) : Prop := am_mf N n ∧ N.1.name = "<init>" ∧ Cond.instanceMethod N.1 ∈ lw_tbl ∧ N.2.2.2 = none
def am_lk (own : String) (idx : Nat) (y : MethodName) : Prop := Cond.methodLink own idx y ∈ lw_tbl ∨ ∃ host, Cond.methodLinkNest own idx y host ∈ lw_tbl
abbrev am_rm (d : Nat) (h : am_H) (o : am_O) : Room := { frames := d, cells := am_t o.2 - am_t h, slots := am_u o.2 - am_u h, locals := 64 * d }
abbrev am_ws (N : am_M) : List Cond := Cond.code N.1 N.2.1 N.2.2.1 N.2.2.2 :: am_GT
abbrev am_Pc (D : va_G) (b : Nat) (sa : Nat → Nat) (cy : Nat → ClassId) (h : am_H) (vs : List Value) : Array Value → State → Prop := va_Pc (vs.map (am_tv b sa)) (fun U => am_G D b sa cy U ∧ am_Hp D b cy h U.heap)
theorem am_met {lc : Launch} {D : va_G} {b : Nat} {sa : Nat → Nat} {cy : Nat → ClassId} {d n : Nat} {N : am_M} {vs : List Value} {h : am_H} {o : am_O} (hS : am_Sem d N 0 (am_en N.2.2.1 vs) [] h o) (hm : am_mf N n) (hlen : (am_ea vs).length ≤ N.2.2.1) : Met lc N.1 (am_ws N) (am_rm d h o) (am_Pc D b sa cy h vs) (am_Q D b sa cy o) (am_t o.2 - am_t h) (am_u o.2 - am_u h) (am_A b) := by
  refine Met.ofW (cc := N.2.1) (maxL := N.2.2.1) (ret := N.2.2.2) hm.2.2.1 rfl ?_
  intro p e s m args below meth c s₁ B hml hv
  obtain ⟨rfl, hG, hH⟩ := hv
  have hts := atoms_spec (ws := am_ws N) B.pre
  have hl := am_entry (b := b) (sa := sa) vs hlen
  rw [lg_entry_eq]
  have m1 := hS.1.1
  have m2 := hS.1.2
  exact hS.2 lc D b sa cy p e (am_rm d h o) s m _ below meth c (am_t o.2 - am_t h) (am_u o.2 - am_u h) ⟨B.exec, B.bytes, B.returns, hml, findClass_of_methodNamed B.named, (name_of_methodNamed B.named B.method).1, B.notSynchronized, fun w hw hg => hts w (List.mem_cons_of_mem _ (am_gt hw hg)), hG, Nat.le_refl _, Nat.le_refl _⟩ (Nat.le_refl _) (Nat.le_refl _) s.heap [] 0 0 _ hH va_S.rf hl (by omega) (by omega)
theorem am_good {N : am_M} (h : Cond.code N.1 N.2.1 N.2.2.1 N.2.2.2 ∈ lw_tbl) : GoodIn am_GT (am_ws N) := by
  intro w hw
  rcases List.mem_cons.mp hw with rfl | hw
  · exact ⟨am_gt h rfl, good_of_word rfl⟩
  · exact ⟨hw, good_of_word (List.mem_filter.mp hw).2⟩
theorem am_blind {D : va_G} {b : Nat} {sa : Nat → Nat} {cy : Nat → ClassId} {h : am_H} {vs : List Value} : FrameBlind (am_Pc D b sa cy h vs) := fun a U g mk q => ⟨q.1, am_G.same (u := U) (U := U.calling g mk a) rfl rfl q.2.1, q.2.2⟩
section AMC
variable {d : Nat} {M : am_M} {pc : Nat} {l : List (Option Value)} {st : List Value} {h : am_H} {o : am_O}
theorem am_goes {p : Program} {lc : Launch} {e : Env} {R : Room} {s : State} {m : MethodId} {args a : Array Value} {below : List Frame} {meth : Method} {c : Code} {H : Heap} {locs : List Loc} {cells slots mc1 ms1 : Nat} {Q : State → Prop} {ls : Array Slot} {st0 rest : List Value} {D : va_G} {b : Nat} {sa : Nat → Nat} {cy : Nat → ClassId} {v : Option Value} {h1 : am_H}
    (hr : va_Run p lc e R s m args below meth c H locs cells slots mc1 ms1 (F0 m pc ls st0) rest (am_Q D b sa cy (v, h1) a) (am_A b)) (hS : va_S (am_A b) s.heap H locs)
    (kk : ∀ (H1 : Heap) (locs1 : List Loc), am_Hp D b cy h1 H1 → va_S (am_A b) s.heap H1 locs1 → W p lc e R s m args below meth c H1 locs1 (cells + mc1) (slots + ms1) Q (F0 m (pc + 3) ls ((v.map (am_tv b sa)).toList ++ rest))) : W p lc e R s m args below meth c H locs cells slots Q (F0 m pc ls st0) := by
  intro T hT X
  obtain ⟨v', st₀, t, T', L, h0, X', hL, e1, e2, ⟨⟨hv, hb⟩, hz, hk⟩, stp⟩ := hr T hT X
  have hv' : v' = v.map (am_tv b sa) := Outcome.returned.inj hv
  subst hv'
  rw [h0] at hz hk
  obtain ⟨t2, a1, b1⟩ := kk t.heap (locs ++ L) hb ⟨Nat.le_trans hS.1 hz, fun q f1 f2 => (hk q (Nat.lt_of_lt_of_le f1 hS.1) f2).trans (hS.2.1 q f1 f2), fun q hq => by
    rcases List.mem_append.mp hq with z | z
    · exact hS.2.2 q z
    · exact hL q z⟩ T' e1 X'
  exact ⟨t2, stp t2 a1, b1⟩
theorem am_vst {b : Nat} {sa : Nat → Nat} (v : Option Value) (st : List Value) : (v.map (am_tv b sa)).toList ++ st.map (am_tv b sa) = (v.toList ++ st).map (am_tv b sa) := by cases v <;> rfl

theorem am_x_cV {idx r k0 n0 d' : Nat} {N : am_M} {vs : List Value} {v : Option Value} {h1' : am_H} {T : u_T} {fN : Nat} (hdec : decode M.2.1 pc = .ok (.invokevirtual idx, 3)) (hd : d' < d) (hr : (st.map fun v => v.category).sum ≤ 8) (hlk : am_lk M.1.cls idx N.1) (hm : am_mV N vs.length) (hs : am_s h r = some (k0, n0)) (hk0 : k0 < 100) (hcl : vwCl[k0]? = some (N.1.cls, T, fN)) (hlen : (am_ea (.ref r :: vs)).length ≤ N.2.2.1)
    (hc : am_Sem d' N 0 (am_en N.2.2.1 (.ref r :: vs)) [] h (v, h1')) (k : am_Sem d M (pc + 3) l (v.toList ++ st) h1' o) : am_Sem d M pc l (vs.reverse ++ .ref r :: st) h o := by
  refine ⟨⟨Nat.le_trans hc.1.1 k.1.1, Nat.le_trans hc.1.2 k.1.2⟩, ?_⟩
  intro lc D b sa cy p e R s m args below meth c mc ms C hmc hms H locs cells slots ls hH hS hl h1 h2
  have m1 := hc.1
  have m2 := k.1
  obtain ⟨hx, hb, -, hml, hown, -, -, hts, hG, hfr, hlo⟩ := id C
  have hts' : ∀ w ∈ am_GT, w.before args s = true := fun w hw => hts w (List.mem_filter.mp hw).1 (List.mem_filter.mp hw).2
  have hgood := am_good hm.1.1
  have hnl : N.2.2.1 ≤ 45 := hm.1.2.2.2.2
  have hR : (am_rm d' h (v, h1')).frames + 1 ≤ R.frames ∧ 8 + (N.2.2.1 + 11) + (am_rm d' h (v, h1')).locals ≤ R.locals := ⟨by show d' + 1 ≤ _; omega, by show 8 + (N.2.2.1 + 11) + 64 * d' ≤ _; omega⟩
  have hf : cells + (am_t h1' - am_t h) ≤ R.cells ∧ slots + (am_u h1' - am_u h) ≤ R.slots := ⟨by have := m2.1; have := m1.1; simp only at *; omega, by have := m2.2; have := m1.2; simp only at *; omega⟩
  have kk : ∀ (H1 : Heap) (locs1 : List Loc), am_Hp D b cy h1' H1 → va_S (am_A b) s.heap H1 locs1 → W p lc e R s m args below meth c H1 locs1 (cells + (am_t h1' - am_t h)) (slots + (am_u h1' - am_u h)) (MQ below (am_Q D b sa cy o) args s mc ms (am_A b)) (F0 m (pc + 3) ls ((v.map (am_tv b sa)).toList ++ st.map (am_tv b sa))) := by
    intro H1 locs1 hH1 hS1
    rw [am_vst]
    exact k.2 lc D b sa cy p e R s m args below meth c mc ms C hmc hms H1 locs1 _ _ ls hH1 hS1 hl (by have := m2.1; have := m1.1; simp only at *; omega) (by have := m2.2; have := m1.2; simp only at *; omega)
  have hPU : ∀ U : State, U.heap = H → s.WarmedH U.vm → am_G D b sa cy U ∧ am_Hp D b cy h U.heap := fun U hU hW => ⟨hG.call hW hU hS, by rw [hU]; exact hH⟩
  obtain ⟨q, -, hq⟩ := am_find hH hs
  rw [am_ce_ob hs hk0] at hq
  have hrec := va_recv hG.1 hH.1 hcl hq
  have hst : (vs.reverse ++ .ref r :: st).map (am_tv b sa) = (vs.map (am_tv b sa)).reverse ++ .ref (b + r) :: st.map (am_tv b sa) := by
    rw [List.map_append, List.map_reverse]; rfl
  rw [hst]
  rcases hlk with hlk | ⟨host, hlk⟩
  · exact am_goes (va_runV (As := vs.map (am_tv b sa)) (rest := st.map (am_tv b sa)) ⟨hx, hb, hml, hown, hts'⟩ (am_met hc hm.1 hlen) ⟨callB_of vs.length hts' hgood rfl rfl rfl (hts _ hm.1.2.1 rfl) (hts _ hlk rfl) hm.1.2.2.2.1 hR, hts _ hm.2.1 rfl, hts _ hm.2.2 rfl⟩ ⟨am_blind, hrec, fun U hU hW => ⟨rfl, hPU U hU hW⟩⟩ rfl (by simp) hl.1 rfl (lv_room (by rw [am_tv_cats]; exact hr)) hdec hf) hS kk
  · exact am_goes (va_runVN (As := vs.map (am_tv b sa)) (rest := st.map (am_tv b sa)) ⟨hx, hb, hml, hown, hts'⟩ (am_met hc hm.1 hlen) ⟨va_cnB vs.length hts' hgood rfl rfl rfl (hG.2.1 _ hlk rfl) (hts _ hm.1.2.1 rfl) hm.1.2.2.2.1 hR, hts _ hm.2.1 rfl, hts _ hm.2.2 rfl⟩ ⟨am_blind, hrec, fun U hU hW => ⟨rfl, hPU U hU hW⟩⟩ rfl (by simp) hl.1 rfl (lv_room (by rw [am_tv_cats]; exact hr)) hdec hf) hS kk
theorem am_x_cS {idx d' : Nat} {N : am_M} {vs : List Value} {v : Option Value} {h1' : am_H} (hdec : decode M.2.1 pc = .ok (.invokestatic idx, 3)) (hd : d' < d) (hr : (st.map fun v => v.category).sum ≤ 8) (hlk : am_lk M.1.cls idx N.1) (hm : am_mS N vs.length) (hlen : (am_ea vs).length ≤ N.2.2.1)
    (hc : am_Sem d' N 0 (am_en N.2.2.1 vs) [] h (v, h1')) (k : am_Sem d M (pc + 3) l (v.toList ++ st) h1' o) : am_Sem d M pc l (vs.reverse ++ st) h o := by
  refine ⟨⟨Nat.le_trans hc.1.1 k.1.1, Nat.le_trans hc.1.2 k.1.2⟩, ?_⟩
  intro lc D b sa cy p e R s m args below meth c mc ms C hmc hms H locs cells slots ls hH hS hl h1 h2
  have m1 := hc.1
  have m2 := k.1
  obtain ⟨hx, hb, -, hml, hown, -, -, hts, hG, hfr, hlo⟩ := id C
  have hts' : ∀ w ∈ am_GT, w.before args s = true := fun w hw => hts w (List.mem_filter.mp hw).1 (List.mem_filter.mp hw).2
  have hgood := am_good hm.1.1
  have hnl : N.2.2.1 ≤ 45 := hm.1.2.2.2.2
  have hR : (am_rm d' h (v, h1')).frames + 1 ≤ R.frames ∧ 8 + (N.2.2.1 + 11) + (am_rm d' h (v, h1')).locals ≤ R.locals := ⟨by show d' + 1 ≤ _; omega, by show 8 + (N.2.2.1 + 11) + 64 * d' ≤ _; omega⟩
  have hf : cells + (am_t h1' - am_t h) ≤ R.cells ∧ slots + (am_u h1' - am_u h) ≤ R.slots := ⟨by have := m2.1; have := m1.1; simp only at *; omega, by have := m2.2; have := m1.2; simp only at *; omega⟩
  have kk : ∀ (H1 : Heap) (locs1 : List Loc), am_Hp D b cy h1' H1 → va_S (am_A b) s.heap H1 locs1 → W p lc e R s m args below meth c H1 locs1 (cells + (am_t h1' - am_t h)) (slots + (am_u h1' - am_u h)) (MQ below (am_Q D b sa cy o) args s mc ms (am_A b)) (F0 m (pc + 3) ls ((v.map (am_tv b sa)).toList ++ st.map (am_tv b sa))) := by
    intro H1 locs1 hH1 hS1
    rw [am_vst]
    exact k.2 lc D b sa cy p e R s m args below meth c mc ms C hmc hms H1 locs1 _ _ ls hH1 hS1 hl (by have := m2.1; have := m1.1; simp only at *; omega) (by have := m2.2; have := m1.2; simp only at *; omega)
  have hPU : ∀ U : State, U.heap = H → s.WarmedH U.vm → am_G D b sa cy U ∧ am_Hp D b cy h U.heap := fun U hU hW => ⟨hG.call hW hU hS, by rw [hU]; exact hH⟩
  have hst : (vs.reverse ++ st).map (am_tv b sa) = (vs.map (am_tv b sa)).reverse ++ st.map (am_tv b sa) := by
    rw [List.map_append, List.map_reverse]
  rw [hst]
  rcases hlk with hlk | ⟨host, hlk⟩
  · exact am_goes (va_runS (As := vs.map (am_tv b sa)) (rest := st.map (am_tv b sa)) ⟨hx, hb, hml, hown, hts'⟩ (am_met hc hm.1 hlen) ⟨callB_of vs.length hts' hgood rfl rfl rfl (hts _ hm.1.2.1 rfl) (hts _ hlk rfl) hm.1.2.2.2.1 hR, hts _ hm.2 rfl⟩ ⟨am_blind, fun U hU hW => ⟨rfl, hPU U hU hW⟩⟩ rfl (by simp) hl.1 rfl (lv_room (by rw [am_tv_cats]; exact hr)) hdec hf) hS kk
  · exact am_goes (va_runSN (As := vs.map (am_tv b sa)) (rest := st.map (am_tv b sa)) ⟨hx, hb, hml, hown, hts'⟩ (am_met hc hm.1 hlen) ⟨va_cnB vs.length hts' hgood rfl rfl rfl (hG.2.1 _ hlk rfl) (hts _ hm.1.2.1 rfl) hm.1.2.2.2.1 hR, hts _ hm.2 rfl, trivial⟩ ⟨am_blind, fun U hU hW => ⟨rfl, hPU U hU hW⟩⟩ rfl (by simp) hl.1 rfl (lv_room (by rw [am_tv_cats]; exact hr)) hdec hf) hS kk
theorem am_x_cI {idx r d' : Nat} {N : am_M} {vs : List Value} {v : Option Value} {h1' : am_H} (hdec : decode M.2.1 pc = .ok (.invokespecial idx, 3)) (hd : d' < d) (hr : (st.map fun v => v.category).sum ≤ 8) (hlk : am_lk M.1.cls idx N.1) (hm : am_mI N vs.length) (hlen : (am_ea (.ref r :: vs)).length ≤ N.2.2.1)
    (hc : am_Sem d' N 0 (am_en N.2.2.1 (.ref r :: vs)) [] h (v, h1')) (k : am_Sem d M (pc + 3) l (v.toList ++ st) h1' o) : am_Sem d M pc l (vs.reverse ++ .ref r :: st) h o := by
  refine ⟨⟨Nat.le_trans hc.1.1 k.1.1, Nat.le_trans hc.1.2 k.1.2⟩, ?_⟩
  intro lc D b sa cy p e R s m args below meth c mc ms C hmc hms H locs cells slots ls hH hS hl h1 h2
  have m1 := hc.1
  have m2 := k.1
  obtain ⟨hx, hb, -, hml, hown, -, -, hts, hG, hfr, hlo⟩ := id C
  have hts' : ∀ w ∈ am_GT, w.before args s = true := fun w hw => hts w (List.mem_filter.mp hw).1 (List.mem_filter.mp hw).2
  have hgood := am_good hm.1.1
  have hnl : N.2.2.1 ≤ 45 := hm.1.2.2.2.2
  have hR : (am_rm d' h (v, h1')).frames + 1 ≤ R.frames ∧ 8 + (N.2.2.1 + 11) + (am_rm d' h (v, h1')).locals ≤ R.locals := ⟨by show d' + 1 ≤ _; omega, by show 8 + (N.2.2.1 + 11) + 64 * d' ≤ _; omega⟩
  have hf : cells + (am_t h1' - am_t h) ≤ R.cells ∧ slots + (am_u h1' - am_u h) ≤ R.slots := ⟨by have := m2.1; have := m1.1; simp only at *; omega, by have := m2.2; have := m1.2; simp only at *; omega⟩
  have kk : ∀ (H1 : Heap) (locs1 : List Loc), am_Hp D b cy h1' H1 → va_S (am_A b) s.heap H1 locs1 → W p lc e R s m args below meth c H1 locs1 (cells + (am_t h1' - am_t h)) (slots + (am_u h1' - am_u h)) (MQ below (am_Q D b sa cy o) args s mc ms (am_A b)) (F0 m (pc + 3) ls ((v.map (am_tv b sa)).toList ++ st.map (am_tv b sa))) := by
    intro H1 locs1 hH1 hS1
    rw [am_vst]
    exact k.2 lc D b sa cy p e R s m args below meth c mc ms C hmc hms H1 locs1 _ _ ls hH1 hS1 hl (by have := m2.1; have := m1.1; simp only at *; omega) (by have := m2.2; have := m1.2; simp only at *; omega)
  have hPU : ∀ U : State, U.heap = H → s.WarmedH U.vm → am_G D b sa cy U ∧ am_Hp D b cy h U.heap := fun U hU hW => ⟨hG.call hW hU hS, by rw [hU]; exact hH⟩
  have hst : (vs.reverse ++ .ref r :: st).map (am_tv b sa) = (vs.map (am_tv b sa)).reverse ++ .ref (b + r) :: st.map (am_tv b sa) := by
    rw [List.map_append, List.map_reverse]; rfl
  rw [hst]
  obtain ⟨y, cc', nL', rt⟩ := N
  have hret : rt = none := hm.2.2.2
  subst hret
  rcases hlk with hlk | ⟨host, hlk⟩
  · exact am_goes (va_runI (As := vs.map (am_tv b sa)) (rest := st.map (am_tv b sa)) ⟨hx, hb, hml, hown, hts'⟩ (am_met hc hm.1 hlen) ⟨callB_of vs.length hts' hgood rfl rfl rfl (hts _ hm.1.2.1 rfl) (hts _ hlk rfl) hm.1.2.2.2.1 hR, hm.2.1, hts _ hm.2.2.1 rfl⟩ ⟨am_blind, fun U hU hW => ⟨rfl, hPU U hU hW⟩⟩ rfl (by simp) hl.1 rfl (lv_room (by rw [am_tv_cats]; exact hr)) hdec hf) hS kk
  · exact am_goes (va_runIN (As := vs.map (am_tv b sa)) (rest := st.map (am_tv b sa)) ⟨hx, hb, hml, hown, hts'⟩ (am_met hc hm.1 hlen) ⟨va_cnB vs.length hts' hgood rfl rfl rfl (hG.2.1 _ hlk rfl) (hts _ hm.1.2.1 rfl) hm.1.2.2.2.1 hR, hm.2.1, hts _ hm.2.2.1 rfl⟩ ⟨am_blind, fun U hU hW => ⟨rfl, hPU U hU hW⟩⟩ rfl (by simp) hl.1 rfl (lv_room (by rw [am_tv_cats]; exact hr)) hdec hf) hS kk
end AMC
