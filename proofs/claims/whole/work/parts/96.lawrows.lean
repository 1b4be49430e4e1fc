/-! THE CLAIM OUT OF ONE WALK OF THE LAW'S BODY. Your part is whole_start (and what it stands on); all else here is the same for every law, but numbers. -/
def R_law : String := "MouthHouseLaw"
def lw_P (b : Addr) (xs : List Int32) (args : Array Value) (s : State) : Prop := args = #[.ref b] ∧ s.IntsAt b xs ∧ xs.length ≤ 3072 ∧ (Jvm.Cond.and given_1 narrow_1).before args s = true
def lw_Q (_ : Array Value) (s : State) (o : Outcome) (t : State) : Prop := o = .returned (some (.int 1)) ∧ Framed s o t [] 601024 7293034
def lw_Z (below : List Frame) (a : Array Value) (s : State) : State → Prop := fun t => ∃ o, t.status = .running ∧ Ended t below o ∧ lw_Q a s o t
/-- the law's own end, with 1 on the stack, nothing written that was there before, its room as the claim has it -/
theorem lw_ret {p : Program} {l : Launch} {e : Env} {s : State} {m : MethodId} {below : List Frame} {meth : Method} {c : Code} {b : Nat} (hx : p.tables.exec = Jvm.exec) (hb : c.code = code) (hr : meth.sig.returnType = ret) (hlocks : meth.locks = false) {pc : Nat} {H : Heap} {ls : Array Slot} (hdg : decode code pc = .ok (.ireturn, 1)) : W p l e room_1 s m #[Value.ref b] below meth c H [] 601024 7293034 (lw_Z below #[Value.ref b] s) (F0 m pc ls [.int 1]) := by
  intro T hT X
  obtain ⟨fs, hret, hrun, hended, hW, hframe⟩ := X.leave (v := some (.int 1)) (hlocks := hlocks) (fun h => by rw [hr] at h; cases h)
  have hmeth' : T.vm.method? m = some meth := X.method'
  refine ⟨T.setFrames fs, ?_, .returned (some (.int 1)), hrun, hended, rfl, ⟨_, rfl⟩, hW, hframe⟩
  jvm_step X.here [X.here.top, hx, hb, hdg, hmeth', hr, ret, narrow_b1]
  (try refine ⟨rfl, ?_⟩); (try refine ⟨rfl, ?_⟩)
  first | (intro acts; rw [hret _ acts rfl rfl rfl]) | rw [hret _ _ rfl rfl rfl]
  exact Steps.refl _
/-- what holds at the law's entry: the machine, the code, the tables' words (any of lw_tbl by 'hts w (by decide +kernel)'), the script of L ints xs at the cell b, what the Statement gives of the start (any of its parts by flat_of_before) -/
def lw_At (p : Program) (s : State) (m : MethodId) (meth : Method) (c : Code) (b L : Nat) (xs : Nat → Int32) : Prop :=
  p.tables.exec = Jvm.exec ∧ c.code = code ∧ meth.sig.returnType = ret ∧ c.maxLocals = 7 ∧ s.vm.findClass R_law = some m.cls ∧ (∀ w ∈ lw_tbl, w.before #[Value.ref b] s = true) ∧ va_X b L xs s s.heap ∧ b < s.heap.size ∧ meth.locks = false ∧ (Jvm.Cond.and given_1 narrow_1).before #[Value.ref b] s = true
/-! the law's own frame, over a heap of the abstract machine; the script is .retAddr 4 -/
def lw_X (p : Program) (s : State) (m : MethodId) (meth : Method) (c : Code) (bs L : Nat) (xs : Nat → Int32) (D : va_G) (sa : Nat → Nat) (cy : Nat → ClassId) : Prop := lw_At p s m meth c (sa 4) L xs ∧ am_G D s.heap.size sa cy s ∧ sa 4 = bs ∧ L ≤ 3072
def lw_K (p : Program) (lc : Launch) (e : Env) (s : State) (m : MethodId) (below : List Frame) (meth : Method) (c : Code) (bs : Nat) (D : va_G) (sa : Nat → Nat) (cy : Nat → ClassId) (ce sl pc : Nat) (l : List (Option Value)) (st : List Value) (h : am_H) : Prop :=
  ∀ (H : Heap) (locs : List Loc) (ls : Array Slot), am_Hp D s.heap.size cy h H → va_S (am_A s.heap.size) s.heap H locs → am_L s.heap.size sa ls 7 l → W p lc e room_1 s m #[Value.ref bs] below meth c H locs ce sl (lw_Z below #[Value.ref bs] s) (F0 m pc ls (st.map (am_tv s.heap.size sa)))
section LWR
variable {p : Program} {lc : Launch} {e : Env} {s : State} {m : MethodId} {below : List Frame} {meth : Method} {c : Code} {bs L : Nat} {xs : Nat → Int32} {D : va_G} {sa : Nat → Nat} {cy : Nat → ClassId} {ce sl pc : Nat} {l : List (Option Value)} {st : List Value} {h : am_H}
theorem K_nl {pc' : Nat} {l' : List (Option Value)} (hp : pc = pc') (hl : l = l') (k : lw_K p lc e s m below meth c bs D sa cy ce sl (pc') l' st h) : lw_K p lc e s m below meth c bs D sa cy ce sl (pc) l st h := by subst hp; subst hl; exact k
theorem K_wd {ce' sl' : Nat} (h1 : ce ≤ ce') (h2 : sl ≤ sl') (k : lw_K p lc e s m below meth c bs D sa cy ce' sl' (pc) l st h) : lw_K p lc e s m below meth c bs D sa cy ce sl (pc) l st h := fun H locs ls hH hS hl => W.widen h1 h2 (k H locs ls hH hS hl)
set_option maxHeartbeats 4000000 in
theorem K_pu (hC : lw_X p s m meth c bs L xs D sa cy) {st' : List Value} {i : Instr} {len : Nat} (hdec : decode code pc = .ok (i, len)) (hp : am_pu i st = some (len, st')) (k : lw_K p lc e s m below meth c bs D sa cy ce sl (pc + len) l st' h) : lw_K p lc e s m below meth c bs D sa cy ce sl (pc) l st h := by
  intro H locs ls hH hS hl
  obtain ⟨⟨hx, hb, hr, hml, hown, hts, hX, hbl, hlocks, hgv⟩, hG, hsa, hL⟩ := id hC
  have kk := k H locs ls hH hS hl
  clear k
  unfold am_pu at hp
  split at hp
  next => cases hp; exact lv_iconst hx hb hdec rfl kk
  next => cases hp; exact lv_bipush hx hb hdec rfl kk
  next => cases hp; exact lv_sipush hx hb hdec rfl kk
  next => cases hp; exact lv_lconst hx hb hdec rfl kk
  next => cases hp; exact lv_null hx hb hdec kk
  next => cases hp; exact lv_iadd hx hb hdec kk
  next => cases hp; exact lv_isub hx hb hdec kk
  next => cases hp; exact lv_imul hx hb hdec kk
  next => cases hp; exact lv_iand hx hb hdec kk
  next => cases hp; exact lv_ior hx hb hdec kk
  next => cases hp; exact lv_ixor hx hb hdec kk
  next => cases hp; exact lv_ishl hx hb hdec kk
  next => cases hp; exact lv_ishr hx hb hdec kk
  next => cases hp; exact lv_iushr hx hb hdec rfl kk
  next => cases hp; exact lv_ineg hx hb hdec kk
  next => cases hp; exact lv_ladd hx hb hdec kk
  next => cases hp; exact lv_lsub hx hb hdec kk
  next => cases hp; exact lv_lmul hx hb hdec kk
  next => cases hp; exact lv_land hx hb hdec kk
  next => cases hp; exact lv_lor hx hb hdec kk
  next => cases hp; exact lv_lxor hx hb hdec kk
  next => cases hp; exact lv_lneg hx hb hdec kk
  next => cases hp; exact lv_lshl hx hb hdec rfl kk
  next => cases hp; exact lv_lushr hx hb hdec rfl kk
  next => cases hp; exact W.lcmp hx hb hdec kk
  next => cases hp; exact lv_i2l hx hb hdec rfl kk
  next => cases hp; exact lv_l2i hx hb hdec rfl kk
  next => cases hp; exact lv_dup hx hb hdec rfl kk
  next => cases hp; exact lv_pop hx hb hdec rfl kk
  next => cases hp; exact lv_dup hx hb hdec rfl kk
  next => cases hp; exact lv_pop hx hb hdec rfl kk
  next => cases hp; exact lv_dup2_11 hx hb hdec rfl rfl kk
  next => cases hp
theorem K_ld (hC : lw_X p s m meth c bs L xs D sa cy) {v : Value} {i : Instr} {len x : Nat} (hdec : decode code pc = .ok (i, len)) (hp : am_ld i v = some (x, len)) (hv : l[x]? = some (some v)) (k : lw_K p lc e s m below meth c bs D sa cy ce sl (pc + len) l (v :: st) h) : lw_K p lc e s m below meth c bs D sa cy ce sl (pc) l st h := by
  intro H locs ls hH hS hl
  obtain ⟨⟨hx, hb, hr, hml, hown, hts, hX, hbl, hlocks, hgv⟩, hG, hsa, hL⟩ := id hC
  have kk := k H locs ls hH hS hl
  have hv := hl.2.2 _ _ hv
  clear k
  unfold am_ld at hp
  split at hp
  next => cases hp; exact lv_iload hx hb hdec hv kk
  next => cases hp; exact lv_iload_n hx hb hdec rfl hv kk
  next => cases hp; exact lv_lload hx hb hdec hv kk
  next => cases hp; exact lv_lload_n hx hb hdec rfl hv kk
  next => cases hp; exact lv_aload hx hb hdec hv kk
  next => cases hp; exact lv_aload_n hx hb hdec rfl hv kk
  next => cases hp; exact lv_aloadN hx hb hdec hv kk
  next => cases hp; exact lv_aload_nN hx hb hdec rfl hv kk
  next => cases hp
theorem K_ls (hC : lw_X p s m meth c bs L xs D sa cy) {i : Fin 4} (hdec : decode code pc = .ok (.aload_n i, 1)) (hv : l[i.val]? = some (some (.retAddr 4))) (k : lw_K p lc e s m below meth c bs D sa cy ce sl (pc + 1) l (.retAddr 4 :: st) h) : lw_K p lc e s m below meth c bs D sa cy ce sl (pc) l st h := by
  intro H locs ls hH hS hl
  obtain ⟨⟨hx, hb, hr, hml, hown, hts, hX, hbl, hlocks, hgv⟩, hG, hsa, hL⟩ := id hC
  have kk := k H locs ls hH hS hl
  have hv := hl.2.2 _ _ hv
  exact lv_aload_n hx hb hdec rfl hv kk
theorem K_so (hC : lw_X p s m meth c bs L xs D sa cy) {v : Value} {i : Instr} {len x nL : Nat} (hnL : nL = 7) (hdec : decode code pc = .ok (i, len)) (hp : am_so i v = some (x, len)) (hn : x + 1 < nL + (if v.category = 2 then 0 else 1)) (k : lw_K p lc e s m below meth c bs D sa cy ce sl (pc + len) (am_sv l x v) st h) : lw_K p lc e s m below meth c bs D sa cy ce sl (pc) l (v :: st) h := by
  intro H locs ls hH hS hl
  obtain ⟨⟨hx, hb, hr, hml, hown, hts, hX, hbl, hlocks, hgv⟩, hG, hsa, hL⟩ := id hC
  have kk := fun ls' (hl' : am_L s.heap.size sa ls' nL _) => k H locs ls' hH hS (hnL ▸ hl')
  rw [← hnL] at hl
  clear k
  unfold am_so at hp
  split at hp
  next w => cases hp; obtain ⟨ls', e', hl'⟩ := am_st1 (v := .int w) hl (by simpa [Value.category] using hn) rfl; intro T hT X; obtain ⟨t, a, q⟩ := kk ls' hl' T hT X; refine ⟨t, ?_, q⟩; simp only [am_tv] at e'; simp only [List.map_cons, am_tv]; jvm_step X.here [X.here.top, ↓top_set X.here.top, hx, hb, hdec, e', Value.isRef]; exact a
  next w => cases hp; obtain ⟨ls', e', hl'⟩ := am_st1 (v := .int w) hl (by simpa [Value.category] using hn) rfl; intro T hT X; obtain ⟨t, a, q⟩ := kk ls' hl' T hT X; refine ⟨t, ?_, q⟩; simp only [am_tv] at e'; simp only [List.map_cons, am_tv]; jvm_step X.here [X.here.top, ↓top_set X.here.top, hx, hb, hdec, e', Value.isRef]; exact a
  next w => cases hp; obtain ⟨ls', e', hl'⟩ := am_st2 (v := .long w) hl (by simpa [Value.category] using hn) rfl; intro T hT X; obtain ⟨t, a, q⟩ := kk ls' hl' T hT X; refine ⟨t, ?_, q⟩; simp only [am_tv] at e'; simp only [List.map_cons, am_tv]; jvm_step X.here [X.here.top, ↓top_set X.here.top, hx, hb, hdec, e', Value.isRef]; exact a
  next w => cases hp; obtain ⟨ls', e', hl'⟩ := am_st2 (v := .long w) hl (by simpa [Value.category] using hn) rfl; intro T hT X; obtain ⟨t, a, q⟩ := kk ls' hl' T hT X; refine ⟨t, ?_, q⟩; simp only [am_tv] at e'; simp only [List.map_cons, am_tv]; jvm_step X.here [X.here.top, ↓top_set X.here.top, hx, hb, hdec, e', Value.isRef]; exact a
  next w => cases hp; obtain ⟨ls', e', hl'⟩ := am_st1 (v := .ref w) hl (by simpa [Value.category] using hn) rfl; intro T hT X; obtain ⟨t, a, q⟩ := kk ls' hl' T hT X; refine ⟨t, ?_, q⟩; simp only [am_tv] at e'; simp only [List.map_cons, am_tv]; jvm_step X.here [X.here.top, ↓top_set X.here.top, hx, hb, hdec, e', Value.isRef]; exact a
  next w => cases hp; obtain ⟨ls', e', hl'⟩ := am_st1 (v := .ref w) hl (by simpa [Value.category] using hn) rfl; intro T hT X; obtain ⟨t, a, q⟩ := kk ls' hl' T hT X; refine ⟨t, ?_, q⟩; simp only [am_tv] at e'; simp only [List.map_cons, am_tv]; jvm_step X.here [X.here.top, ↓top_set X.here.top, hx, hb, hdec, e', Value.isRef]; exact a
  next => cases hp
theorem K_iinc (hC : lw_X p s m meth c bs L xs D sa cy) {i : Nat} {n : Int} {x : Int32} (hdec : decode code pc = .ok (.iinc i n, 3)) (hv : l[i]? = some (some (.int x))) (hn : i < 7) (k : lw_K p lc e s m below meth c bs D sa cy ce sl (pc + 3) (am_s1 l i (.int (x + Int32.ofInt n))) st h) : lw_K p lc e s m below meth c bs D sa cy ce sl (pc) l st h := by
  intro H locs ls hH hS hl
  obtain ⟨⟨hx, hb, hr, hml, hown, hts, hX, hbl, hlocks, hgv⟩, hG, hsa, hL⟩ := id hC
  obtain ⟨ls', e', hl'⟩ := am_st1 (v := .int (x + Int32.ofInt n)) hl hn rfl
  have kk := k H locs ls' hH hS hl'
  have hv : ls[i]? = some (.val (.int x)) := hl.2.2 _ _ hv
  obtain ⟨ls2, f1, f2⟩ := lv_store1 (l := [(i, .int x)]) (v := .int (x + Int32.ofInt n)) ⟨hl.1, hl.2.1, fun q hq => by rw [List.mem_singleton.mp hq]; exact hv⟩ hn rfl
  have e2 : storeLocals ls i (.int (x + Int32.ofInt n)) = some ls' := e'
  cases e2.symm.trans f1
  intro T hT X
  obtain ⟨t, a, q⟩ := kk T hT X
  refine ⟨t, ?_, q⟩
  jvm_step X.here [X.here.top, ↓top_set X.here.top, hx, hb, hdec, hv, e2]
  exact a
theorem K_ic_eq (hC : lw_X p s m meth c bs L xs D sa cy) {x y : Int32} {off : Int} (tgt : Nat) (hdec : decode code pc = .ok (.if_icmp .eq off, 3)) (ht : (pc : Int) + off = (tgt : Int)) (kt : x = y → lw_K p lc e s m below meth c bs D sa cy ce sl (tgt) l st h) (kf : ¬ x = y → lw_K p lc e s m below meth c bs D sa cy ce sl (pc + 3) l st h) : lw_K p lc e s m below meth c bs D sa cy ce sl (pc) l (.int y :: .int x :: st) h := by
  intro H locs ls hH hS hl
  obtain ⟨⟨hx, hb, hr, hml, hown, hts, hX, hbl, hlocks, hgv⟩, hG, hsa, hL⟩ := id hC
  exact lv_icmp_eq hx hb hdec ht (fun z => kt z H locs ls hH hS hl) (fun z => kf z H locs ls hH hS hl)
theorem K_ic_gt (hC : lw_X p s m meth c bs L xs D sa cy) {x y : Int32} {off : Int} (tgt : Nat) (hdec : decode code pc = .ok (.if_icmp .gt off, 3)) (ht : (pc : Int) + off = (tgt : Int)) (kt : y < x → lw_K p lc e s m below meth c bs D sa cy ce sl (tgt) l st h) (kf : ¬ y < x → lw_K p lc e s m below meth c bs D sa cy ce sl (pc + 3) l st h) : lw_K p lc e s m below meth c bs D sa cy ce sl (pc) l (.int y :: .int x :: st) h := by
  intro H locs ls hH hS hl
  obtain ⟨⟨hx, hb, hr, hml, hown, hts, hX, hbl, hlocks, hgv⟩, hG, hsa, hL⟩ := id hC
  exact lv_icmp_gt hx hb hdec ht (fun z => kt z H locs ls hH hS hl) (fun z => kf z H locs ls hH hS hl)
theorem K_if_eq (hC : lw_X p s m meth c bs L xs D sa cy) {x : Int32} {off : Int} (tgt : Nat) (hdec : decode code pc = .ok (.ifCond .eq off, 3)) (ht : (pc : Int) + off = (tgt : Int)) (kt : x = 0 → lw_K p lc e s m below meth c bs D sa cy ce sl (tgt) l st h) (kf : ¬ x = 0 → lw_K p lc e s m below meth c bs D sa cy ce sl (pc + 3) l st h) : lw_K p lc e s m below meth c bs D sa cy ce sl (pc) l (.int x :: st) h := by
  intro H locs ls hH hS hl
  obtain ⟨⟨hx, hb, hr, hml, hown, hts, hX, hbl, hlocks, hgv⟩, hG, hsa, hL⟩ := id hC
  exact lv_if_eq hx hb hdec ht (fun z => kt z H locs ls hH hS hl) (fun z => kf z H locs ls hH hS hl)
theorem K_if_ne (hC : lw_X p s m meth c bs L xs D sa cy) {x : Int32} {off : Int} (tgt : Nat) (hdec : decode code pc = .ok (.ifCond .ne off, 3)) (ht : (pc : Int) + off = (tgt : Int)) (kt : ¬ x = 0 → lw_K p lc e s m below meth c bs D sa cy ce sl (tgt) l st h) (kf : x = 0 → lw_K p lc e s m below meth c bs D sa cy ce sl (pc + 3) l st h) : lw_K p lc e s m below meth c bs D sa cy ce sl (pc) l (.int x :: st) h := by
  intro H locs ls hH hS hl
  obtain ⟨⟨hx, hb, hr, hml, hown, hts, hX, hbl, hlocks, hgv⟩, hG, hsa, hL⟩ := id hC
  exact lv_if_ne hx hb hdec ht (fun z => kt z H locs ls hH hS hl) (fun z => kf z H locs ls hH hS hl)
theorem K_goto (hC : lw_X p s m meth c bs L xs D sa cy) {off : Int} (tgt : Nat) (hdec : decode code pc = .ok (.goto off, 3)) (ht : (pc : Int) + off = (tgt : Int)) (k : lw_K p lc e s m below meth c bs D sa cy ce sl (tgt) l st h) : lw_K p lc e s m below meth c bs D sa cy ce sl (pc) l st h := by
  intro H locs ls hH hS hl
  obtain ⟨⟨hx, hb, hr, hml, hown, hts, hX, hbl, hlocks, hgv⟩, hG, hsa, hL⟩ := id hC
  exact lv_goto hx hb hdec ht (k H locs ls hH hS hl)
theorem K_tOut (hC : lw_X p s m meth c bs L xs D sa cy) {dflt lo hi : Int} {offs : Array Int} {len : Nat} {x : Int32} (tgt : Nat) (hdec : decode code pc = .ok (.tableswitch dflt lo hi offs, len)) (hx9 : x.toInt < lo ∨ hi < x.toInt) (ht : (pc : Int) + dflt = (tgt : Int)) (k : lw_K p lc e s m below meth c bs D sa cy ce sl (tgt) l st h) : lw_K p lc e s m below meth c bs D sa cy ce sl (pc) l (.int x :: st) h := by
  intro H locs ls hH hS hl
  obtain ⟨⟨hx, hb, hr, hml, hown, hts, hX, hbl, hlocks, hgv⟩, hG, hsa, hL⟩ := id hC
  exact lv_tableOut hx hb hdec hx9 ht (k H locs ls hH hS hl)
theorem K_tIn (hC : lw_X p s m meth c bs L xs D sa cy) {dflt lo hi : Int} {offs : Array Int} {len : Nat} {x : Int32} {off : Int} (tgt : Nat) (hdec : decode code pc = .ok (.tableswitch dflt lo hi offs, len)) (hx1 : ¬ x.toInt < lo) (hx2 : ¬ hi < x.toInt) (ho : offs[(x.toInt - lo).toNat]? = some off) (ht : (pc : Int) + off = (tgt : Int)) (k : lw_K p lc e s m below meth c bs D sa cy ce sl (tgt) l st h) : lw_K p lc e s m below meth c bs D sa cy ce sl (pc) l (.int x :: st) h := by
  intro H locs ls hH hS hl
  obtain ⟨⟨hx, hb, hr, hml, hown, hts, hX, hbl, hlocks, hgv⟩, hG, hsa, hL⟩ := id hC
  exact lv_tableIn hx hb hdec hx1 hx2 ho ht (k H locs ls hH hS hl)
theorem K_ldc2 (hC : lw_X p s m meth c bs L xs D sa cy) {idx : Nat} {v : Int64} (hdec : decode code pc = .ok (.ldc2_w idx, 3)) (hw : Jvm.Cond.constantLong R_law idx v ∈ lw_tbl) (k : lw_K p lc e s m below meth c bs D sa cy ce sl (pc + 3) l (.long v :: st) h) : lw_K p lc e s m below meth c bs D sa cy ce sl (pc) l st h := by
  intro H locs ls hH hS hl
  obtain ⟨⟨hx, hb, hr, hml, hown, hts, hX, hbl, hlocks, hgv⟩, hG, hsa, hL⟩ := id hC
  exact lv_ldc2 hx hb hown (hts _ hw) hdec (k H locs ls hH hS hl)
theorem K_sld (hC : lw_X p s m meth c bs L xs D sa cy) {x : Int32} (hdec : decode code pc = .ok (.iaload, 1)) (hin : vp_in x L) (k : lw_K p lc e s m below meth c bs D sa cy ce sl (pc + 1) l (.int (xs x.toNatClampNeg) :: st) h) : lw_K p lc e s m below meth c bs D sa cy ce sl (pc) l (.int x :: .retAddr 4 :: st) h := by
  intro H locs ls hH hS hl
  obtain ⟨⟨hx, hb, hr, hml, hown, hts, hX, hbl, hlocks, hgv⟩, hG, hsa, hL⟩ := id hC
  exact va_sld hx hb hX hbl (Nat.not_le.mpr hbl) hS hin hdec (k H locs ls hH hS hl)
theorem K_slen (hC : lw_X p s m meth c bs L xs D sa cy) (hdec : decode code pc = .ok (.arraylength, 1)) (k : lw_K p lc e s m below meth c bs D sa cy ce sl (pc + 1) l (.int (Int32.ofNat L) :: st) h) : lw_K p lc e s m below meth c bs D sa cy ce sl (pc) l (.retAddr 4 :: st) h := by
  intro H locs ls hH hS hl
  obtain ⟨⟨hx, hb, hr, hml, hown, hts, hX, hbl, hlocks, hgv⟩, hG, hsa, hL⟩ := id hC
  exact va_slen hx hb hX hbl (Nat.not_le.mpr hbl) hS hdec (k H locs ls hH hS hl)
theorem K_lald (hC : lw_X p s m meth c bs L xs D sa cy) {r n : Nat} {x : Int32} (hdec : decode code pc = .ok (.laload, 1)) (hs : am_s h r = some (101, n)) (hin : vp_in x n) (k : lw_K p lc e s m below meth c bs D sa cy ce sl (pc + 1) l (.long (am_l h r x.toNatClampNeg) :: st) h) : lw_K p lc e s m below meth c bs D sa cy ce sl (pc) l (.int x :: .ref r :: st) h := by
  intro H locs ls hH hS hl
  obtain ⟨⟨hx, hb, hr, hml, hown, hts, hX, hbl, hlocks, hgv⟩, hG, hsa, hL⟩ := id hC
  obtain ⟨q, -, hq⟩ := am_find hH hs
  rw [am_ce_l hs] at hq
  exact va_lald hx hb hG.1 hH.1 q 1 hq rfl hin hdec (k H locs ls hH hS hl)
theorem K_new (hC : lw_X p s m meth c bs L xs D sa cy) {idx k0 : Nat} {Cn : String} {T : u_T} (hdec : decode code pc = .ok (.new idx, 3)) (hok : am_ok k0 Cn T) (hl1 : Cond.classLink R_law idx Cn ∈ lw_tbl) (hl2 : Cond.instantiable Cn (am_nf k0) ∈ lw_tbl) (hl3 : Cond.initialized Cn ∈ lw_tbl) (h1 : ce + 1 ≤ 601024) (h2 : sl + am_nf k0 ≤ 7293034) (k : lw_K p lc e s m below meth c bs D sa cy (ce + 1) (sl + am_nf k0) (pc + 3) l (.ref (am_t h) :: st) (am_nw h (k0, 0) (am_nf k0))) : lw_K p lc e s m below meth c bs D sa cy ce sl (pc) l st h := by
  intro H locs ls hH hS hl
  obtain ⟨⟨hx, hb, hr, hml, hown, hts, hX, hbl, hlocks, hgv⟩, hG, hsa, hL⟩ := id hC
  subst hsa
  obtain ⟨b, hbe⟩ : ∃ b, b = s.heap.size := ⟨_, rfl⟩
  rw [← hbe] at hH hS hl hG
  have k := fun H locs ls a1 a2 a3 => k H locs ls (by rw [← hbe]; exact a1) (by rw [← hbe]; exact a2) (by rw [← hbe]; exact a3)
  rw [← hbe] at k ⊢
  have hRc : room_1.cells = 601024 := rfl
  have hRs : room_1.slots = 7293034 := rfl
  obtain ⟨hc, hin, hty, hnm, hk⟩ := hok
  have hts' : ∀ w ∈ am_GT, w.before #[Value.ref (sa 4)] s = true := fun w hw => hts w (List.mem_filter.mp hw).1
  have hKn := hG.1.1 k0 _ hc
  refine W.newcK hx hb hown (hts _ hl1) (hts _ hl2) (hts _ hl3) rfl hdec (by omega) (by omega) hKn.2.1 rfl fun H1 kC hkC e1 z1 o1 => ?_
  have hk9 : ∀ (q : Nat) (x : Nat × va_E), (am_wl b cy h)[q]? = some x → H1[x.1]? = H[x.1]? := fun q x hx => o1 x.1 ((hH.1 q x hx).lt)
  have hsz : H.size = b + am_t h := hH.2.2.1
  have hce : am_ce b cy (am_nw h (k0, 0) (am_nf k0)) (am_t h) = .inr (k0, (List.range (am_nf k0)).map (fun j => defaultValue (am_ty k0 j))) := by
    rw [am_ce_ob am_nw_s hk]
    refine congrArg (fun z => Sum.inr (k0, z)) (List.map_congr_left fun j hj => ?_)
    have z1 : am_i (am_nw h (k0, 0) (am_nf k0)) (am_t h) = fun _ => 0 := am_ro_eq
    have z2 : am_l (am_nw h (k0, 0) (am_nf k0)) (am_t h) = fun _ => 0 := am_ro_eq
    have z3 : am_p (am_nw h (k0, 0) (am_nf k0)) (am_t h) = fun _ => none := am_ro_eq
    unfold am_fv
    rw [z1, z2, z3]
    have hnf : ∀ ty, ty = am_ty k0 j → ty ≠ .float ∧ ty ≠ .double := by
      intro ty hty'
      have hj' := List.mem_range.mp hj
      exact am_nofl hty' hk hj'
    cases hq : am_ty k0 j <;> first | rfl | exact absurd rfl (hnf _ hq.symm).1 | exact absurd rfl (hnf _ hq.symm).2
  have hat : va_at D vwCl (b + am_t h, .inr (k0, (List.range (am_nf k0)).map (fun j => defaultValue (am_ty k0 j)))) H1 := by
    refine ⟨_, hc, ?_⟩
    rw [hsz] at e1
    exact (u_born (am_ty k0) hts' hin hKn hkC e1 hty).to (fun j hj => by simp [vp_V, hj])
  have hP1 : va_P D vwCl (am_wl b cy h ++ [(b + am_t h, .inr (k0, (List.range (am_nf k0)).map (fun j => defaultValue (am_ty k0 j))))]) H1 := (hH.1.kept hk9).app (fun q x hx => by
    have hz : q < 1 := (List.getElem?_eq_some_iff.mp hx).1
    rw [show q = 0 by omega] at hx
    cases hx
    exact hat)
  have hA : am_A b (b + am_t h) := Nat.le_add_right _ _
  have hD1 := hH.2.1.push (e := .inr (k0, (List.range (am_nf k0)).map (fun j => defaultValue (am_ty k0 j)))) hH.1 hsz.symm hA
  rw [hsz]
  exact k H1 locs ls (am_nwHp hH hce hP1 hD1 z1) ⟨Nat.le_trans hS.1 (by omega), fun x g1 g2 => (o1 x (Nat.lt_of_lt_of_le g1 hS.1)).trans (hS.2.1 x g1 g2), hS.2.2⟩ hl
theorem K_newL (hC : lw_X p s m meth c bs L xs D sa cy) {x : Int32} {N : Nat} (hdec : decode code pc = .ok (.newarray .long, 2)) (hn : ¬ x < 0) (hN : x.toNatClampNeg = N) (hN2 : N ≤ 60000000) (hw : Cond.arrayClass .long ∈ lw_tbl) (h1 : ce + 1 ≤ 601024) (h2 : sl + N ≤ 7293034) (k : lw_K p lc e s m below meth c bs D sa cy (ce + 1) (sl + N) (pc + 2) l (.ref (am_t h) :: st) (am_nw h (101, N) N)) : lw_K p lc e s m below meth c bs D sa cy ce sl (pc) l (.int x :: st) h := by
  intro H locs ls hH hS hl
  obtain ⟨⟨hx, hb, hr, hml, hown, hts, hX, hbl, hlocks, hgv⟩, hG, hsa, hL⟩ := id hC
  subst hsa
  obtain ⟨b, hbe⟩ : ∃ b, b = s.heap.size := ⟨_, rfl⟩
  rw [← hbe] at hH hS hl hG
  have k := fun H locs ls a1 a2 a3 => k H locs ls (by rw [← hbe]; exact a1) (by rw [← hbe]; exact a2) (by rw [← hbe]; exact a3)
  rw [← hbe] at k ⊢
  have hRc : room_1.cells = 601024 := rfl
  have hRs : room_1.slots = 7293034 := rfl
  have hsz : H.size = b + am_t h := hH.2.2.1
  refine va_newaK hx hb (atype := .long) (hts _ hw) rfl hdec rfl hn hN (by show N * componentBytes .long ≤ 536870912; simp only [componentBytes]; omega) (by omega) (by omega) rfl fun H1 cA e1 z1 o1 hAr hNm => ?_
  have hcA : cA = cy 1 := Option.some.inj (hNm.symm.trans (hG.1.2 1 _ rfl).2)
  subst hcA
  have hce : am_ce b cy (am_nw h (101, N) N) (am_t h) = .inl (cy 1, N, .inr (.inl (fun _ => 0))) := by
    rw [am_ce_l am_nw_s]
    have z : am_l (am_nw h (101, N) N) (am_t h) = fun _ => 0 := am_ro_eq
    rw [z]
  have hat : va_at D vwCl (b + am_t h, .inl (cy 1, N, .inr (.inl (fun _ => 0)))) H1 := by
    show H1[b + am_t h]? = some (vp_cell _ _)
    rw [← hsz, vp_cell_l]
    exact e1
  have hk9 : ∀ (q : Nat) (x : Nat × va_E), (am_wl b cy h)[q]? = some x → H1[x.1]? = H[x.1]? := fun q x hx => o1 x.1 ((hH.1 q x hx).lt)
  have hP1 : va_P D vwCl (am_wl b cy h ++ [(b + am_t h, .inl (cy 1, N, .inr (.inl (fun _ => 0))))]) H1 := (hH.1.kept hk9).app (fun q x hx => by
    have hz : q < 1 := (List.getElem?_eq_some_iff.mp hx).1
    rw [show q = 0 by omega] at hx
    cases hx
    exact hat)
  have hD1 := hH.2.1.push (e := .inl (cy 1, N, .inr (.inl (fun _ => 0)))) hH.1 hsz.symm (show am_A b (b + am_t h) from Nat.le_add_right _ _)
  rw [hsz]
  exact k H1 locs ls (am_nwHp hH hce hP1 hD1 z1) ⟨Nat.le_trans hS.1 (by omega), fun x g1 g2 => (o1 x (Nat.lt_of_lt_of_le g1 hS.1)).trans (hS.2.1 x g1 g2), hS.2.2⟩ hl
theorem K_cV (hC : lw_X p s m meth c bs L xs D sa cy) {idx r k0 n0 d' : Nat} {N : am_M} {vs : List Value} {v : Option Value} {h1' : am_H} {T : u_T} {fN : Nat} (hdec : decode code pc = .ok (.invokevirtual idx, 3)) (hd : d' < 1000) (hr9 : (st.map fun v => v.category).sum ≤ 8) (hlk : am_lk R_law idx N.1) (hm : am_mV N vs.length) (hs : am_s h r = some (k0, n0)) (hk0 : k0 < 100) (hcl : vwCl[k0]? = some (N.1.cls, T, fN)) (hlen : (am_ea (.ref r :: vs)).length ≤ N.2.2.1) (hc : am_Sem d' N 0 (am_en N.2.2.1 (.ref r :: vs)) [] h (v, h1')) (hB1 : ce + (am_t h1' - am_t h) ≤ 601024) (hB2 : sl + (am_u h1' - am_u h) ≤ 7293034) (k : lw_K p lc e s m below meth c bs D sa cy (ce + (am_t h1' - am_t h)) (sl + (am_u h1' - am_u h)) (pc + 3) l (v.toList ++ st) h1') : lw_K p lc e s m below meth c bs D sa cy ce sl (pc) l (vs.reverse ++ .ref r :: st) h := by
  intro H locs ls hH hS hl
  obtain ⟨⟨hx, hb, hr, hml, hown, hts, hX, hbl, hlocks, hgv⟩, hG, hsa, hL⟩ := id hC
  subst hsa
  obtain ⟨b, hbe⟩ : ∃ b, b = s.heap.size := ⟨_, rfl⟩
  rw [← hbe] at hH hS hl hG
  have k := fun H locs ls a1 a2 a3 => k H locs ls (by rw [← hbe]; exact a1) (by rw [← hbe]; exact a2) (by rw [← hbe]; exact a3)
  rw [← hbe] at k ⊢
  have hRc : room_1.cells = 601024 := rfl
  have hRs : room_1.slots = 7293034 := rfl
  have m1 := hc.1
  have hts' : ∀ w ∈ am_GT, w.before #[Value.ref (sa 4)] s = true := fun w hw => hts w (List.mem_filter.mp hw).1
  have hgood := am_good hm.1.1
  have hnl : N.2.2.1 ≤ 45 := hm.1.2.2.2.2
  have hR : (am_rm d' h (v, h1')).frames + 1 ≤ room_1.frames ∧ 8 + (N.2.2.1 + 11) + (am_rm d' h (v, h1')).locals ≤ room_1.locals := ⟨by show d' + 1 ≤ 2048; omega, by show 8 + (N.2.2.1 + 11) + 64 * d' ≤ 84000; omega⟩
  have hf : ce + (am_t h1' - am_t h) ≤ room_1.cells ∧ sl + (am_u h1' - am_u h) ≤ room_1.slots := ⟨by show _ ≤ 601024; omega, by show _ ≤ 7293034; omega⟩
  have kk : ∀ (H1 : Heap) (locs1 : List Loc), am_Hp D b cy h1' H1 → va_S (am_A b) s.heap H1 locs1 → W p lc e room_1 s m #[Value.ref (sa 4)] below meth c H1 locs1 (ce + (am_t h1' - am_t h)) (sl + (am_u h1' - am_u h)) (lw_Z below #[Value.ref (sa 4)] s) (F0 m (pc + 3) ls ((v.map (am_tv b sa)).toList ++ st.map (am_tv b sa))) := by
    intro H1 locs1 hH1 hS1
    rw [am_vst]
    exact k H1 locs1 ls hH1 hS1 hl
  have hPU : ∀ U : State, U.heap = H → s.WarmedH U.vm → am_G D b sa cy U ∧ am_Hp D b cy h U.heap := fun U hU hW => ⟨hG.call hW hU hS, by rw [hU]; exact hH⟩
  obtain ⟨q, -, hq⟩ := am_find hH hs
  rw [am_ce_ob hs hk0] at hq
  have hrec := va_recv hG.1 hH.1 hcl hq
  have hst : (vs.reverse ++ .ref r :: st).map (am_tv b sa) = (vs.map (am_tv b sa)).reverse ++ .ref (b + r) :: st.map (am_tv b sa) := by
    rw [List.map_append, List.map_reverse]; rfl
  rw [hst]
  rcases hlk with hlk | ⟨host, hlk⟩
  · exact am_goes (va_runV (As := vs.map (am_tv b sa)) (rest := st.map (am_tv b sa)) ⟨hx, hb, hml, hown, hts'⟩ (am_met hc hm.1 hlen) ⟨callB_of vs.length hts' hgood rfl rfl rfl (hts _ hm.1.2.1) (hts _ hlk) hm.1.2.2.2.1 hR, hts _ hm.2.1, hts _ hm.2.2⟩ ⟨am_blind, hrec, fun U hU hW => ⟨rfl, hPU U hU hW⟩⟩ rfl (by simp) hl.1 rfl (lv_room (by rw [am_tv_cats]; exact hr9)) hdec hf) hS kk
  · exact am_goes (va_runVN (As := vs.map (am_tv b sa)) (rest := st.map (am_tv b sa)) ⟨hx, hb, hml, hown, hts'⟩ (am_met hc hm.1 hlen) ⟨va_cnB vs.length hts' hgood rfl rfl rfl (hG.2.1 _ hlk rfl) (hts _ hm.1.2.1) hm.1.2.2.2.1 hR, hts _ hm.2.1, hts _ hm.2.2⟩ ⟨am_blind, hrec, fun U hU hW => ⟨rfl, hPU U hU hW⟩⟩ rfl (by simp) hl.1 rfl (lv_room (by rw [am_tv_cats]; exact hr9)) hdec hf) hS kk
theorem K_cS (hC : lw_X p s m meth c bs L xs D sa cy) {idx d' : Nat} {N : am_M} {vs : List Value} {v : Option Value} {h1' : am_H} (hdec : decode code pc = .ok (.invokestatic idx, 3)) (hd : d' < 1000) (hr9 : (st.map fun v => v.category).sum ≤ 8) (hlk : am_lk R_law idx N.1) (hm : am_mS N vs.length) (hlen : (am_ea vs).length ≤ N.2.2.1) (hc : am_Sem d' N 0 (am_en N.2.2.1 vs) [] h (v, h1')) (hB1 : ce + (am_t h1' - am_t h) ≤ 601024) (hB2 : sl + (am_u h1' - am_u h) ≤ 7293034) (k : lw_K p lc e s m below meth c bs D sa cy (ce + (am_t h1' - am_t h)) (sl + (am_u h1' - am_u h)) (pc + 3) l (v.toList ++ st) h1') : lw_K p lc e s m below meth c bs D sa cy ce sl (pc) l (vs.reverse ++ st) h := by
  intro H locs ls hH hS hl
  obtain ⟨⟨hx, hb, hr, hml, hown, hts, hX, hbl, hlocks, hgv⟩, hG, hsa, hL⟩ := id hC
  subst hsa
  obtain ⟨b, hbe⟩ : ∃ b, b = s.heap.size := ⟨_, rfl⟩
  rw [← hbe] at hH hS hl hG
  have k := fun H locs ls a1 a2 a3 => k H locs ls (by rw [← hbe]; exact a1) (by rw [← hbe]; exact a2) (by rw [← hbe]; exact a3)
  rw [← hbe] at k ⊢
  have hRc : room_1.cells = 601024 := rfl
  have hRs : room_1.slots = 7293034 := rfl
  have m1 := hc.1
  have hts' : ∀ w ∈ am_GT, w.before #[Value.ref (sa 4)] s = true := fun w hw => hts w (List.mem_filter.mp hw).1
  have hgood := am_good hm.1.1
  have hnl : N.2.2.1 ≤ 45 := hm.1.2.2.2.2
  have hR : (am_rm d' h (v, h1')).frames + 1 ≤ room_1.frames ∧ 8 + (N.2.2.1 + 11) + (am_rm d' h (v, h1')).locals ≤ room_1.locals := ⟨by show d' + 1 ≤ 2048; omega, by show 8 + (N.2.2.1 + 11) + 64 * d' ≤ 84000; omega⟩
  have hf : ce + (am_t h1' - am_t h) ≤ room_1.cells ∧ sl + (am_u h1' - am_u h) ≤ room_1.slots := ⟨by show _ ≤ 601024; omega, by show _ ≤ 7293034; omega⟩
  have kk : ∀ (H1 : Heap) (locs1 : List Loc), am_Hp D b cy h1' H1 → va_S (am_A b) s.heap H1 locs1 → W p lc e room_1 s m #[Value.ref (sa 4)] below meth c H1 locs1 (ce + (am_t h1' - am_t h)) (sl + (am_u h1' - am_u h)) (lw_Z below #[Value.ref (sa 4)] s) (F0 m (pc + 3) ls ((v.map (am_tv b sa)).toList ++ st.map (am_tv b sa))) := by
    intro H1 locs1 hH1 hS1
    rw [am_vst]
    exact k H1 locs1 ls hH1 hS1 hl
  have hPU : ∀ U : State, U.heap = H → s.WarmedH U.vm → am_G D b sa cy U ∧ am_Hp D b cy h U.heap := fun U hU hW => ⟨hG.call hW hU hS, by rw [hU]; exact hH⟩
  have hst : (vs.reverse ++ st).map (am_tv b sa) = (vs.map (am_tv b sa)).reverse ++ st.map (am_tv b sa) := by
    rw [List.map_append, List.map_reverse]
  rw [hst]
  rcases hlk with hlk | ⟨host, hlk⟩
  · exact am_goes (va_runS (As := vs.map (am_tv b sa)) (rest := st.map (am_tv b sa)) ⟨hx, hb, hml, hown, hts'⟩ (am_met hc hm.1 hlen) ⟨callB_of vs.length hts' hgood rfl rfl rfl (hts _ hm.1.2.1) (hts _ hlk) hm.1.2.2.2.1 hR, hts _ hm.2⟩ ⟨am_blind, fun U hU hW => ⟨rfl, hPU U hU hW⟩⟩ rfl (by simp) hl.1 rfl (lv_room (by rw [am_tv_cats]; exact hr9)) hdec hf) hS kk
  · exact am_goes (va_runSN (As := vs.map (am_tv b sa)) (rest := st.map (am_tv b sa)) ⟨hx, hb, hml, hown, hts'⟩ (am_met hc hm.1 hlen) ⟨va_cnB vs.length hts' hgood rfl rfl rfl (hG.2.1 _ hlk rfl) (hts _ hm.1.2.1) hm.1.2.2.2.1 hR, hts _ hm.2, trivial⟩ ⟨am_blind, fun U hU hW => ⟨rfl, hPU U hU hW⟩⟩ rfl (by simp) hl.1 rfl (lv_room (by rw [am_tv_cats]; exact hr9)) hdec hf) hS kk
theorem K_cI (hC : lw_X p s m meth c bs L xs D sa cy) {idx r d' : Nat} {N : am_M} {vs : List Value} {v : Option Value} {h1' : am_H} (hdec : decode code pc = .ok (.invokespecial idx, 3)) (hd : d' < 1000) (hr9 : (st.map fun v => v.category).sum ≤ 8) (hlk : am_lk R_law idx N.1) (hm : am_mI N vs.length) (hlen : (am_ea (.ref r :: vs)).length ≤ N.2.2.1) (hc : am_Sem d' N 0 (am_en N.2.2.1 (.ref r :: vs)) [] h (v, h1')) (hB1 : ce + (am_t h1' - am_t h) ≤ 601024) (hB2 : sl + (am_u h1' - am_u h) ≤ 7293034) (k : lw_K p lc e s m below meth c bs D sa cy (ce + (am_t h1' - am_t h)) (sl + (am_u h1' - am_u h)) (pc + 3) l (v.toList ++ st) h1') : lw_K p lc e s m below meth c bs D sa cy ce sl (pc) l (vs.reverse ++ .ref r :: st) h := by
  intro H locs ls hH hS hl
  obtain ⟨⟨hx, hb, hr, hml, hown, hts, hX, hbl, hlocks, hgv⟩, hG, hsa, hL⟩ := id hC
  subst hsa
  obtain ⟨b, hbe⟩ : ∃ b, b = s.heap.size := ⟨_, rfl⟩
  rw [← hbe] at hH hS hl hG
  have k := fun H locs ls a1 a2 a3 => k H locs ls (by rw [← hbe]; exact a1) (by rw [← hbe]; exact a2) (by rw [← hbe]; exact a3)
  rw [← hbe] at k ⊢
  have hRc : room_1.cells = 601024 := rfl
  have hRs : room_1.slots = 7293034 := rfl
  have m1 := hc.1
  have hts' : ∀ w ∈ am_GT, w.before #[Value.ref (sa 4)] s = true := fun w hw => hts w (List.mem_filter.mp hw).1
  have hgood := am_good hm.1.1
  have hnl : N.2.2.1 ≤ 45 := hm.1.2.2.2.2
  have hR : (am_rm d' h (v, h1')).frames + 1 ≤ room_1.frames ∧ 8 + (N.2.2.1 + 11) + (am_rm d' h (v, h1')).locals ≤ room_1.locals := ⟨by show d' + 1 ≤ 2048; omega, by show 8 + (N.2.2.1 + 11) + 64 * d' ≤ 84000; omega⟩
  have hf : ce + (am_t h1' - am_t h) ≤ room_1.cells ∧ sl + (am_u h1' - am_u h) ≤ room_1.slots := ⟨by show _ ≤ 601024; omega, by show _ ≤ 7293034; omega⟩
  have kk : ∀ (H1 : Heap) (locs1 : List Loc), am_Hp D b cy h1' H1 → va_S (am_A b) s.heap H1 locs1 → W p lc e room_1 s m #[Value.ref (sa 4)] below meth c H1 locs1 (ce + (am_t h1' - am_t h)) (sl + (am_u h1' - am_u h)) (lw_Z below #[Value.ref (sa 4)] s) (F0 m (pc + 3) ls ((v.map (am_tv b sa)).toList ++ st.map (am_tv b sa))) := by
    intro H1 locs1 hH1 hS1
    rw [am_vst]
    exact k H1 locs1 ls hH1 hS1 hl
  have hPU : ∀ U : State, U.heap = H → s.WarmedH U.vm → am_G D b sa cy U ∧ am_Hp D b cy h U.heap := fun U hU hW => ⟨hG.call hW hU hS, by rw [hU]; exact hH⟩
  have hst : (vs.reverse ++ .ref r :: st).map (am_tv b sa) = (vs.map (am_tv b sa)).reverse ++ .ref (b + r) :: st.map (am_tv b sa) := by
    rw [List.map_append, List.map_reverse]; rfl
  rw [hst]
  obtain ⟨y, cc', nL', rt⟩ := N
  have hret : rt = none := hm.2.2.2
  subst hret
  rcases hlk with hlk | ⟨host, hlk⟩
  · exact am_goes (va_runI (As := vs.map (am_tv b sa)) (rest := st.map (am_tv b sa)) ⟨hx, hb, hml, hown, hts'⟩ (am_met hc hm.1 hlen) ⟨callB_of vs.length hts' hgood rfl rfl rfl (hts _ hm.1.2.1) (hts _ hlk) hm.1.2.2.2.1 hR, hm.2.1, hts _ hm.2.2.1⟩ ⟨am_blind, fun U hU hW => ⟨rfl, hPU U hU hW⟩⟩ rfl (by simp) hl.1 rfl (lv_room (by rw [am_tv_cats]; exact hr9)) hdec hf) hS kk
  · exact am_goes (va_runIN (As := vs.map (am_tv b sa)) (rest := st.map (am_tv b sa)) ⟨hx, hb, hml, hown, hts'⟩ (am_met hc hm.1 hlen) ⟨va_cnB vs.length hts' hgood rfl rfl rfl (hG.2.1 _ hlk rfl) (hts _ hm.1.2.1) hm.1.2.2.2.1 hR, hm.2.1, hts _ hm.2.2.1⟩ ⟨am_blind, fun U hU hW => ⟨rfl, hPU U hU hW⟩⟩ rfl (by simp) hl.1 rfl (lv_room (by rw [am_tv_cats]; exact hr9)) hdec hf) hS kk
theorem K_ret (hC : lw_X p s m meth c bs L xs D sa cy) (hdec : decode code pc = .ok (.ireturn, 1)) (h1 : ce ≤ 601024) (h2 : sl ≤ 7293034) : lw_K p lc e s m below meth c bs D sa cy ce sl (pc) l [.int 1] h := by
  intro H locs ls hH hS hl
  obtain ⟨⟨hx, hb, hr, hml, hown, hts, hX, hbl, hlocks, hgv⟩, hG, hsa, hL⟩ := id hC
  subst hsa
  refine va_forget (fun q hq => hS.2.2 q hq) ?_
  refine W.widen (k := 601024) (n := 7293034) h1 h2 ?_
  exact lw_ret hx hb hr hlocks hdec
end LWR
