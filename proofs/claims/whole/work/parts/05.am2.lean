/-! the world's side conditions, and what it means that the abstract machine's run is the machine's -/
def am_A (b : Nat) : Nat → Prop := fun q => b ≤ q
def am_tys (cy : Nat → ClassId) : List (ClassId × FieldType) := [(cy 0, .int), (cy 1, .long), (cy 2, .boolean), (cy 3, .object "MouthHouse$Manners")]
def am_nest : Cond → Bool
  | .fieldLinkNest .. => true
  | .methodLinkNest .. => true
  | _ => false
/-- the constant arrays of the class: class, name, what they hold -/
def am_ss : List (String × String × List Int32) := [("MouthHouse$Manners", "LETTERS", [118, 119, 100, 101, 110, 115]), ("MouthHouse$HouseReader", "LETTERS", [118, 100, 101, 107, 110, 121, 98]), ("MouthHouse$Members", "MOST", [1, 20, 99, 3, 7, 20, 99]), ("MouthHouse$Members", "USUAL", [1, 1, 0, 0, 7, 3, 10])]
def am_St (b : Nat) (sa : Nat → Nat) (U : State) : Prop := ∀ (i : Nat) (q : String × String × List Int32), am_ss[i]? = some q → va_Z q.1 q.2.1 "[I" (.ref (sa i)) (am_A b) U U.heap ∧ va_T .int (sa i) q.2.2.length (fun j => .int (q.2.2.getD j 0)) (am_A b) U U.heap ∧ sa i < U.heap.size ∧ sa i < b
def am_G (D : va_G) (b : Nat) (sa : Nat → Nat) (cy : Nat → ClassId) (U : State) : Prop := va_K D vwCl (am_tys cy) U ∧ (∀ w ∈ lw_tbl, am_nest w = true → va_Nw w U) ∧ am_St b sa U ∧ va_AO "MouthHouse$Manners" U ∧ b ≤ U.heap.size
theorem am_G.same {D : va_G} {b : Nat} {sa : Nat → Nat} {cy : Nat → ClassId} {u U : State} (hv : u.vm = U.vm) (hh : u.heap = U.heap) (h : am_G D b sa cy u) : am_G D b sa cy U := by
  have ha : u.vm.Alike U.vm := by rw [hv]; exact Vm.Alike.refl _
  obtain ⟨h1, h2, h3, h4, h5⟩ := h
  refine ⟨h1.moved ha, fun w hw hn => ?_, fun i q hq => ?_, va_AO.moved ha h4, by rw [← hh]; exact h5⟩
  · have hz := h2 w hw hn
    cases w <;> first | (simp [am_nest] at hn; done) | exact va_Nw.same rfl hv hz
  · obtain ⟨g1, g2, g3, g4⟩ := h3 i q hq
    exact ⟨by rw [← hh]; exact va_Z.moved ha g1, by rw [← hh]; exact va_T.moved ha g2, by rw [← hh]; exact g3, g4⟩
theorem am_G.call {D : va_G} {b : Nat} {sa : Nat → Nat} {cy : Nat → ClassId} {s U : State} {H : Heap} {locs : List Loc} (h : am_G D b sa cy s) (hW : s.WarmedH U.vm) (hU : U.heap = H) (hS : va_S (am_A b) s.heap H locs) : am_G D b sa cy U := by
  have ha : s.vm.Alike U.vm := hW.alike
  obtain ⟨h1, h2, h3, h4, h5⟩ := h
  refine ⟨h1.moved ha, fun w hw hn => ?_, fun i q hq => ?_, va_AO.moved ha h4, by rw [hU]; exact Nat.le_trans h5 hS.1⟩
  · have hz := h2 w hw hn
    cases w <;> first | (simp [am_nest] at hn; done) | exact va_Nw.warmF hW hz | exact va_Nw.warmM hW hz
  · obtain ⟨g1, g2, g3, g4⟩ := h3 i q hq
    have hnA : ¬ am_A b (sa i) := Nat.not_le.mpr g4
    rw [hU]
    exact ⟨va_Z.moved ha (g1.kept hS.2.1), va_T.moved ha (g2.kept hS.2.1), Nat.lt_of_lt_of_le g3 hS.1, g4⟩
def am_Hp (D : va_G) (b : Nat) (cy : Nat → ClassId) (h : am_H) (H : Heap) : Prop := va_P D vwCl (am_wl b cy h) H ∧ va_D (am_A b) (am_wl b cy h) ∧ H.size = b + am_t h ∧ ∀ (r : Nat) (sh : Nat × Nat), am_s h r = some sh → r < am_t h
def am_Q (D : va_G) (b : Nat) (sa : Nat → Nat) (cy : Nat → ClassId) (o : am_O) : Array Value → State → Outcome → State → Prop := fun _ st oc t => (oc = .returned (o.1.map (am_tv b sa)) ∧ am_Hp D b cy o.2 t.heap) ∧ va_F (am_A b) st t
def am_CS (d : Nat) (M : am_M) (D : va_G) (b : Nat) (sa : Nat → Nat) (cy : Nat → ClassId) (p : Program) (R : Room) (s : State) (m : MethodId) (args : Array Value) (meth : Method) (c : Code) : Prop :=
  p.tables.exec = Jvm.exec ∧ c.code = M.2.1 ∧ meth.sig.returnType = M.2.2.2 ∧ c.maxLocals = M.2.2.1 ∧ s.vm.findClass M.1.cls = some m.cls ∧ meth.name = M.1.name ∧ meth.locks = false ∧ (∀ w ∈ lw_tbl, goodWord w = true → w.before args s = true) ∧ am_G D b sa cy s ∧ d ≤ R.frames ∧ 64 * d ≤ R.locals
def am_Sem (d : Nat) (M : am_M) (pc : Nat) (l : List (Option Value)) (st : List Value) (h : am_H) (o : am_O) : Prop :=
  (am_t h ≤ am_t o.2 ∧ am_u h ≤ am_u o.2) ∧ ∀ (lc : Launch) (D : va_G) (b : Nat) (sa : Nat → Nat) (cy : Nat → ClassId) (p : Program) (e : Env) (R : Room) (s : State) (m : MethodId) (args : Array Value) (below : List Frame) (meth : Method) (c : Code) (mc ms : Nat), am_CS d M D b sa cy p R s m args meth c → mc ≤ R.cells → ms ≤ R.slots →
    ∀ (H : Heap) (locs : List Loc) (cells slots : Nat) (ls : Array Slot), am_Hp D b cy h H → va_S (am_A b) s.heap H locs → am_L b sa ls M.2.2.1 l → cells + am_t o.2 = mc + am_t h → slots + am_u o.2 = ms + am_u h →
      W p lc e R s m args below meth c H locs cells slots (MQ below (am_Q D b sa cy o) args s mc ms (am_A b)) (F0 m pc ls (st.map (am_tv b sa)))
/-! instructions on the stack alone -/
def am_pu : Instr → List Value → Option (Nat × List Value)
  | .iconst n, st => some (1, .int (Int32.ofInt n) :: st)
  | .bipush n, st => some (2, .int (Int8.ofInt n).toInt32 :: st)
  | .sipush n, st => some (3, .int (Int16.ofInt n).toInt32 :: st)
  | .lconst n, st => some (1, .long (Int64.ofNat n.val) :: st)
  | .aconst_null, st => some (1, .null :: st)
  | .iadd, .int y :: .int x :: st => some (1, .int (x + y) :: st)
  | .isub, .int y :: .int x :: st => some (1, .int (x - y) :: st)
  | .imul, .int y :: .int x :: st => some (1, .int (x * y) :: st)
  | .iand, .int y :: .int x :: st => some (1, .int (x &&& y) :: st)
  | .ior, .int y :: .int x :: st => some (1, .int (x ||| y) :: st)
  | .ixor, .int y :: .int x :: st => some (1, .int (x ^^^ y) :: st)
  | .ishl, .int y :: .int x :: st => some (1, .int (x <<< (y &&& 31)) :: st)
  | .ishr, .int y :: .int x :: st => some (1, .int (x >>> (y &&& 31)) :: st)
  | .iushr, .int y :: .int x :: st => some (1, .int (x.toUInt32 >>> (y.toUInt32 &&& Int32.toUInt32 31)).toInt32 :: st)
  | .ineg, .int x :: st => some (1, .int (-x) :: st)
  | .ladd, .long y :: .long x :: st => some (1, .long (x + y) :: st)
  | .lsub, .long y :: .long x :: st => some (1, .long (x - y) :: st)
  | .lmul, .long y :: .long x :: st => some (1, .long (x * y) :: st)
  | .land, .long y :: .long x :: st => some (1, .long (x &&& y) :: st)
  | .lor, .long y :: .long x :: st => some (1, .long (x ||| y) :: st)
  | .lxor, .long y :: .long x :: st => some (1, .long (x ^^^ y) :: st)
  | .lneg, .long x :: st => some (1, .long (-x) :: st)
  | .lshl, .int y :: .long x :: st => some (1, .long (x <<< (y.toInt64 &&& 63)) :: st)
  | .lushr, .int y :: .long x :: st => some (1, .long (x.toUInt64 >>> (y.toInt64.toUInt64 &&& Int64.toUInt64 63)).toInt64 :: st)
  | .lcmp, .long y :: .long x :: st => some (1, .int (lg_cmp x y) :: st)
  | .i2l, .int x :: st => some (1, .long x.toInt64 :: st)
  | .l2i, .long x :: st => some (1, .int x.toInt32 :: st)
  | .dup, .int x :: st => some (1, .int x :: .int x :: st)
  | .pop, .int x :: st => some (1, st)
  | .dup, .ref x :: st => some (1, .ref x :: .ref x :: st)
  | .pop, .ref x :: st => some (1, st)
  | .dup2, .int x :: .ref y :: st => some (1, .int x :: .ref y :: .int x :: .ref y :: st)
  | _, _ => none
section AMX
variable {d : Nat} {M : am_M} {pc : Nat} {l : List (Option Value)} {st : List Value} {h : am_H} {o : am_O}
set_option maxHeartbeats 4000000 in
theorem am_x_pu {st' : List Value} {i : Instr} {len : Nat} (hdec : decode M.2.1 pc = .ok (i, len)) (hp : am_pu i st = some (len, st')) (k : am_Sem d M (pc + len) l st' h o) : am_Sem d M pc l st h o := by
  refine ⟨k.1, ?_⟩
  intro lc D b sa cy p e R s m args below meth c mc ms C hmc hms H locs cells slots ls hH hS hl h1 h2
  have kk := k.2 lc D b sa cy p e R s m args below meth c mc ms C hmc hms H locs cells slots ls hH hS hl h1 h2
  have hx := C.1
  have hb := C.2.1
  clear k
  unfold am_pu at hp
  split at hp
  next => cases hp; exact lv_iconst hx hb hdec rfl kk
  next => cases hp; exact lv_bipush hx hb hdec rfl kk
  next => cases hp; exact lv_sipush hx hb hdec rfl kk
  next => cases hp; exact lv_lconst hx hb hdec rfl kk
  next => cases hp; exact lv_null hx hb hdec kk
  next => cases hp; exact lv_iadd hx hb hdec kk
  next => cases hp; exact lv_isub hx hb hdec kk
  next => cases hp; exact lv_imul hx hb hdec kk
  next => cases hp; exact lv_iand hx hb hdec kk
  next => cases hp; exact lv_ior hx hb hdec kk
  next => cases hp; exact lv_ixor hx hb hdec kk
  next => cases hp; exact lv_ishl hx hb hdec kk
  next => cases hp; exact lv_ishr hx hb hdec kk
  next => cases hp; exact lv_iushr hx hb hdec rfl kk
  next => cases hp; exact lv_ineg hx hb hdec kk
  next => cases hp; exact lv_ladd hx hb hdec kk
  next => cases hp; exact lv_lsub hx hb hdec kk
  next => cases hp; exact lv_lmul hx hb hdec kk
  next => cases hp; exact lv_land hx hb hdec kk
  next => cases hp; exact lv_lor hx hb hdec kk
  next => cases hp; exact lv_lxor hx hb hdec kk
  next => cases hp; exact lv_lneg hx hb hdec kk
  next => cases hp; exact lv_lshl hx hb hdec rfl kk
  next => cases hp; exact lv_lushr hx hb hdec rfl kk
  next => cases hp; exact W.lcmp hx hb hdec kk
  next => cases hp; exact lv_i2l hx hb hdec rfl kk
  next => cases hp; exact lv_l2i hx hb hdec rfl kk
  next => cases hp; exact lv_dup hx hb hdec rfl kk
  next => cases hp; exact lv_pop hx hb hdec rfl kk
  next => cases hp; exact lv_dup hx hb hdec rfl kk
  next => cases hp; exact lv_pop hx hb hdec rfl kk
  next => cases hp; exact lv_dup2_11 hx hb hdec rfl rfl kk
  next => cases hp
theorem am_x_idiv {x y : Int32} (hdec : decode M.2.1 pc = .ok (.idiv, 1)) (hy : ¬ y = 0) (k : am_Sem d M (pc + 1) l (.int (x / y) :: st) h o) : am_Sem d M pc l (.int y :: .int x :: st) h o := by
  refine ⟨k.1, ?_⟩
  intro lc D b sa cy p e R s m args below meth c mc ms C hmc hms H locs cells slots ls hH hS hl h1 h2
  exact lv_idiv C.1 C.2.1 hdec hy (k.2 lc D b sa cy p e R s m args below meth c mc ms C hmc hms H locs cells slots ls hH hS hl h1 h2)
theorem am_x_irem {x y : Int32} (hdec : decode M.2.1 pc = .ok (.irem, 1)) (hy : ¬ y = 0) (k : am_Sem d M (pc + 1) l (.int (x - x / y * y) :: st) h o) : am_Sem d M pc l (.int y :: .int x :: st) h o := by
  refine ⟨k.1, ?_⟩
  intro lc D b sa cy p e R s m args below meth c mc ms C hmc hms H locs cells slots ls hH hS hl h1 h2
  exact lv_irem C.1 C.2.1 hdec hy (k.2 lc D b sa cy p e R s m args below meth c mc ms C hmc hms H locs cells slots ls hH hS hl h1 h2)
theorem am_x_ldiv {x y : Int64} (hdec : decode M.2.1 pc = .ok (.ldiv, 1)) (hy : ¬ y = 0) (k : am_Sem d M (pc + 1) l (.long (x / y) :: st) h o) : am_Sem d M pc l (.long y :: .long x :: st) h o := by
  refine ⟨k.1, ?_⟩
  intro lc D b sa cy p e R s m args below meth c mc ms C hmc hms H locs cells slots ls hH hS hl h1 h2
  exact lv_ldiv C.1 C.2.1 hdec hy (k.2 lc D b sa cy p e R s m args below meth c mc ms C hmc hms H locs cells slots ls hH hS hl h1 h2)
theorem am_x_lrem {x y : Int64} (hdec : decode M.2.1 pc = .ok (.lrem, 1)) (hy : ¬ y = 0) (k : am_Sem d M (pc + 1) l (.long (x - x / y * y) :: st) h o) : am_Sem d M pc l (.long y :: .long x :: st) h o := by
  refine ⟨k.1, ?_⟩
  intro lc D b sa cy p e R s m args below meth c mc ms C hmc hms H locs cells slots ls hH hS hl h1 h2
  exact lv_lrem C.1 C.2.1 hdec hy (k.2 lc D b sa cy p e R s m args below meth c mc ms C hmc hms H locs cells slots ls hH hS hl h1 h2)
/-! locals -/
def am_ld : Instr → Value → Option (Nat × Nat)
  | .iload i, .int _ => some (i, 2)
  | .iload_n i, .int _ => some (i.val, 1)
  | .lload i, .long _ => some (i, 2)
  | .lload_n i, .long _ => some (i.val, 1)
  | .aload i, .ref _ => some (i, 2)
  | .aload_n i, .ref _ => some (i.val, 1)
  | .aload i, .null => some (i, 2)
  | .aload_n i, .null => some (i.val, 1)
  | _, _ => none
theorem am_x_ld {v : Value} {i : Instr} {len x : Nat} (hdec : decode M.2.1 pc = .ok (i, len)) (hp : am_ld i v = some (x, len)) (hv : l[x]? = some (some v)) (k : am_Sem d M (pc + len) l (v :: st) h o) : am_Sem d M pc l st h o := by
  refine ⟨k.1, ?_⟩
  intro lc D b sa cy p e R s m args below meth c mc ms C hmc hms H locs cells slots ls hH hS hl h1 h2
  have kk := k.2 lc D b sa cy p e R s m args below meth c mc ms C hmc hms H locs cells slots ls hH hS hl h1 h2
  have hx := C.1
  have hb := C.2.1
  have hv := hl.2.2 _ _ hv
  clear k
  unfold am_ld at hp
  split at hp
  next => cases hp; exact lv_iload hx hb hdec hv kk
  next => cases hp; exact lv_iload_n hx hb hdec rfl hv kk
  next => cases hp; exact lv_lload hx hb hdec hv kk
  next => cases hp; exact lv_lload_n hx hb hdec rfl hv kk
  next => cases hp; exact lv_aload hx hb hdec hv kk
  next => cases hp; exact lv_aload_n hx hb hdec rfl hv kk
  next => cases hp; exact lv_aloadN hx hb hdec hv kk
  next => cases hp; exact lv_aload_nN hx hb hdec rfl hv kk
  next => cases hp
def am_so : Instr → Value → Option (Nat × Nat)
  | .istore i, .int _ => some (i, 2)
  | .istore_n i, .int _ => some (i.val, 1)
  | .lstore i, .long _ => some (i, 2)
  | .lstore_n i, .long _ => some (i.val, 1)
  | .astore i, .ref _ => some (i, 2)
  | .astore_n i, .ref _ => some (i.val, 1)
  | _, _ => none
def am_sv (l : List (Option Value)) (i : Nat) (v : Value) : List (Option Value) := match v with
  | .long _ => am_s2 l i v
  | _ => am_s1 l i v
theorem am_x_so {v : Value} {i : Instr} {len x : Nat} (hdec : decode M.2.1 pc = .ok (i, len)) (hp : am_so i v = some (x, len)) (hn : x + 1 < M.2.2.1 + (if v.category = 2 then 0 else 1)) (k : am_Sem d M (pc + len) (am_sv l x v) st h o) : am_Sem d M pc l (v :: st) h o := by
  refine ⟨k.1, ?_⟩
  intro lc D b sa cy p e R s m args below meth c mc ms C hmc hms H locs cells slots ls hH hS hl h1 h2
  have kk := fun ls' hl' => k.2 lc D b sa cy p e R s m args below meth c mc ms C hmc hms H locs cells slots ls' hH hS hl' h1 h2
  have hx := C.1
  have hb := C.2.1
  clear k
  unfold am_so at hp
  split at hp
  next w => cases hp; obtain ⟨ls', e', hl'⟩ := am_st1 (v := .int w) hl (by simpa [Value.category] using hn) rfl; intro T hT X; obtain ⟨t, a, q⟩ := kk ls' hl' T hT X; refine ⟨t, ?_, q⟩; simp only [am_tv] at e'; simp only [List.map_cons, am_tv]; jvm_step X.here [X.here.top, ↓top_set X.here.top, hx, hb, hdec, e', Value.isRef]; exact a
  next w => cases hp; obtain ⟨ls', e', hl'⟩ := am_st1 (v := .int w) hl (by simpa [Value.category] using hn) rfl; intro T hT X; obtain ⟨t, a, q⟩ := kk ls' hl' T hT X; refine ⟨t, ?_, q⟩; simp only [am_tv] at e'; simp only [List.map_cons, am_tv]; jvm_step X.here [X.here.top, ↓top_set X.here.top, hx, hb, hdec, e', Value.isRef]; exact a
  next w => cases hp; obtain ⟨ls', e', hl'⟩ := am_st2 (v := .long w) hl (by simpa [Value.category] using hn) rfl; intro T hT X; obtain ⟨t, a, q⟩ := kk ls' hl' T hT X; refine ⟨t, ?_, q⟩; simp only [am_tv] at e'; simp only [List.map_cons, am_tv]; jvm_step X.here [X.here.top, ↓top_set X.here.top, hx, hb, hdec, e', Value.isRef]; exact a
  next w => cases hp; obtain ⟨ls', e', hl'⟩ := am_st2 (v := .long w) hl (by simpa [Value.category] using hn) rfl; intro T hT X; obtain ⟨t, a, q⟩ := kk ls' hl' T hT X; refine ⟨t, ?_, q⟩; simp only [am_tv] at e'; simp only [List.map_cons, am_tv]; jvm_step X.here [X.here.top, ↓top_set X.here.top, hx, hb, hdec, e', Value.isRef]; exact a
  next w => cases hp; obtain ⟨ls', e', hl'⟩ := am_st1 (v := .ref w) hl (by simpa [Value.category] using hn) rfl; intro T hT X; obtain ⟨t, a, q⟩ := kk ls' hl' T hT X; refine ⟨t, ?_, q⟩; simp only [am_tv] at e'; simp only [List.map_cons, am_tv]; jvm_step X.here [X.here.top, ↓top_set X.here.top, hx, hb, hdec, e', Value.isRef]; exact a
  next w => cases hp; obtain ⟨ls', e', hl'⟩ := am_st1 (v := .ref w) hl (by simpa [Value.category] using hn) rfl; intro T hT X; obtain ⟨t, a, q⟩ := kk ls' hl' T hT X; refine ⟨t, ?_, q⟩; simp only [am_tv] at e'; simp only [List.map_cons, am_tv]; jvm_step X.here [X.here.top, ↓top_set X.here.top, hx, hb, hdec, e', Value.isRef]; exact a
  next => cases hp
theorem am_x_iinc {i : Nat} {n : Int} {x : Int32} (hdec : decode M.2.1 pc = .ok (.iinc i n, 3)) (hv : l[i]? = some (some (.int x))) (hn : i < M.2.2.1) (k : am_Sem d M (pc + 3) (am_s1 l i (.int (x + Int32.ofInt n))) st h o) : am_Sem d M pc l st h o := by
  refine ⟨k.1, ?_⟩
  intro lc D b sa cy p e R s m args below meth c mc ms C hmc hms H locs cells slots ls hH hS hl h1 h2
  obtain ⟨ls', e', hl'⟩ := am_st1 (v := .int (x + Int32.ofInt n)) hl hn rfl
  have kk := k.2 lc D b sa cy p e R s m args below meth c mc ms C hmc hms H locs cells slots ls' hH hS hl' h1 h2
  have hx := C.1
  have hb := C.2.1
  have hv : ls[i]? = some (.val (.int x)) := hl.2.2 _ _ hv
  obtain ⟨ls2, f1, f2⟩ := lv_store1 (l := [(i, .int x)]) (v := .int (x + Int32.ofInt n)) ⟨hl.1, hl.2.1, fun q hq => by rw [List.mem_singleton.mp hq]; exact hv⟩ hn rfl
  have e2 : storeLocals ls i (.int (x + Int32.ofInt n)) = some ls' := e'
  cases e2.symm.trans f1
  intro T hT X
  obtain ⟨t, a, q⟩ := kk T hT X
  refine ⟨t, ?_, q⟩
  jvm_step X.here [X.here.top, ↓top_set X.here.top, hx, hb, hdec, hv, e2]
  exact a
/-! branches -/
end AMX
