/-! branches, constants, ends, fields, arrays, new things -/
section AMY
variable {d : Nat} {M : am_M} {pc : Nat} {l : List (Option Value)} {st : List Value} {h : am_H} {o : am_O}
theorem am_x_if_eq {x : Int32} {off : Int} {tgt : Nat} (hdec : decode M.2.1 pc = .ok (.ifCond .eq off, 3)) (ht : (pc : Int) + off = (tgt : Int)) (hm : am_t h ≤ am_t o.2 ∧ am_u h ≤ am_u o.2) (kt : x = 0 → am_Sem d M tgt l st h o) (kf : ¬ x = 0 → am_Sem d M (pc + 3) l st h o) : am_Sem d M pc l (.int x :: st) h o := by
  refine ⟨hm, ?_⟩
  intro lc D b sa cy p e R s m args below meth c mc ms C hmc hms H locs cells slots ls hH hS hl h1 h2
  exact lv_if_eq C.1 C.2.1 hdec ht (fun z => (kt z).2 lc D b sa cy p e R s m args below meth c mc ms C hmc hms H locs cells slots ls hH hS hl h1 h2) (fun z => (kf z).2 lc D b sa cy p e R s m args below meth c mc ms C hmc hms H locs cells slots ls hH hS hl h1 h2)
theorem am_x_icmp_eq {x y : Int32} {off : Int} {tgt : Nat} (hdec : decode M.2.1 pc = .ok (.if_icmp .eq off, 3)) (ht : (pc : Int) + off = (tgt : Int)) (hm : am_t h ≤ am_t o.2 ∧ am_u h ≤ am_u o.2) (kt : x = y → am_Sem d M tgt l st h o) (kf : ¬ x = y → am_Sem d M (pc + 3) l st h o) : am_Sem d M pc l (.int y :: .int x :: st) h o := by
  refine ⟨hm, ?_⟩
  intro lc D b sa cy p e R s m args below meth c mc ms C hmc hms H locs cells slots ls hH hS hl h1 h2
  exact lv_icmp_eq C.1 C.2.1 hdec ht (fun z => (kt z).2 lc D b sa cy p e R s m args below meth c mc ms C hmc hms H locs cells slots ls hH hS hl h1 h2) (fun z => (kf z).2 lc D b sa cy p e R s m args below meth c mc ms C hmc hms H locs cells slots ls hH hS hl h1 h2)
theorem am_x_if_ne {x : Int32} {off : Int} {tgt : Nat} (hdec : decode M.2.1 pc = .ok (.ifCond .ne off, 3)) (ht : (pc : Int) + off = (tgt : Int)) (hm : am_t h ≤ am_t o.2 ∧ am_u h ≤ am_u o.2) (kt : ¬ x = 0 → am_Sem d M tgt l st h o) (kf : x = 0 → am_Sem d M (pc + 3) l st h o) : am_Sem d M pc l (.int x :: st) h o := by
  refine ⟨hm, ?_⟩
  intro lc D b sa cy p e R s m args below meth c mc ms C hmc hms H locs cells slots ls hH hS hl h1 h2
  exact lv_if_ne C.1 C.2.1 hdec ht (fun z => (kt z).2 lc D b sa cy p e R s m args below meth c mc ms C hmc hms H locs cells slots ls hH hS hl h1 h2) (fun z => (kf z).2 lc D b sa cy p e R s m args below meth c mc ms C hmc hms H locs cells slots ls hH hS hl h1 h2)
theorem am_x_icmp_ne {x y : Int32} {off : Int} {tgt : Nat} (hdec : decode M.2.1 pc = .ok (.if_icmp .ne off, 3)) (ht : (pc : Int) + off = (tgt : Int)) (hm : am_t h ≤ am_t o.2 ∧ am_u h ≤ am_u o.2) (kt : ¬ x = y → am_Sem d M tgt l st h o) (kf : x = y → am_Sem d M (pc + 3) l st h o) : am_Sem d M pc l (.int y :: .int x :: st) h o := by
  refine ⟨hm, ?_⟩
  intro lc D b sa cy p e R s m args below meth c mc ms C hmc hms H locs cells slots ls hH hS hl h1 h2
  exact lv_icmp_ne C.1 C.2.1 hdec ht (fun z => (kt z).2 lc D b sa cy p e R s m args below meth c mc ms C hmc hms H locs cells slots ls hH hS hl h1 h2) (fun z => (kf z).2 lc D b sa cy p e R s m args below meth c mc ms C hmc hms H locs cells slots ls hH hS hl h1 h2)
theorem am_x_if_lt {x : Int32} {off : Int} {tgt : Nat} (hdec : decode M.2.1 pc = .ok (.ifCond .lt off, 3)) (ht : (pc : Int) + off = (tgt : Int)) (hm : am_t h ≤ am_t o.2 ∧ am_u h ≤ am_u o.2) (kt : x < 0 → am_Sem d M tgt l st h o) (kf : ¬ x < 0 → am_Sem d M (pc + 3) l st h o) : am_Sem d M pc l (.int x :: st) h o := by
  refine ⟨hm, ?_⟩
  intro lc D b sa cy p e R s m args below meth c mc ms C hmc hms H locs cells slots ls hH hS hl h1 h2
  exact lv_if_lt C.1 C.2.1 hdec ht (fun z => (kt z).2 lc D b sa cy p e R s m args below meth c mc ms C hmc hms H locs cells slots ls hH hS hl h1 h2) (fun z => (kf z).2 lc D b sa cy p e R s m args below meth c mc ms C hmc hms H locs cells slots ls hH hS hl h1 h2)
theorem am_x_icmp_lt {x y : Int32} {off : Int} {tgt : Nat} (hdec : decode M.2.1 pc = .ok (.if_icmp .lt off, 3)) (ht : (pc : Int) + off = (tgt : Int)) (hm : am_t h ≤ am_t o.2 ∧ am_u h ≤ am_u o.2) (kt : x < y → am_Sem d M tgt l st h o) (kf : ¬ x < y → am_Sem d M (pc + 3) l st h o) : am_Sem d M pc l (.int y :: .int x :: st) h o := by
  refine ⟨hm, ?_⟩
  intro lc D b sa cy p e R s m args below meth c mc ms C hmc hms H locs cells slots ls hH hS hl h1 h2
  exact lv_icmp_lt C.1 C.2.1 hdec ht (fun z => (kt z).2 lc D b sa cy p e R s m args below meth c mc ms C hmc hms H locs cells slots ls hH hS hl h1 h2) (fun z => (kf z).2 lc D b sa cy p e R s m args below meth c mc ms C hmc hms H locs cells slots ls hH hS hl h1 h2)
theorem am_x_if_ge {x : Int32} {off : Int} {tgt : Nat} (hdec : decode M.2.1 pc = .ok (.ifCond .ge off, 3)) (ht : (pc : Int) + off = (tgt : Int)) (hm : am_t h ≤ am_t o.2 ∧ am_u h ≤ am_u o.2) (kt : 0 ≤ x → am_Sem d M tgt l st h o) (kf : ¬ 0 ≤ x → am_Sem d M (pc + 3) l st h o) : am_Sem d M pc l (.int x :: st) h o := by
  refine ⟨hm, ?_⟩
  intro lc D b sa cy p e R s m args below meth c mc ms C hmc hms H locs cells slots ls hH hS hl h1 h2
  exact lv_if_ge C.1 C.2.1 hdec ht (fun z => (kt z).2 lc D b sa cy p e R s m args below meth c mc ms C hmc hms H locs cells slots ls hH hS hl h1 h2) (fun z => (kf z).2 lc D b sa cy p e R s m args below meth c mc ms C hmc hms H locs cells slots ls hH hS hl h1 h2)
theorem am_x_icmp_ge {x y : Int32} {off : Int} {tgt : Nat} (hdec : decode M.2.1 pc = .ok (.if_icmp .ge off, 3)) (ht : (pc : Int) + off = (tgt : Int)) (hm : am_t h ≤ am_t o.2 ∧ am_u h ≤ am_u o.2) (kt : y ≤ x → am_Sem d M tgt l st h o) (kf : ¬ y ≤ x → am_Sem d M (pc + 3) l st h o) : am_Sem d M pc l (.int y :: .int x :: st) h o := by
  refine ⟨hm, ?_⟩
  intro lc D b sa cy p e R s m args below meth c mc ms C hmc hms H locs cells slots ls hH hS hl h1 h2
  exact lv_icmp_ge C.1 C.2.1 hdec ht (fun z => (kt z).2 lc D b sa cy p e R s m args below meth c mc ms C hmc hms H locs cells slots ls hH hS hl h1 h2) (fun z => (kf z).2 lc D b sa cy p e R s m args below meth c mc ms C hmc hms H locs cells slots ls hH hS hl h1 h2)
theorem am_x_if_gt {x : Int32} {off : Int} {tgt : Nat} (hdec : decode M.2.1 pc = .ok (.ifCond .gt off, 3)) (ht : (pc : Int) + off = (tgt : Int)) (hm : am_t h ≤ am_t o.2 ∧ am_u h ≤ am_u o.2) (kt : 0 < x → am_Sem d M tgt l st h o) (kf : ¬ 0 < x → am_Sem d M (pc + 3) l st h o) : am_Sem d M pc l (.int x :: st) h o := by
  refine ⟨hm, ?_⟩
  intro lc D b sa cy p e R s m args below meth c mc ms C hmc hms H locs cells slots ls hH hS hl h1 h2
  exact lv_if_gt C.1 C.2.1 hdec ht (fun z => (kt z).2 lc D b sa cy p e R s m args below meth c mc ms C hmc hms H locs cells slots ls hH hS hl h1 h2) (fun z => (kf z).2 lc D b sa cy p e R s m args below meth c mc ms C hmc hms H locs cells slots ls hH hS hl h1 h2)
theorem am_x_icmp_gt {x y : Int32} {off : Int} {tgt : Nat} (hdec : decode M.2.1 pc = .ok (.if_icmp .gt off, 3)) (ht : (pc : Int) + off = (tgt : Int)) (hm : am_t h ≤ am_t o.2 ∧ am_u h ≤ am_u o.2) (kt : y < x → am_Sem d M tgt l st h o) (kf : ¬ y < x → am_Sem d M (pc + 3) l st h o) : am_Sem d M pc l (.int y :: .int x :: st) h o := by
  refine ⟨hm, ?_⟩
  intro lc D b sa cy p e R s m args below meth c mc ms C hmc hms H locs cells slots ls hH hS hl h1 h2
  exact lv_icmp_gt C.1 C.2.1 hdec ht (fun z => (kt z).2 lc D b sa cy p e R s m args below meth c mc ms C hmc hms H locs cells slots ls hH hS hl h1 h2) (fun z => (kf z).2 lc D b sa cy p e R s m args below meth c mc ms C hmc hms H locs cells slots ls hH hS hl h1 h2)
theorem am_x_if_le {x : Int32} {off : Int} {tgt : Nat} (hdec : decode M.2.1 pc = .ok (.ifCond .le off, 3)) (ht : (pc : Int) + off = (tgt : Int)) (hm : am_t h ≤ am_t o.2 ∧ am_u h ≤ am_u o.2) (kt : x ≤ 0 → am_Sem d M tgt l st h o) (kf : ¬ x ≤ 0 → am_Sem d M (pc + 3) l st h o) : am_Sem d M pc l (.int x :: st) h o := by
  refine ⟨hm, ?_⟩
  intro lc D b sa cy p e R s m args below meth c mc ms C hmc hms H locs cells slots ls hH hS hl h1 h2
  exact lv_if_le C.1 C.2.1 hdec ht (fun z => (kt z).2 lc D b sa cy p e R s m args below meth c mc ms C hmc hms H locs cells slots ls hH hS hl h1 h2) (fun z => (kf z).2 lc D b sa cy p e R s m args below meth c mc ms C hmc hms H locs cells slots ls hH hS hl h1 h2)
theorem am_x_icmp_le {x y : Int32} {off : Int} {tgt : Nat} (hdec : decode M.2.1 pc = .ok (.if_icmp .le off, 3)) (ht : (pc : Int) + off = (tgt : Int)) (hm : am_t h ≤ am_t o.2 ∧ am_u h ≤ am_u o.2) (kt : x ≤ y → am_Sem d M tgt l st h o) (kf : ¬ x ≤ y → am_Sem d M (pc + 3) l st h o) : am_Sem d M pc l (.int y :: .int x :: st) h o := by
  refine ⟨hm, ?_⟩
  intro lc D b sa cy p e R s m args below meth c mc ms C hmc hms H locs cells slots ls hH hS hl h1 h2
  exact lv_icmp_le C.1 C.2.1 hdec ht (fun z => (kt z).2 lc D b sa cy p e R s m args below meth c mc ms C hmc hms H locs cells slots ls hH hS hl h1 h2) (fun z => (kf z).2 lc D b sa cy p e R s m args below meth c mc ms C hmc hms H locs cells slots ls hH hS hl h1 h2)
theorem am_x_goto {off : Int} {tgt : Nat} (hdec : decode M.2.1 pc = .ok (.goto off, 3)) (ht : (pc : Int) + off = (tgt : Int)) (k : am_Sem d M tgt l st h o) : am_Sem d M pc l st h o := by
  refine ⟨k.1, ?_⟩
  intro lc D b sa cy p e R s m args below meth c mc ms C hmc hms H locs cells slots ls hH hS hl h1 h2
  exact lv_goto C.1 C.2.1 hdec ht (k.2 lc D b sa cy p e R s m args below meth c mc ms C hmc hms H locs cells slots ls hH hS hl h1 h2)
theorem am_x_nnR {x : Nat} {off : Int} {tgt : Nat} (hdec : decode M.2.1 pc = .ok (.ifnonnull off, 3)) (ht : (pc : Int) + off = (tgt : Int)) (k : am_Sem d M tgt l st h o) : am_Sem d M pc l (.ref x :: st) h o := by
  refine ⟨k.1, ?_⟩
  intro lc D b sa cy p e R s m args below meth c mc ms C hmc hms H locs cells slots ls hH hS hl h1 h2
  exact lv_ifnonnull C.1 C.2.1 hdec ht (k.2 lc D b sa cy p e R s m args below meth c mc ms C hmc hms H locs cells slots ls hH hS hl h1 h2)
theorem am_x_nnN {off : Int} (hdec : decode M.2.1 pc = .ok (.ifnonnull off, 3)) (k : am_Sem d M (pc + 3) l st h o) : am_Sem d M pc l (.null :: st) h o := by
  refine ⟨k.1, ?_⟩
  intro lc D b sa cy p e R s m args below meth c mc ms C hmc hms H locs cells slots ls hH hS hl h1 h2
  exact lv_ifnonnullN C.1 C.2.1 hdec (k.2 lc D b sa cy p e R s m args below meth c mc ms C hmc hms H locs cells slots ls hH hS hl h1 h2)
theorem am_x_tOut {dflt lo hi : Int} {offs : Array Int} {len : Nat} {x : Int32} {tgt : Nat} (hdec : decode M.2.1 pc = .ok (.tableswitch dflt lo hi offs, len)) (hx : x.toInt < lo ∨ hi < x.toInt) (ht : (pc : Int) + dflt = (tgt : Int)) (k : am_Sem d M tgt l st h o) : am_Sem d M pc l (.int x :: st) h o := by
  refine ⟨k.1, ?_⟩
  intro lc D b sa cy p e R s m args below meth c mc ms C hmc hms H locs cells slots ls hH hS hl h1 h2
  exact lv_tableOut C.1 C.2.1 hdec hx ht (k.2 lc D b sa cy p e R s m args below meth c mc ms C hmc hms H locs cells slots ls hH hS hl h1 h2)
theorem am_x_tIn {dflt lo hi : Int} {offs : Array Int} {len : Nat} {x : Int32} {off : Int} {tgt : Nat} (hdec : decode M.2.1 pc = .ok (.tableswitch dflt lo hi offs, len)) (hx1 : ¬ x.toInt < lo) (hx2 : ¬ hi < x.toInt) (ho : offs[(x.toInt - lo).toNat]? = some off) (ht : (pc : Int) + off = (tgt : Int)) (k : am_Sem d M tgt l st h o) : am_Sem d M pc l (.int x :: st) h o := by
  refine ⟨k.1, ?_⟩
  intro lc D b sa cy p e R s m args below meth c mc ms C hmc hms H locs cells slots ls hH hS hl h1 h2
  exact lv_tableIn C.1 C.2.1 hdec hx1 hx2 ho ht (k.2 lc D b sa cy p e R s m args below meth c mc ms C hmc hms H locs cells slots ls hH hS hl h1 h2)
theorem am_x_lkp {dflt : Int} {ps : Array (Int × Int)} {len : Nat} {x : Int32} {off : Int} {tgt : Nat} (hdec : decode M.2.1 pc = .ok (.lookupswitch dflt ps, len)) (hp : (ps.toList.zip (ps.toList.drop 1)).all (fun (a, next) => a.1 < next.1) = true) (ho : Op.lookupswitch.offset ps.toList dflt x.toInt = off) (ht : (pc : Int) + off = (tgt : Int)) (k : am_Sem d M tgt l st h o) : am_Sem d M pc l (.int x :: st) h o := by
  refine ⟨k.1, ?_⟩
  intro lc D b sa cy p e R s m args below meth c mc ms C hmc hms H locs cells slots ls hH hS hl h1 h2
  exact lv_lookup C.1 C.2.1 hdec hp ho ht (k.2 lc D b sa cy p e R s m args below meth c mc ms C hmc hms H locs cells slots ls hH hS hl h1 h2)
theorem am_x_ldc {idx : Nat} {v : Int32} (hdec : decode M.2.1 pc = .ok (.ldc idx, 2)) (hw : Jvm.Cond.constant M.1.cls idx v ∈ lw_tbl) (k : am_Sem d M (pc + 2) l (.int v :: st) h o) : am_Sem d M pc l st h o := by
  refine ⟨k.1, ?_⟩
  intro lc D b sa cy p e R s m args below meth c mc ms C hmc hms H locs cells slots ls hH hS hl h1 h2
  obtain ⟨hx, hb, -, -, hown, -, -, hts, -⟩ := id C
  exact lv_ldc hx hb hown (hts _ hw rfl) hdec (k.2 lc D b sa cy p e R s m args below meth c mc ms C hmc hms H locs cells slots ls hH hS hl h1 h2)
theorem am_x_ldcw {idx : Nat} {v : Int32} (hdec : decode M.2.1 pc = .ok (.ldc_w idx, 3)) (hw : Jvm.Cond.constant M.1.cls idx v ∈ lw_tbl) (k : am_Sem d M (pc + 3) l (.int v :: st) h o) : am_Sem d M pc l st h o := by
  refine ⟨k.1, ?_⟩
  intro lc D b sa cy p e R s m args below meth c mc ms C hmc hms H locs cells slots ls hH hS hl h1 h2
  obtain ⟨hx, hb, -, -, hown, -, -, hts, -⟩ := id C
  exact lv_ldcw hx hb hown (hts _ hw rfl) hdec (k.2 lc D b sa cy p e R s m args below meth c mc ms C hmc hms H locs cells slots ls hH hS hl h1 h2)
theorem am_x_ldc2 {idx : Nat} {v : Int64} (hdec : decode M.2.1 pc = .ok (.ldc2_w idx, 3)) (hw : Jvm.Cond.constantLong M.1.cls idx v ∈ lw_tbl) (k : am_Sem d M (pc + 3) l (.long v :: st) h o) : am_Sem d M pc l st h o := by
  refine ⟨k.1, ?_⟩
  intro lc D b sa cy p e R s m args below meth c mc ms C hmc hms H locs cells slots ls hH hS hl h1 h2
  obtain ⟨hx, hb, -, -, hown, -, -, hts, -⟩ := id C
  exact lv_ldc2 hx hb hown (hts _ hw rfl) hdec (k.2 lc D b sa cy p e R s m args below meth c mc ms C hmc hms H locs cells slots ls hH hS hl h1 h2)
theorem am_x_iret {v : Int32} {ty : FieldType} (hdec : decode M.2.1 pc = .ok (.ireturn, 1)) (hr0 : M.2.2.2 = some ty) (hn : narrow ty (.int v) = .int v) : am_Sem d M pc l [.int v] h (some (.int v), h) := by
  refine ⟨⟨Nat.le_refl _, Nat.le_refl _⟩, ?_⟩
  intro lc D b sa cy p e R s m args below meth c mc ms C hmc hms H locs cells slots ls hH hS hl h1 h2
  obtain ⟨hx, hb, hr, -, -, -, hlocks, -⟩ := id C
  have e1 : cells = mc := Nat.add_right_cancel h1
  have e2 : slots = ms := Nat.add_right_cancel h2
  subst e1
  subst e2
  exact W.zret hx hb (hr.trans hr0) hn (fun t ht hW => ⟨⟨rfl, by rw [ht]; exact hH⟩, hS.F ht⟩) hS.2.2 hdec
theorem am_x_lret {v : Int64} (hdec : decode M.2.1 pc = .ok (.lreturn, 1)) (hr0 : M.2.2.2 = some .long) : am_Sem d M pc l [.long v] h (some (.long v), h) := by
  refine ⟨⟨Nat.le_refl _, Nat.le_refl _⟩, ?_⟩
  intro lc D b sa cy p e R s m args below meth c mc ms C hmc hms H locs cells slots ls hH hS hl h1 h2
  obtain ⟨hx, hb, hr, -, -, -, hlocks, -⟩ := id C
  have e1 : cells = mc := Nat.add_right_cancel h1
  have e2 : slots = ms := Nat.add_right_cancel h2
  subst e1
  subst e2
  exact W.lret hx hb (hr.trans hr0) (fun t ht hW => ⟨⟨rfl, by rw [ht]; exact hH⟩, hS.F ht⟩) hS.2.2 hdec
theorem am_x_vret  (hdec : decode M.2.1 pc = .ok (.return_, 1)) (hr0 : M.2.2.2 = none) : am_Sem d M pc l [] h (none, h) := by
  refine ⟨⟨Nat.le_refl _, Nat.le_refl _⟩, ?_⟩
  intro lc D b sa cy p e R s m args below meth c mc ms C hmc hms H locs cells slots ls hH hS hl h1 h2
  obtain ⟨hx, hb, hr, -, -, -, hlocks, -⟩ := id C
  have e1 : cells = mc := Nat.add_right_cancel h1
  have e2 : slots = ms := Nat.add_right_cancel h2
  subst e1
  subst e2
  exact W.vret hx hb (hr.trans hr0) (fun t ht hW => ⟨⟨rfl, by rw [ht]; exact hH⟩, hS.F ht⟩) hS.2.2 hdec
theorem am_x_aret {v : Nat} {rt : FieldType} (hdec : decode M.2.1 pc = .ok (.areturn, 1)) (hr0 : M.2.2.2 = some rt) (hrt : (∃ n, rt = .object n) ∨ ∃ t, rt = .array t) : am_Sem d M pc l [.ref v] h (some (.ref v), h) := by
  refine ⟨⟨Nat.le_refl _, Nat.le_refl _⟩, ?_⟩
  intro lc D b sa cy p e R s m args below meth c mc ms C hmc hms H locs cells slots ls hH hS hl h1 h2
  obtain ⟨hx, hb, hr, -, -, -, hlocks, -⟩ := id C
  have e1 : cells = mc := Nat.add_right_cancel h1
  have e2 : slots = ms := Nat.add_right_cancel h2
  subst e1
  subst e2
  exact W.aret hx hb (hr.trans hr0) hrt (Or.inr ⟨_, rfl⟩) (fun t ht hW => ⟨⟨rfl, by rw [ht]; exact hH⟩, hS.F ht⟩) hS.2.2 hdec
/-! classes and links -/
abbrev am_GT : List Cond := lw_tbl.filter goodWord
theorem am_gt {w : Cond} (h : w ∈ lw_tbl) (g : goodWord w = true) : w ∈ am_GT := List.mem_filter.mpr ⟨h, g⟩
def am_ok (k : Nat) (C : String) (T : u_T) : Prop := vwCl[k]? = some (C, T, am_nf k) ∧ (∀ w ∈ u_ws C T (am_nf k), w ∈ am_GT) ∧ (∀ j, j < am_nf k → parseFieldDescriptor (T j).2.2.1 = some (am_ty k j)) ∧ (∀ a, a < am_nf k → ∀ b, b < am_nf k → a ≠ b → (T a).2.1 ≠ (T b).2.1) ∧ k < 100
def am_fl (own : String) (idx k j : Nat) : Prop := ∃ (C : String) (T : u_T), am_ok k C T ∧ j < am_nf k ∧ (T j).1 = C ∧ (Cond.fieldLink own idx C (T j).2.1 (T j).2.2.1 ∈ lw_tbl ∨ ∃ host, Cond.fieldLinkNest own idx C (T j).2.1 (T j).2.2.1 host ∈ lw_tbl)
/-- a field that may be written here: not final, or in its class's constructor -/
def am_fw (y : MethodName) (idx k j : Nat) : Prop := ∃ (C : String) (T : u_T), am_ok k C T ∧ j < am_nf k ∧ (T j).1 = C ∧ (((T j).2.2.2 = false ∧ (Cond.fieldLink y.cls idx C (T j).2.1 (T j).2.2.1 ∈ lw_tbl ∨ ∃ host, Cond.fieldLinkNest y.cls idx C (T j).2.1 (T j).2.2.1 host ∈ lw_tbl)) ∨ ((T j).2.2.2 = true ∧ y.name = "<init>" ∧ C = y.cls ∧ Cond.fieldLink y.cls idx C (T j).2.1 (T j).2.2.1 ∈ lw_tbl))
theorem am_ce_ob {b : Nat} {cy : Nat → ClassId} {h : am_H} {r k n : Nat} (hs : am_s h r = some (k, n)) (hk : k < 100) : am_ce b cy h r = .inr (k, (List.range (am_nf k)).map (am_fv b h k r)) := by
  unfold am_ce
  rw [hs]
  simp [hk]
theorem am_ce_i {b : Nat} {cy : Nat → ClassId} {h : am_H} {r n : Nat} (hs : am_s h r = some (100, n)) : am_ce b cy h r = .inl (cy 0, n, .inl (am_i h r)) := by
  unfold am_ce
  rw [hs]
  simp
theorem am_ce_l {b : Nat} {cy : Nat → ClassId} {h : am_H} {r n : Nat} (hs : am_s h r = some (101, n)) : am_ce b cy h r = .inl (cy 1, n, .inr (.inl (am_l h r))) := by
  unfold am_ce
  rw [hs]
  simp
theorem am_ce_z {b : Nat} {cy : Nat → ClassId} {h : am_H} {r n : Nat} (hs : am_s h r = some (102, n)) : am_ce b cy h r = .inl (cy 2, n, .inl (am_i h r)) := by
  unfold am_ce
  rw [hs]
  simp
theorem am_ce_q {b : Nat} {cy : Nat → ClassId} {h : am_H} {r n : Nat} (hs : am_s h r = some (103, n)) : am_ce b cy h r = .inl (cy 3, n, .inr (.inr (.inr (.inr fun j => (am_p h r j).map (b + ·))))) := by
  unfold am_ce
  rw [hs]
  simp
theorem am_ce_ne {b : Nat} {cy : Nat → ClassId} {h h' : am_H} {r : Nat} (hs : h'.1 = h.1) (hi : am_i h' r = am_i h r) (hl : am_l h' r = am_l h r) (hp : am_p h' r = am_p h r) : am_ce b cy h' r = am_ce b cy h r := by
  have z4 : ∀ k, am_fv b h' k r = am_fv b h k r := by
    intro k
    funext j
    unfold am_fv
    rw [hi, hl, hp]
  unfold am_ce am_s
  rw [hs]
  simp only [hi, hl, hp, z4]
theorem am_find {D : va_G} {b : Nat} {cy : Nat → ClassId} {h : am_H} {H : Heap} {r k n : Nat} (hH : am_Hp D b cy h H) (hs : am_s h r = some (k, n)) : ∃ q : Nat, (am_ix h)[q]? = some r ∧ (am_wl b cy h)[q]? = some (b + r, am_ce b cy h r) := am_at (hH.2.2.2 r _ hs) (by rw [hs]; rfl)
theorem am_fvs {b : Nat} {sa : Nat → Nat} {h : am_H} {k r j : Nat} (hj : j < am_nf k) : ((List.range (am_nf k)).map (am_fv b h k r))[j]? = some (am_tv b sa (am_fa h k r j)) := by
  rw [← am_fa_tv]
  simp [hj]
theorem am_x_get {idx k0 j r n : Nat} {v : Value} (hdec : decode M.2.1 pc = .ok (.getfield idx, 3)) (hf : am_fl M.1.cls idx k0 j) (hs : am_s h r = some (k0, n)) (hv : am_fa h k0 r j = v) (k : am_Sem d M (pc + 3) l (v :: st) h o) : am_Sem d M pc l (.ref r :: st) h o := by
  refine ⟨k.1, ?_⟩
  intro lc D b sa cy p e R s m args below meth c mc ms C hmc hms H locs cells slots ls hH hS hl h1 h2
  have kk := k.2 lc D b sa cy p e R s m args below meth c mc ms C hmc hms H locs cells slots ls hH hS hl h1 h2
  obtain ⟨hx, hb, -, -, hown, -, -, hts, hG, -⟩ := id C
  obtain ⟨Cn, T, ⟨hc, hin, hty, hnm, hk⟩, hj, hC, hlk⟩ := hf
  obtain ⟨q, -, hq⟩ := am_find hH hs
  rw [am_ce_ob hs hk] at hq
  have hts' : ∀ w ∈ am_GT, w.before args s = true := fun w hw => hts w (List.mem_filter.mp hw).1 (List.mem_filter.mp hw).2
  have hv' : ((List.range (am_nf k0)).map (am_fv b h k0 r))[j]? = some (am_tv b sa v) := by rw [← hv]; exact am_fvs hj
  rcases hlk with hlk | ⟨host, hlk⟩
  · exact va_get hx hb hts' hin hown hG.1 hH.1 q hq hc j hj (hts _ hlk rfl) (by rw [hC]; exact fun _ z => z) hv' hdec kk
  · exact va_getN hx hb hts' hin hown hG.1 hH.1 q hq hc j hj (va_Nw.use rfl (hG.2.1 _ hlk rfl)) (by rw [hC]; exact fun _ z => z) hv' hdec kk
theorem am_x_putg {idx k0 j r n : Nat} {v : Value} {h' : am_H} (hdec : decode M.2.1 pc = .ok (.putfield idx, 3)) (hf : am_fw M.1 idx k0 j) (hs : am_s h r = some (k0, n)) (e1 : h'.1 = h.1) (e2 : am_t h' = am_t h) (e3 : am_u h' = am_u h)
    (hn : ∀ b sa, narrow (am_ty k0 j) (am_tv b sa v) = am_tv b sa v) (hfit : ∀ b sa, fits (am_ty k0 j) (am_tv b sa v) = true) (hset : ∀ j', j' < am_nf k0 → am_fa h' k0 r j' = if j' = j then v else am_fa h k0 r j') (hoth : ∀ b cy r', r' ≠ r → am_ce b cy h' r' = am_ce b cy h r')
    (k : am_Sem d M (pc + 3) l st h' o) : am_Sem d M pc l (v :: .ref r :: st) h o := by
  refine ⟨by rw [← e2, ← e3]; exact k.1, ?_⟩
  intro lc D b sa cy p e R s m args below meth c mc ms C hmc hms H locs cells slots ls hH hS hl h1 h2
  obtain ⟨hx, hb, -, -, hown, hname, -, hts, hG, -⟩ := id C
  obtain ⟨Cn, T, ⟨hc, hin, hty, hnm, hk⟩, hj, hC, hlk⟩ := hf
  obtain ⟨q, hiq, hq⟩ := am_find hH hs
  rw [am_ce_ob hs hk] at hq
  have hts' : ∀ w ∈ am_GT, w.before args s = true := fun w hw => hts w (List.mem_filter.mp hw).1 (List.mem_filter.mp hw).2
  have hs' : am_s h' r = some (k0, n) := by show h'.1 r = _; rw [e1]; exact hs
  have hce : am_ce b cy h' r = .inr (k0, ((List.range (am_nf k0)).map (am_fv b h k0 r)).set j (am_tv b sa v)) := by
    rw [am_ce_ob hs' hk]
    refine congrArg (fun z => Sum.inr (k0, z)) ?_
    apply List.ext_getElem?
    intro i
    by_cases hi : i < am_nf k0
    · rw [am_fvs (sa := sa) hi, hset i hi]
      by_cases hij : i = j
      · subst hij
        rw [if_pos rfl, List.getElem?_set_self (by simpa using hi)]
      · rw [if_neg hij, List.getElem?_set_ne (fun z => hij z.symm), am_fvs (sa := sa) hi]
    · rw [List.getElem?_eq_none (by simp; omega), List.getElem?_eq_none (by simp; omega)]
  have kk : ∀ (H1 : Heap) (locs1 : List Loc), va_P D vwCl ((am_wl b cy h).set q (b + r, .inr (k0, ((List.range (am_nf k0)).map (am_fv b h k0 r)).set j (am_tv b sa v)))) H1 → va_D (am_A b) ((am_wl b cy h).set q (b + r, .inr (k0, ((List.range (am_nf k0)).map (am_fv b h k0 r)).set j (am_tv b sa v)))) → va_S (am_A b) s.heap H1 locs1 → H1.size = H.size → W p lc e R s m args below meth c H1 locs1 cells slots (MQ below (am_Q D b sa cy o) args s mc ms (am_A b)) (F0 m (pc + 3) ls (st.map (am_tv b sa))) := by
    intro H1 locs1 hP1 hD1 hS1 hz
    rw [am_set hH.2.1 hiq e1 e2 hce (hoth b cy)] at hP1 hD1
    exact k.2 lc D b sa cy p e R s m args below meth c mc ms C hmc hms H1 locs1 cells slots ls ⟨hP1, hD1, by rw [hz, hH.2.2.1, e2], fun r' sh z => by rw [e2]; exact hH.2.2.2 r' sh (by show h.1 r' = _; rw [← e1]; exact z)⟩ hS1 hl (by rw [e2]; exact h1) (by rw [e3]; exact h2)
  have hap := va_apart (own := M.1.cls) hts' hin (am_ty k0) hty hnm hG.1 hc
  obtain ⟨r0, z1, cell, q1, q2, q3, q4⟩ := hH.1 q _ hq
  have hr0 : r0 = (Cn, T, am_nf k0) := Option.some.inj (z1.symm.trans hc)
  subst hr0
  obtain ⟨hSl, hfc, kC, hkC, hkind⟩ := hG.1.1 k0 _ hc
  obtain ⟨cf, kf, fi, f, hi, hsl⟩ := hSl j hj
  have hlen : j < ((List.range (am_nf k0)).map (am_fv b h k0 r)).length := by simpa using hj
  have hst := (u_facts hfc hkC (u_lays hts' hin hj) hi).1
  have hlay := hts' _ (hin _ (u_in_lay hj))
  unfold u_lay at hlay
  have fin : ∀ (H' : Heap), H'[b + r]? = some (cell.setSlot (D.2 k0 j) (am_tv b sa v)) → H'.size = H.size → (∀ q, q ≠ b + r → H'[q]? = H[q]?) → W p lc e R s m args below meth c H' (locs ++ [⟨b + r, D.2 k0 j⟩]) cells slots (MQ below (am_Q D b sa cy o) args s mc ms (am_A b)) (F0 m (pc + 3) ls (st.map (am_tv b sa))) := by
    intro H' g1 g2 g3
    exact kk H' _ (hH.1.set hH.2.1 hq ⟨_, hc, t_OB.to (V := updV (vp_V ((List.range (am_nf k0)).map (am_fv b h k0 r))) j (am_tv b sa v)) ⟨_, g1, q2, q3, t_set q4 hap hj (am_tv b sa v)⟩ (fun i _ => vp_updV_set hlen (am_tv b sa v) i)⟩ g3) (hH.2.1.set hq) (hS.put g2 g3 (hH.2.1.2 q _ hq)) g2
  rcases hlk with ⟨hfin, hlk⟩ | ⟨hfin, hini, hCo, hlk⟩
  · rw [if_neg (by rw [hfin]; decide)] at hlay
    have h6 := u_store hfc hkC hkind hlay hi (hty j hj) (hn b sa) (hfit b sa)
    rcases hlk with hlk | ⟨host, hlk⟩
    · have hlk' := hts _ hlk rfl
      rw [← hC] at hlk'
      refine W.putK hx hb (f := f) ⟨hown, hlk', ⟨_, _, _, hi⟩, hst⟩ (by rw [q2]; exact h6) q1 q3 (by rw [hsl]; exact k2_hasslot (q4 j hj)) rfl rfl hdec fun H' g1 g2 g3 => ?_
      rw [hsl] at g1 ⊢
      exact fin H' g1 g2 g3
    · have hlk' := va_Nw.use (A := args) rfl (hG.2.1 _ hlk rfl)
      rw [← hC] at hlk'
      refine va_WputK hx hb (f := f) hown hlk' hi hst (by rw [q2]; exact h6) q1 q3 (by rw [hsl]; exact k2_hasslot (q4 j hj)) rfl rfl hdec fun H' g1 g2 g3 => ?_
      rw [hsl] at g1 ⊢
      exact fin H' g1 g2 g3
  · rw [if_pos hfin] at hlay
    have hcf : m.cls = cf := by
      obtain ⟨_, _, c', _, _, _, -, -, hf', -, -, -, hown2, -⟩ := Cond.laysFinal_spec hlay
      have e1 : c' = cf := by have := hi.symm.trans hf'; simp at this; exact this.1.symm
      rw [hC, hCo] at hown2
      rw [← e1]; exact Option.some.inj (hown.symm.trans hown2)
    have h6 := u_fits hfc hkC hkind (Or.inr hlay) hi (hty j hj) (hn b sa) (hfit b sa)
    have hlk' := hts _ hlk rfl
    rw [← hC] at hlk'
    refine W.putFinK hx hb hown hlk' hi hst hcf (hname.trans hini) (by rw [q2]; exact h6) q1 q3 (by rw [hsl]; exact k2_hasslot (q4 j hj)) rfl rfl hdec fun H' g1 g2 g3 => ?_
    rw [hsl] at g1 ⊢
    exact fin H' g1 g2 g3
theorem am_x_putI {idx k0 j r n : Nat} {v : Int32} (hdec : decode M.2.1 pc = .ok (.putfield idx, 3)) (hf : am_fw M.1 idx k0 j) (hs : am_s h r = some (k0, n)) (ht : am_ty k0 j = .int ∨ (am_ty k0 j = .boolean ∧ (v = 0 ∨ v = 1))) (k : am_Sem d M (pc + 3) l st (am_wI h r j v) o) : am_Sem d M pc l (.int v :: .ref r :: st) h o := by
  refine am_x_putg (h' := am_wI h r j v) hdec hf hs rfl rfl rfl (fun b sa => ?_) (fun b sa => ?_) (fun j' hj' => ?_) (fun b cy r' hr' => am_ce_ne rfl (am_up_ne hr') rfl rfl) k
  · rcases ht with ht | ⟨ht, hv | hv⟩
    · rw [ht]; rfl
    · rw [ht, hv]; rfl
    · rw [ht, hv]; rfl
  · rcases ht with ht | ⟨ht, hv | hv⟩
    · rw [ht]; rfl
    · rw [ht, hv]; rfl
    · rw [ht, hv]; rfl
  · have z : am_i (am_wI h r j v) r j' = if j' = j then v else am_i h r j' := am_up_eq j'
    by_cases hj : j' = j
    · subst hj
      rw [if_pos rfl] at z ⊢
      unfold am_fa
      rcases ht with ht | ⟨ht, -⟩
      · rw [ht]; exact congrArg Value.int z
      · rw [ht]; exact congrArg Value.int z
    · rw [if_neg hj] at z ⊢
      unfold am_fa
      rw [z]
      rfl
theorem am_x_putL {idx k0 j r n : Nat} {v : Int64} (hdec : decode M.2.1 pc = .ok (.putfield idx, 3)) (hf : am_fw M.1 idx k0 j) (hs : am_s h r = some (k0, n)) (ht : am_ty k0 j = .long) (k : am_Sem d M (pc + 3) l st (am_wL h r j v) o) : am_Sem d M pc l (.long v :: .ref r :: st) h o := by
  refine am_x_putg (h' := am_wL h r j v) hdec hf hs rfl rfl rfl (fun b sa => by rw [ht]; rfl) (fun b sa => by rw [ht]; rfl) (fun j' hj' => ?_) (fun b cy r' hr' => am_ce_ne rfl rfl (am_up_ne hr') rfl) k
  have z : am_l (am_wL h r j v) r j' = if j' = j then v else am_l h r j' := am_up_eq j'
  by_cases hj : j' = j
  · subst hj
    rw [if_pos rfl] at z ⊢
    unfold am_fa
    rw [ht]
    exact congrArg Value.long z
  · rw [if_neg hj] at z ⊢
    unfold am_fa
    rw [z]
    rfl
theorem am_x_putR {idx k0 j r n : Nat} {v : Option Nat} (hdec : decode M.2.1 pc = .ok (.putfield idx, 3)) (hf : am_fw M.1 idx k0 j) (hs : am_s h r = some (k0, n)) (ht : (∃ C, am_ty k0 j = .object C) ∨ ∃ t, am_ty k0 j = .array t) (k : am_Sem d M (pc + 3) l st (am_wP h r j v) o) : am_Sem d M pc l (am_rv v :: .ref r :: st) h o := by
  refine am_x_putg (h' := am_wP h r j v) hdec hf hs rfl rfl rfl (fun b sa => ?_) (fun b sa => ?_) (fun j' hj' => ?_) (fun b cy r' hr' => am_ce_ne rfl rfl rfl (am_up_ne hr')) k
  · rcases ht with ⟨_, ht⟩ | ⟨_, ht⟩ <;> rw [ht] <;> cases v <;> rfl
  · rcases ht with ⟨_, ht⟩ | ⟨_, ht⟩ <;> rw [ht] <;> cases v <;> rfl
  · have z : am_p (am_wP h r j v) r j' = if j' = j then v else am_p h r j' := am_up_eq j'
    by_cases hj : j' = j
    · subst hj
      rw [if_pos rfl] at z ⊢
      unfold am_fa
      rcases ht with ⟨_, ht⟩ | ⟨_, ht⟩
      · rw [ht]; exact congrArg am_rv z
      · rw [ht]; exact congrArg am_rv z
    · rw [if_neg hj] at z ⊢
      unfold am_fa
      rw [z]
      rfl
end AMY
