/-! arrays, constant arrays, new things -/
section AMZ
variable {d : Nat} {M : am_M} {pc : Nat} {l : List (Option Value)} {st : List Value} {h : am_H} {o : am_O}
def am_gs (own : String) (idx i : Nat) : Prop := ∃ q : String × String × List Int32, am_ss[i]? = some q ∧ (Cond.fieldLink own idx q.1 q.2.1 "[I" ∈ lw_tbl ∨ ∃ host, Cond.fieldLinkNest own idx q.1 q.2.1 "[I" host ∈ lw_tbl)
def am_sl (i : Nat) : List Int32 := match am_ss[i]? with
  | some q => q.2.2
  | none => []
theorem am_x_gs {idx i : Nat} (hdec : decode M.2.1 pc = .ok (.getstatic idx, 3)) (hf : am_gs M.1.cls idx i) (k : am_Sem d M (pc + 3) l (.retAddr i :: st) h o) : am_Sem d M pc l st h o := by
  refine ⟨k.1, ?_⟩
  intro lc D b sa cy p e R s m args below meth c mc ms C hmc hms H locs cells slots ls hH hS hl h1 h2
  have kk := k.2 lc D b sa cy p e R s m args below meth c mc ms C hmc hms H locs cells slots ls hH hS hl h1 h2
  obtain ⟨hx, hb, -, -, hown, -, -, hts, hG, -⟩ := id C
  obtain ⟨q, hq, hlk⟩ := hf
  obtain ⟨g1, -, -, -⟩ := hG.2.2.1 i q hq
  rcases hlk with hlk | ⟨host, hlk⟩
  · exact va_gets hx hb g1 hS hown (hts _ hlk rfl) (fun _ z => z) hdec kk
  · exact va_getsN hx hb g1 hS hown (va_Nw.use rfl (hG.2.1 _ hlk rfl)) (fun _ z => z) hdec kk
theorem am_x_sld {i : Nat} {x : Int32} (hdec : decode M.2.1 pc = .ok (.iaload, 1)) (hi : i < 4) (hin : vp_in x (am_sl i).length) (k : am_Sem d M (pc + 1) l (.int ((am_sl i).getD x.toNatClampNeg 0) :: st) h o) : am_Sem d M pc l (.int x :: .retAddr i :: st) h o := by
  refine ⟨k.1, ?_⟩
  intro lc D b sa cy p e R s m args below meth c mc ms C hmc hms H locs cells slots ls hH hS hl h1 h2
  have kk := k.2 lc D b sa cy p e R s m args below meth c mc ms C hmc hms H locs cells slots ls hH hS hl h1 h2
  obtain ⟨hx, hb, -, -, hown, -, -, hts, hG, -⟩ := id C
  obtain ⟨q, hq⟩ : ∃ q, am_ss[i]? = some q := ⟨_, List.getElem?_eq_getElem (l := am_ss) hi⟩
  obtain ⟨-, g2, g3, g4⟩ := hG.2.2.1 i q hq
  have hsl : am_sl i = q.2.2 := by unfold am_sl; rw [hq]
  rw [hsl] at hin kk
  exact va_ti hx hb g2 hS hin rfl hdec kk
theorem am_x_slen {i : Nat} (hdec : decode M.2.1 pc = .ok (.arraylength, 1)) (hi : i < 4) (k : am_Sem d M (pc + 1) l (.int (Int32.ofNat (am_sl i).length) :: st) h o) : am_Sem d M pc l (.retAddr i :: st) h o := by
  refine ⟨k.1, ?_⟩
  intro lc D b sa cy p e R s m args below meth c mc ms C hmc hms H locs cells slots ls hH hS hl h1 h2
  have kk := k.2 lc D b sa cy p e R s m args below meth c mc ms C hmc hms H locs cells slots ls hH hS hl h1 h2
  obtain ⟨hx, hb, -, -, hown, -, -, hts, hG, -⟩ := id C
  obtain ⟨q, hq⟩ : ∃ q, am_ss[i]? = some q := ⟨_, List.getElem?_eq_getElem (l := am_ss) hi⟩
  obtain ⟨-, g2, g3, g4⟩ := hG.2.2.1 i q hq
  have hsl : am_sl i = q.2.2 := by unfold am_sl; rw [hq]
  rw [hsl] at kk
  exact va_tlen hx hb g2 hS rfl hdec kk
theorem am_x_alen {r k0 n : Nat} (hdec : decode M.2.1 pc = .ok (.arraylength, 1)) (hs : am_s h r = some (k0, n)) (hk : k0 = 100 ∨ k0 = 101 ∨ k0 = 102 ∨ k0 = 103) (k : am_Sem d M (pc + 1) l (.int (Int32.ofNat n) :: st) h o) : am_Sem d M pc l (.ref r :: st) h o := by
  refine ⟨k.1, ?_⟩
  intro lc D b sa cy p e R s m args below meth c mc ms C hmc hms H locs cells slots ls hH hS hl h1 h2
  have kk := k.2 lc D b sa cy p e R s m args below meth c mc ms C hmc hms H locs cells slots ls hH hS hl h1 h2
  obtain ⟨hx, hb, -, -, -, -, -, -, hG, -⟩ := id C
  obtain ⟨q, -, hq⟩ := am_find hH hs
  rcases hk with rfl | rfl | rfl | rfl
  · rw [am_ce_i hs] at hq; exact va_alen hx hb hG.1 hH.1 q 0 hq rfl rfl hdec kk
  · rw [am_ce_l hs] at hq; exact va_alen hx hb hG.1 hH.1 q 1 hq rfl rfl hdec kk
  · rw [am_ce_z hs] at hq; exact va_alen hx hb hG.1 hH.1 q 2 hq rfl rfl hdec kk
  · rw [am_ce_q hs] at hq; exact va_alen hx hb hG.1 hH.1 q 3 hq rfl rfl hdec kk
theorem am_x_iald {r n : Nat} {x : Int32} (hdec : decode M.2.1 pc = .ok (.iaload, 1)) (hs : am_s h r = some (100, n)) (hin : vp_in x n) (k : am_Sem d M (pc + 1) l (.int (am_i h r x.toNatClampNeg) :: st) h o) : am_Sem d M pc l (.int x :: .ref r :: st) h o := by
  refine ⟨k.1, ?_⟩
  intro lc D b sa cy p e R s m args below meth c mc ms C hmc hms H locs cells slots ls hH hS hl h1 h2
  obtain ⟨hx, hb, -, -, -, -, -, -, hG, -⟩ := id C
  obtain ⟨q, -, hq⟩ := am_find hH hs
  rw [am_ce_i hs] at hq
  exact va_iald hx hb hG.1 hH.1 q 0 hq rfl hin hdec (k.2 lc D b sa cy p e R s m args below meth c mc ms C hmc hms H locs cells slots ls hH hS hl h1 h2)
theorem am_x_lald {r n : Nat} {x : Int32} (hdec : decode M.2.1 pc = .ok (.laload, 1)) (hs : am_s h r = some (101, n)) (hin : vp_in x n) (k : am_Sem d M (pc + 1) l (.long (am_l h r x.toNatClampNeg) :: st) h o) : am_Sem d M pc l (.int x :: .ref r :: st) h o := by
  refine ⟨k.1, ?_⟩
  intro lc D b sa cy p e R s m args below meth c mc ms C hmc hms H locs cells slots ls hH hS hl h1 h2
  obtain ⟨hx, hb, -, -, -, -, -, -, hG, -⟩ := id C
  obtain ⟨q, -, hq⟩ := am_find hH hs
  rw [am_ce_l hs] at hq
  exact va_lald hx hb hG.1 hH.1 q 1 hq rfl hin hdec (k.2 lc D b sa cy p e R s m args below meth c mc ms C hmc hms H locs cells slots ls hH hS hl h1 h2)
theorem am_x_zald {r n : Nat} {x : Int32} (hdec : decode M.2.1 pc = .ok (.baload, 1)) (hs : am_s h r = some (102, n)) (hin : vp_in x n) (k : am_Sem d M (pc + 1) l (.int (am_i h r x.toNatClampNeg) :: st) h o) : am_Sem d M pc l (.int x :: .ref r :: st) h o := by
  refine ⟨k.1, ?_⟩
  intro lc D b sa cy p e R s m args below meth c mc ms C hmc hms H locs cells slots ls hH hS hl h1 h2
  obtain ⟨hx, hb, -, -, -, -, -, -, hG, -⟩ := id C
  obtain ⟨q, -, hq⟩ := am_find hH hs
  rw [am_ce_z hs] at hq
  exact va_zald hx hb hG.1 hH.1 q 2 hq rfl hin hdec (k.2 lc D b sa cy p e R s m args below meth c mc ms C hmc hms H locs cells slots ls hH hS hl h1 h2)
theorem am_x_qald {r n : Nat} {x : Int32} (hdec : decode M.2.1 pc = .ok (.aaload, 1)) (hs : am_s h r = some (103, n)) (hin : vp_in x n) (k : am_Sem d M (pc + 1) l (am_rv (am_p h r x.toNatClampNeg) :: st) h o) : am_Sem d M pc l (.int x :: .ref r :: st) h o := by
  refine ⟨k.1, ?_⟩
  intro lc D b sa cy p e R s m args below meth c mc ms C hmc hms H locs cells slots ls hH hS hl h1 h2
  have kk := k.2 lc D b sa cy p e R s m args below meth c mc ms C hmc hms H locs cells slots ls hH hS hl h1 h2
  obtain ⟨hx, hb, -, -, -, -, -, -, hG, -⟩ := id C
  obtain ⟨q, -, hq⟩ := am_find hH hs
  rw [am_ce_q hs] at hq
  refine va_aldq hx hb hG.1 hH.1 q 3 hq rfl hin hdec ?_
  rw [am_rv_tv b sa]
  exact kk
theorem am_fin {h' : am_H} {q r : Nat} {en : va_E} (k : am_Sem d M pc l st h' o) (e1 : h'.1 = h.1) (e2 : am_t h' = am_t h) (e3 : am_u h' = am_u h) {lc : Launch} {D : va_G} {b : Nat} {sa : Nat → Nat} {cy : Nat → ClassId} {p : Program} {e : Env} {R : Room} {s : State} {m : MethodId} {args : Array Value} {below : List Frame} {meth : Method} {c : Code} {mc ms : Nat} (C : am_CS d M D b sa cy p R s m args meth c) (hmc : mc ≤ R.cells) (hms : ms ≤ R.slots) {H H1 : Heap} {locs1 : List Loc} {cells slots : Nat} {ls : Array Slot} (hH : am_Hp D b cy h H) (hiq : (am_ix h)[q]? = some r) (hce : am_ce b cy h' r = en) (hoth : ∀ r', r' ≠ r → am_ce b cy h' r' = am_ce b cy h r')
    (hl : am_L b sa ls M.2.2.1 l) (h1 : cells + am_t o.2 = mc + am_t h) (h2 : slots + am_u o.2 = ms + am_u h) (hP1 : va_P D vwCl ((am_wl b cy h).set q (b + r, en)) H1) (hD1 : va_D (am_A b) ((am_wl b cy h).set q (b + r, en))) (hS1 : va_S (am_A b) s.heap H1 locs1) (hz : H1.size = H.size) :
    W p lc e R s m args below meth c H1 locs1 cells slots (MQ below (am_Q D b sa cy o) args s mc ms (am_A b)) (F0 m pc ls (st.map (am_tv b sa))) := by
  rw [am_set hH.2.1 hiq e1 e2 hce hoth] at hP1 hD1
  exact k.2 lc D b sa cy p e R s m args below meth c mc ms C hmc hms H1 locs1 cells slots ls ⟨hP1, hD1, by rw [hz, hH.2.2.1, e2], fun r' sh z => by rw [e2]; exact hH.2.2.2 r' sh (by show h.1 r' = _; rw [← e1]; exact z)⟩ hS1 hl (by rw [e2]; exact h1) (by rw [e3]; exact h2)
theorem am_upi {α : Type} {f : Nat → Nat → α} {r j : Nat} {v : α} : am_up f r j v r = fun j' => if j' = j then v else f r j' := by
  funext j'
  exact am_up_eq j'

theorem am_x_iast {r n : Nat} {x : Int32} {v : Int32} (hdec : decode M.2.1 pc = .ok (.iastore, 1)) (hs : am_s h r = some (100, n)) (hin : vp_in x n)  (k : am_Sem d M (pc + 1) l st (am_wI h r x.toNatClampNeg v) o) : am_Sem d M pc l (.int v :: .int x :: .ref r :: st) h o := by
  refine ⟨k.1, ?_⟩
  intro lc D b sa cy p e R s m args below meth c mc ms C hmc hms H locs cells slots ls hH hS hl h1 h2
  obtain ⟨hx, hb, -, -, -, -, -, -, hG, -⟩ := id C
  obtain ⟨q, hiq, hq⟩ := am_find hH hs
  rw [am_ce_i hs] at hq
  have hup : am_i (am_wI h r x.toNatClampNeg v) r = upd (am_i h r) x.toNatClampNeg v := by
    show am_up _ _ _ _ _ = _
    rw [am_upi]
    rfl
  have hce : am_ce b cy (am_wI h r x.toNatClampNeg v) r = .inl (cy 0, n, .inl (upd (am_i h r) x.toNatClampNeg v)) := by
    rw [am_ce_i (show am_s (am_wI h r x.toNatClampNeg v) r = some (100, n) from hs), hup]
  refine W.iast hx hb (hH.1 q _ hq) ((hG.1.2 0 _ rfl).1 n (fun j => .int (am_i h r j))) (fun q => by cases q) (by show ¬ (x < 0 ∨ (arrV _ _ _).slots.size ≤ _); rw [arrV_size]; exact hin) rfl rfl hdec fun H1 e z oq => ?_
  have hat : va_at D vwCl (b + r, .inl (cy 0, n, .inl (upd (am_i h r) x.toNatClampNeg v))) H1 := by
    show H1[b + r]? = some (vp_cell _ _)
    rw [e, vp_cell_i, vp_cell_i, arrV_store]
    congr 2
    funext q
    by_cases hq : q = x.toNatClampNeg
    · subst hq
      simp [updV, upd]
    · simp [updV, upd, hq]
  exact am_fin (h := h) k rfl rfl rfl C hmc hms hH hiq hce (fun r' hr' => am_ce_ne rfl (am_up_ne hr') rfl rfl) hl h1 h2 (hH.1.set hH.2.1 hq hat oq) (hH.2.1.set hq) (hS.put z oq (hH.2.1.2 q _ hq)) z
theorem am_x_last {r n : Nat} {x : Int32} {v : Int64} (hdec : decode M.2.1 pc = .ok (.lastore, 1)) (hs : am_s h r = some (101, n)) (hin : vp_in x n)  (k : am_Sem d M (pc + 1) l st (am_wL h r x.toNatClampNeg v) o) : am_Sem d M pc l (.long v :: .int x :: .ref r :: st) h o := by
  refine ⟨k.1, ?_⟩
  intro lc D b sa cy p e R s m args below meth c mc ms C hmc hms H locs cells slots ls hH hS hl h1 h2
  obtain ⟨hx, hb, -, -, -, -, -, -, hG, -⟩ := id C
  obtain ⟨q, hiq, hq⟩ := am_find hH hs
  rw [am_ce_l hs] at hq
  have hup : am_l (am_wL h r x.toNatClampNeg v) r = vp_updL (am_l h r) x.toNatClampNeg v := by
    show am_up _ _ _ _ _ = _
    rw [am_upi]
    rfl
  have hce : am_ce b cy (am_wL h r x.toNatClampNeg v) r = .inl (cy 1, n, .inr (.inl (vp_updL (am_l h r) x.toNatClampNeg v))) := by
    rw [am_ce_l (show am_s (am_wL h r x.toNatClampNeg v) r = some (101, n) from hs), hup]
  refine W.last hx hb (hH.1 q _ hq) ((hG.1.2 1 _ rfl).1 n (fun j => .long (am_l h r j))) (fun q => by cases q) (by show ¬ (x < 0 ∨ (arrV _ _ _).slots.size ≤ _); rw [arrV_size]; exact hin) rfl rfl hdec fun H1 e z oq => ?_
  have hat : va_at D vwCl (b + r, .inl (cy 1, n, .inr (.inl (vp_updL (am_l h r) x.toNatClampNeg v)))) H1 := by
    show H1[b + r]? = some (vp_cell _ _)
    rw [e, vp_cell_l, vp_cell_l, arrV_store]
    congr 2
    funext q
    by_cases hq : q = x.toNatClampNeg
    · subst hq
      simp [updV, vp_updL]
    · simp [updV, vp_updL, hq]
  exact am_fin (h := h) k rfl rfl rfl C hmc hms hH hiq hce (fun r' hr' => am_ce_ne rfl rfl (am_up_ne hr') rfl) hl h1 h2 (hH.1.set hH.2.1 hq hat oq) (hH.2.1.set hq) (hS.put z oq (hH.2.1.2 q _ hq)) z
theorem am_x_zast {r n : Nat} {x : Int32} {v : Int32} (hdec : decode M.2.1 pc = .ok (.bastore, 1)) (hs : am_s h r = some (102, n)) (hin : vp_in x n) (hv : v = 0 ∨ v = 1) (k : am_Sem d M (pc + 1) l st (am_wI h r x.toNatClampNeg v) o) : am_Sem d M pc l (.int v :: .int x :: .ref r :: st) h o := by
  refine ⟨k.1, ?_⟩
  intro lc D b sa cy p e R s m args below meth c mc ms C hmc hms H locs cells slots ls hH hS hl h1 h2
  obtain ⟨hx, hb, -, -, -, -, -, -, hG, -⟩ := id C
  obtain ⟨q, hiq, hq⟩ := am_find hH hs
  rw [am_ce_z hs] at hq
  have hup : am_i (am_wI h r x.toNatClampNeg v) r = upd (am_i h r) x.toNatClampNeg v := by
    show am_up _ _ _ _ _ = _
    rw [am_upi]
    rfl
  have hce : am_ce b cy (am_wI h r x.toNatClampNeg v) r = .inl (cy 2, n, .inl (upd (am_i h r) x.toNatClampNeg v)) := by
    rw [am_ce_z (show am_s (am_wI h r x.toNatClampNeg v) r = some (102, n) from hs), hup]
  refine W.zast hx hb (hH.1 q _ hq) ((hG.1.2 2 _ rfl).1 n (fun j => .int (am_i h r j))) (fun q => by cases q) (by show ¬ (x < 0 ∨ (arrV _ _ _).slots.size ≤ _); rw [arrV_size]; exact hin) rfl rfl hdec fun H1 e z oq => ?_
  have hat : va_at D vwCl (b + r, .inl (cy 2, n, .inl (upd (am_i h r) x.toNatClampNeg v))) H1 := by
    show H1[b + r]? = some (vp_cell _ _)
    rw [e, vp_cell_i, vp_cell_i, arrV_store]
    congr 2
    funext q
    by_cases hq : q = x.toNatClampNeg
    · subst hq
      rcases hv with hv | hv <;> subst hv <;> simp [updV, upd, narrow]
    · simp [updV, upd, hq]
  exact am_fin (h := h) k rfl rfl rfl C hmc hms hH hiq hce (fun r' hr' => am_ce_ne rfl (am_up_ne hr') rfl rfl) hl h1 h2 (hH.1.set hH.2.1 hq hat oq) (hH.2.1.set hq) (hS.put z oq (hH.2.1.2 q _ hq)) z
theorem am_nofl {k0 j : Nat} {ty : FieldType} (h : ty = am_ty k0 j) (hk : k0 < 100) (hj : j < am_nf k0) : ty ≠ .float ∧ ty ≠ .double := by
  subst h
  have key : ∀ k, k < 13 → ∀ j, j < am_nf k → am_ty k j ≠ .float ∧ am_ty k j ≠ .double := by decide +kernel
  rcases Nat.lt_or_ge k0 13 with q | q
  · exact key k0 q j hj
  · have e1 : am_nf k0 = am_nf 12 := by
      obtain ⟨m, rfl⟩ : ∃ m, k0 = m + 13 := ⟨k0 - 13, by omega⟩
      rfl
    have e2 : am_ty k0 = am_ty 12 := by
      obtain ⟨m, rfl⟩ : ∃ m, k0 = m + 13 := ⟨k0 - 13, by omega⟩
      rfl
    rw [e2]
    exact key 12 (by omega) j (by rw [← e1]; exact hj)
theorem am_nwHp {D : va_G} {b : Nat} {cy : Nat → ClassId} {H H1 : Heap} {sh : Nat × Nat} {n : Nat} {en : va_E} (hH : am_Hp D b cy h H) (hce : am_ce b cy (am_nw h sh n) (am_t h) = en) (hP1 : va_P D vwCl (am_wl b cy h ++ [(b + am_t h, en)]) H1) (hD1 : va_D (am_A b) (am_wl b cy h ++ [(b + am_t h, en)])) (hz : H1.size = H.size + 1) : am_Hp D b cy (am_nw h sh n) H1 := by
  rw [← hce, ← am_push] at hP1 hD1
  refine ⟨hP1, hD1, ?_, fun r sh' hr => ?_⟩
  · rw [hz, hH.2.2.1]
    show b + am_t h + 1 = b + (am_t h + 1)
    omega
  · have hr : (bif Nat.beq r (am_t h) then some sh else h.1 r) = some sh' := hr
    show r < am_t h + 1
    by_cases hq : r = am_t h
    · omega
    · rw [am_bne hq] at hr
      have := hH.2.2.2 r sh' hr
      omega
theorem am_nw_s {sh : Nat × Nat} {n : Nat} : am_s (am_nw h sh n) (am_t h) = some sh := by
  show (bif Nat.beq (am_t h) (am_t h) then some sh else h.1 (am_t h)) = _
  rw [am_beq]
  rfl
theorem am_x_new {idx k0 : Nat} {Cn : String} {T : u_T} (hdec : decode M.2.1 pc = .ok (.new idx, 3)) (hok : am_ok k0 Cn T) (hl1 : Cond.classLink M.1.cls idx Cn ∈ lw_tbl) (hl2 : Cond.instantiable Cn (am_nf k0) ∈ lw_tbl) (hl3 : Cond.initialized Cn ∈ lw_tbl) (k : am_Sem d M (pc + 3) l (.ref (am_t h) :: st) (am_nw h (k0, 0) (am_nf k0)) o) : am_Sem d M pc l st h o := by
  have m1 : am_t h + 1 ≤ am_t o.2 := k.1.1
  have m2 : am_u h + am_nf k0 ≤ am_u o.2 := k.1.2
  refine ⟨⟨by omega, by omega⟩, ?_⟩
  intro lc D b sa cy p e R s m args below meth c mc ms C hmc hms H locs cells slots ls hH hS hl h1 h2
  obtain ⟨hx, hb, -, -, hown, -, -, hts, hG, -⟩ := id C
  obtain ⟨hc, hin, hty, hnm, hk⟩ := hok
  have hts' : ∀ w ∈ am_GT, w.before args s = true := fun w hw => hts w (List.mem_filter.mp hw).1 (List.mem_filter.mp hw).2
  have hKn := hG.1.1 k0 _ hc
  refine W.newcK hx hb hown (hts _ hl1 rfl) (hts _ hl2 rfl) (hts _ hl3 rfl) rfl hdec (by omega) (by omega) hKn.2.1 rfl fun H1 kC hkC e1 z1 o1 => ?_
  have hk9 : ∀ (q : Nat) (x : Nat × va_E), (am_wl b cy h)[q]? = some x → H1[x.1]? = H[x.1]? := fun q x hx => o1 x.1 ((hH.1 q x hx).lt)
  have hsz : H.size = b + am_t h := hH.2.2.1
  have hce : am_ce b cy (am_nw h (k0, 0) (am_nf k0)) (am_t h) = .inr (k0, (List.range (am_nf k0)).map (fun j => defaultValue (am_ty k0 j))) := by
    rw [am_ce_ob am_nw_s hk]
    refine congrArg (fun z => Sum.inr (k0, z)) (List.map_congr_left fun j hj => ?_)
    have z1 : am_i (am_nw h (k0, 0) (am_nf k0)) (am_t h) = fun _ => 0 := am_ro_eq
    have z2 : am_l (am_nw h (k0, 0) (am_nf k0)) (am_t h) = fun _ => 0 := am_ro_eq
    have z3 : am_p (am_nw h (k0, 0) (am_nf k0)) (am_t h) = fun _ => none := am_ro_eq
    unfold am_fv
    rw [z1, z2, z3]
    have hnf : ∀ ty, ty = am_ty k0 j → ty ≠ .float ∧ ty ≠ .double := by
      intro ty hty'
      have hj' := List.mem_range.mp hj
      exact am_nofl hty' hk hj'
    cases hq : am_ty k0 j <;> first | rfl | exact absurd rfl (hnf _ hq.symm).1 | exact absurd rfl (hnf _ hq.symm).2
  have hat : va_at D vwCl (b + am_t h, .inr (k0, (List.range (am_nf k0)).map (fun j => defaultValue (am_ty k0 j)))) H1 := by
    refine ⟨_, hc, ?_⟩
    rw [hsz] at e1
    exact (u_born (am_ty k0) hts' hin hKn hkC e1 hty).to (fun j hj => by simp [vp_V, hj])
  have hP1 : va_P D vwCl (am_wl b cy h ++ [(b + am_t h, .inr (k0, (List.range (am_nf k0)).map (fun j => defaultValue (am_ty k0 j))))]) H1 := (hH.1.kept hk9).app (fun q x hx => by
    have hz : q < 1 := (List.getElem?_eq_some_iff.mp hx).1
    rw [show q = 0 by omega] at hx
    cases hx
    exact hat)
  have hA : am_A b (b + am_t h) := Nat.le_add_right _ _
  have hD1 := hH.2.1.push (e := .inr (k0, (List.range (am_nf k0)).map (fun j => defaultValue (am_ty k0 j)))) hH.1 hsz.symm hA
  rw [hsz]
  exact k.2 lc D b sa cy p e R s m args below meth c mc ms C hmc hms H1 locs (cells + 1) (slots + am_nf k0) ls (am_nwHp hH hce hP1 hD1 z1) ⟨Nat.le_trans hS.1 (by omega), fun x g1 g2 => (o1 x (Nat.lt_of_lt_of_le g1 hS.1)).trans (hS.2.1 x g1 g2), hS.2.2⟩ hl (by show cells + 1 + am_t o.2 = mc + (am_t h + 1); omega) (by show slots + am_nf k0 + am_u o.2 = ms + (am_u h + am_nf k0); omega)
theorem am_x_qast {r n v n2 : Nat} {x : Int32} (hdec : decode M.2.1 pc = .ok (.aastore, 1)) (hs : am_s h r = some (103, n)) (hsv : am_s h v = some (3, n2)) (hin : vp_in x n) (k : am_Sem d M (pc + 1) l st (am_wP h r x.toNatClampNeg (some v)) o) : am_Sem d M pc l (.ref v :: .int x :: .ref r :: st) h o := by
  refine ⟨k.1, ?_⟩
  intro lc D b sa cy p e R s m args below meth c mc ms C hmc hms H locs cells slots ls hH hS hl h1 h2
  obtain ⟨hx, hb, -, -, -, -, -, -, hG, -⟩ := id C
  obtain ⟨q, hiq, hq⟩ := am_find hH hs
  rw [am_ce_q hs] at hq
  obtain ⟨qv, -, hqv⟩ := am_find hH hsv
  rw [am_ce_ob hsv (by omega)] at hqv
  obtain ⟨rv, gv0, cellV, gv1, gv2, gv3, -⟩ := hH.1 qv _ hqv
  have hcls := (hG.1.1 3 _ rfl).2
  obtain ⟨kA, comp, k1, k2, k3, -⟩ := (hG.1.2 3 _ rfl).2
  have hcomp : comp = D.1 3 := Option.some.inj (k3.symm.trans hcls.1)
  subst hcomp
  obtain ⟨kC, hkC, -⟩ := hcls.2
  have hup : am_p (am_wP h r x.toNatClampNeg (some v)) r = fun j' => if j' = x.toNatClampNeg then some v else am_p h r j' := am_upi
  have hce : am_ce b cy (am_wP h r x.toNatClampNeg (some v)) r = .inl (cy 3, n, .inr (.inr (.inr (.inr fun j => (if j = x.toNatClampNeg then some v else am_p h r j).map (b + ·))))) := by
    rw [am_ce_q (show am_s (am_wP h r x.toNatClampNeg (some v)) r = some (103, n) from hs), hup]
  refine W.aast hx hb (hH.1 q _ hq) (fun q h => by cases h) (fun h => by cases h) k1 k2 rfl hkC ⟨fun z => hin (Or.inl z), by show _ < (arrV _ _ _).slots.size; rw [arrV_size]; exact Nat.not_le.mp fun z => hin (Or.inr z)⟩ gv1 (fun q h => by rw [gv3] at h; cases h) (by rw [gv2]; exact hkC) (by rw [gv2]; exact va_assign hcls) rfl rfl hdec fun H1 e z oq => ?_
  have hat : va_at D vwCl (b + r, .inl (cy 3, n, .inr (.inr (.inr (.inr fun j => (if j = x.toNatClampNeg then some v else am_p h r j).map (b + ·)))))) H1 := by
    show H1[b + r]? = some (vp_cell _ _)
    rw [e, vp_cell_q, vp_cell_q, arrV_store]
    congr 2
    funext q
    by_cases hq : q = x.toNatClampNeg
    · subst hq
      simp [updV, va_rf]
    · simp [updV, hq]
  exact am_fin (h := h) k rfl rfl rfl C hmc hms hH hiq hce (fun r' hr' => am_ce_ne rfl rfl rfl (am_up_ne hr')) hl h1 h2 (hH.1.set hH.2.1 hq hat oq) (hH.2.1.set hq) (hS.put z oq (hH.2.1.2 q _ hq)) z
theorem am_x_newI {x : Int32} {N : Nat} (hdec : decode M.2.1 pc = .ok (.newarray .int, 2)) (hn : ¬ x < 0) (hN : x.toNatClampNeg = N) (hN2 : N ≤ 60000000) (hw : Cond.arrayClass .int ∈ lw_tbl) (k : am_Sem d M (pc + 2) l (.ref (am_t h) :: st) (am_nw h (100, N) N) o) : am_Sem d M pc l (.int x :: st) h o := by
  have m1 : am_t h + 1 ≤ am_t o.2 := k.1.1
  have m2 : am_u h + N ≤ am_u o.2 := k.1.2
  refine ⟨⟨by omega, by omega⟩, ?_⟩
  intro lc D b sa cy p e R s m args below meth c mc ms C hmc hms H locs cells slots ls hH hS hl h1 h2
  obtain ⟨hx, hb, -, -, hown, -, -, hts, hG, -⟩ := id C
  have hsz : H.size = b + am_t h := hH.2.2.1
  refine va_newaK hx hb (atype := .int) (hts _ hw rfl) rfl hdec rfl hn hN (by show N * componentBytes .int ≤ 536870912; simp only [componentBytes]; omega) (by omega) (by omega) rfl fun H1 cA e1 z1 o1 hAr hNm => ?_
  have hcA : cA = cy 0 := Option.some.inj (hNm.symm.trans (hG.1.2 0 _ rfl).2)
  subst hcA
  have hce : am_ce b cy (am_nw h (100, N) N) (am_t h) = .inl (cy 0, N, .inl (fun _ => 0)) := by
    rw [am_ce_i am_nw_s]
    have z : am_i (am_nw h (100, N) N) (am_t h) = fun _ => 0 := am_ro_eq
    rw [z]
  have hat : va_at D vwCl (b + am_t h, .inl (cy 0, N, .inl (fun _ => 0))) H1 := by
    show H1[b + am_t h]? = some (vp_cell _ _)
    rw [← hsz, vp_cell_i]
    exact e1
  have hk9 : ∀ (q : Nat) (x : Nat × va_E), (am_wl b cy h)[q]? = some x → H1[x.1]? = H[x.1]? := fun q x hx => o1 x.1 ((hH.1 q x hx).lt)
  have hP1 : va_P D vwCl (am_wl b cy h ++ [(b + am_t h, .inl (cy 0, N, .inl (fun _ => 0)))]) H1 := (hH.1.kept hk9).app (fun q x hx => by
    have hz : q < 1 := (List.getElem?_eq_some_iff.mp hx).1
    rw [show q = 0 by omega] at hx
    cases hx
    exact hat)
  have hD1 := hH.2.1.push (e := .inl (cy 0, N, .inl (fun _ => 0))) hH.1 hsz.symm (show am_A b (b + am_t h) from Nat.le_add_right _ _)
  rw [hsz]
  exact k.2 lc D b sa cy p e R s m args below meth c mc ms C hmc hms H1 locs (cells + 1) (slots + N) ls (am_nwHp hH hce hP1 hD1 z1) ⟨Nat.le_trans hS.1 (by omega), fun x g1 g2 => (o1 x (Nat.lt_of_lt_of_le g1 hS.1)).trans (hS.2.1 x g1 g2), hS.2.2⟩ hl (by show cells + 1 + am_t o.2 = mc + (am_t h + 1); omega) (by show slots + N + am_u o.2 = ms + (am_u h + N); omega)
theorem am_x_newL {x : Int32} {N : Nat} (hdec : decode M.2.1 pc = .ok (.newarray .long, 2)) (hn : ¬ x < 0) (hN : x.toNatClampNeg = N) (hN2 : N ≤ 60000000) (hw : Cond.arrayClass .long ∈ lw_tbl) (k : am_Sem d M (pc + 2) l (.ref (am_t h) :: st) (am_nw h (101, N) N) o) : am_Sem d M pc l (.int x :: st) h o := by
  have m1 : am_t h + 1 ≤ am_t o.2 := k.1.1
  have m2 : am_u h + N ≤ am_u o.2 := k.1.2
  refine ⟨⟨by omega, by omega⟩, ?_⟩
  intro lc D b sa cy p e R s m args below meth c mc ms C hmc hms H locs cells slots ls hH hS hl h1 h2
  obtain ⟨hx, hb, -, -, hown, -, -, hts, hG, -⟩ := id C
  have hsz : H.size = b + am_t h := hH.2.2.1
  refine va_newaK hx hb (atype := .long) (hts _ hw rfl) rfl hdec rfl hn hN (by show N * componentBytes .long ≤ 536870912; simp only [componentBytes]; omega) (by omega) (by omega) rfl fun H1 cA e1 z1 o1 hAr hNm => ?_
  have hcA : cA = cy 1 := Option.some.inj (hNm.symm.trans (hG.1.2 1 _ rfl).2)
  subst hcA
  have hce : am_ce b cy (am_nw h (101, N) N) (am_t h) = .inl (cy 1, N, .inr (.inl (fun _ => 0))) := by
    rw [am_ce_l am_nw_s]
    have z : am_l (am_nw h (101, N) N) (am_t h) = fun _ => 0 := am_ro_eq
    rw [z]
  have hat : va_at D vwCl (b + am_t h, .inl (cy 1, N, .inr (.inl (fun _ => 0)))) H1 := by
    show H1[b + am_t h]? = some (vp_cell _ _)
    rw [← hsz, vp_cell_l]
    exact e1
  have hk9 : ∀ (q : Nat) (x : Nat × va_E), (am_wl b cy h)[q]? = some x → H1[x.1]? = H[x.1]? := fun q x hx => o1 x.1 ((hH.1 q x hx).lt)
  have hP1 : va_P D vwCl (am_wl b cy h ++ [(b + am_t h, .inl (cy 1, N, .inr (.inl (fun _ => 0))))]) H1 := (hH.1.kept hk9).app (fun q x hx => by
    have hz : q < 1 := (List.getElem?_eq_some_iff.mp hx).1
    rw [show q = 0 by omega] at hx
    cases hx
    exact hat)
  have hD1 := hH.2.1.push (e := .inl (cy 1, N, .inr (.inl (fun _ => 0)))) hH.1 hsz.symm (show am_A b (b + am_t h) from Nat.le_add_right _ _)
  rw [hsz]
  exact k.2 lc D b sa cy p e R s m args below meth c mc ms C hmc hms H1 locs (cells + 1) (slots + N) ls (am_nwHp hH hce hP1 hD1 z1) ⟨Nat.le_trans hS.1 (by omega), fun x g1 g2 => (o1 x (Nat.lt_of_lt_of_le g1 hS.1)).trans (hS.2.1 x g1 g2), hS.2.2⟩ hl (by show cells + 1 + am_t o.2 = mc + (am_t h + 1); omega) (by show slots + N + am_u o.2 = ms + (am_u h + N); omega)
theorem am_x_newZ {x : Int32} {N : Nat} (hdec : decode M.2.1 pc = .ok (.newarray .boolean, 2)) (hn : ¬ x < 0) (hN : x.toNatClampNeg = N) (hN2 : N ≤ 60000000) (hw : Cond.arrayClass .boolean ∈ lw_tbl) (k : am_Sem d M (pc + 2) l (.ref (am_t h) :: st) (am_nw h (102, N) N) o) : am_Sem d M pc l (.int x :: st) h o := by
  have m1 : am_t h + 1 ≤ am_t o.2 := k.1.1
  have m2 : am_u h + N ≤ am_u o.2 := k.1.2
  refine ⟨⟨by omega, by omega⟩, ?_⟩
  intro lc D b sa cy p e R s m args below meth c mc ms C hmc hms H locs cells slots ls hH hS hl h1 h2
  obtain ⟨hx, hb, -, -, hown, -, -, hts, hG, -⟩ := id C
  have hsz : H.size = b + am_t h := hH.2.2.1
  refine va_newaK hx hb (atype := .boolean) (hts _ hw rfl) rfl hdec rfl hn hN (by show N * componentBytes .boolean ≤ 536870912; simp only [componentBytes]; omega) (by omega) (by omega) rfl fun H1 cA e1 z1 o1 hAr hNm => ?_
  have hcA : cA = cy 2 := Option.some.inj (hNm.symm.trans (hG.1.2 2 _ rfl).2)
  subst hcA
  have hce : am_ce b cy (am_nw h (102, N) N) (am_t h) = .inl (cy 2, N, .inl (fun _ => 0)) := by
    rw [am_ce_z am_nw_s]
    have z : am_i (am_nw h (102, N) N) (am_t h) = fun _ => 0 := am_ro_eq
    rw [z]
  have hat : va_at D vwCl (b + am_t h, .inl (cy 2, N, .inl (fun _ => 0))) H1 := by
    show H1[b + am_t h]? = some (vp_cell _ _)
    rw [← hsz, vp_cell_i]
    exact e1
  have hk9 : ∀ (q : Nat) (x : Nat × va_E), (am_wl b cy h)[q]? = some x → H1[x.1]? = H[x.1]? := fun q x hx => o1 x.1 ((hH.1 q x hx).lt)
  have hP1 : va_P D vwCl (am_wl b cy h ++ [(b + am_t h, .inl (cy 2, N, .inl (fun _ => 0)))]) H1 := (hH.1.kept hk9).app (fun q x hx => by
    have hz : q < 1 := (List.getElem?_eq_some_iff.mp hx).1
    rw [show q = 0 by omega] at hx
    cases hx
    exact hat)
  have hD1 := hH.2.1.push (e := .inl (cy 2, N, .inl (fun _ => 0))) hH.1 hsz.symm (show am_A b (b + am_t h) from Nat.le_add_right _ _)
  rw [hsz]
  exact k.2 lc D b sa cy p e R s m args below meth c mc ms C hmc hms H1 locs (cells + 1) (slots + N) ls (am_nwHp hH hce hP1 hD1 z1) ⟨Nat.le_trans hS.1 (by omega), fun x g1 g2 => (o1 x (Nat.lt_of_lt_of_le g1 hS.1)).trans (hS.2.1 x g1 g2), hS.2.2⟩ hl (by show cells + 1 + am_t o.2 = mc + (am_t h + 1); omega) (by show slots + N + am_u o.2 = ms + (am_u h + N); omega)
theorem am_x_newQ {x : Int32} {N idx : Nat} (hdec : decode M.2.1 pc = .ok (.anewarray idx, 3)) (hn : ¬ x < 0) (hN : x.toNatClampNeg = N) (hN2 : N ≤ 60000000) (hw : Cond.classLink M.1.cls idx "MouthHouse$Manners" ∈ lw_tbl) (k : am_Sem d M (pc + 3) l (.ref (am_t h) :: st) (am_nw h (103, N) N) o) : am_Sem d M pc l (.int x :: st) h o := by
  have m1 : am_t h + 1 ≤ am_t o.2 := k.1.1
  have m2 : am_u h + N ≤ am_u o.2 := k.1.2
  refine ⟨⟨by omega, by omega⟩, ?_⟩
  intro lc D b sa cy p e R s m args below meth c mc ms C hmc hms H locs cells slots ls hH hS hl h1 h2
  obtain ⟨hx, hb, -, -, hown, -, -, hts, hG, -⟩ := id C
  have hsz : H.size = b + am_t h := hH.2.2.1
  subst hN
  refine W.anew hx hb hown (hts _ hw rfl) (va_AO.use hG.2.2.2.1) rfl hdec rfl hn (by omega) (by omega) (by omega) fun cA kA comp f1 f2 f3 f4 => ?_
  obtain ⟨_, _, -, -, -, g4⟩ := (hG.1.2 3 _ rfl).2
  have hcA : cA = cy 3 := Option.some.inj (f1.symm.trans g4)
  subst hcA
  generalize hH1 : H.push ({ cls := cy 3, slots := Array.replicate x.toNatClampNeg .null, vm := .none } : Cell) = H1
  have z1 : H1.size = H.size + 1 := by rw [← hH1, Array.size_push]
  have e1 : H1[H.size]? = some (arrV (cy 3) x.toNatClampNeg (fun _ => .null)) := by rw [← hH1, Array.getElem?_push_size, ← arrV_new]
  have o1 : ∀ q : Nat, q < H.size → H1[q]? = H[q]? := fun q hq => by rw [← hH1, Array.getElem?_push, if_neg (Nat.ne_of_lt hq)]
  have hce : am_ce b cy (am_nw h (103, x.toNatClampNeg) x.toNatClampNeg) (am_t h) = .inl (cy 3, x.toNatClampNeg, .inr (.inr (.inr (.inr fun _ => none)))) := by
    rw [am_ce_q am_nw_s]
    have z : am_p (am_nw h (103, x.toNatClampNeg) x.toNatClampNeg) (am_t h) = fun _ => none := am_ro_eq
    rw [z]
    rfl
  have hat : va_at D vwCl (b + am_t h, .inl (cy 3, x.toNatClampNeg, .inr (.inr (.inr (.inr fun _ => none))))) H1 := by
    show H1[b + am_t h]? = some (vp_cell _ _)
    rw [← hsz, vp_cell_q]
    exact e1
  have hk9 : ∀ (q : Nat) (x : Nat × va_E), (am_wl b cy h)[q]? = some x → H1[x.1]? = H[x.1]? := fun q x hx => o1 x.1 ((hH.1 q x hx).lt)
  have hP1 : va_P D vwCl (am_wl b cy h ++ [(b + am_t h, .inl (cy 3, x.toNatClampNeg, .inr (.inr (.inr (.inr fun _ => none)))))]) H1 := (hH.1.kept hk9).app (fun q x hx => by
    have hz : q < 1 := (List.getElem?_eq_some_iff.mp hx).1
    rw [show q = 0 by omega] at hx
    cases hx
    exact hat)
  have hD1 := hH.2.1.push (e := .inl (cy 3, x.toNatClampNeg, .inr (.inr (.inr (.inr fun _ => none))))) hH.1 hsz.symm (show am_A b (b + am_t h) from Nat.le_add_right _ _)
  rw [hsz]
  exact k.2 lc D b sa cy p e R s m args below meth c mc ms C hmc hms H1 locs (cells + 1) (slots + x.toNatClampNeg) ls (am_nwHp hH hce hP1 hD1 z1) ⟨Nat.le_trans hS.1 (by omega), fun x g1 g2 => (o1 x (Nat.lt_of_lt_of_le g1 hS.1)).trans (hS.2.1 x g1 g2), hS.2.2⟩ hl (by show cells + 1 + am_t o.2 = mc + (am_t h + 1); omega) (by show slots + x.toNatClampNeg + am_u o.2 = ms + (am_u h + x.toNatClampNeg); omega)
theorem am_x_oi {idx r : Nat} (hdec : decode M.2.1 pc = .ok (.invokespecial idx, 3)) (hd : 1 ≤ d) (hr : (st.map fun v => v.category).sum ≤ 8) (hw1 : Cond.methodLink M.1.cls idx objectInit ∈ lw_tbl) (hw2 : Cond.instanceMethod objectInit ∈ lw_tbl) (hw3 : Cond.code objectInit ⟨#[0xb1]⟩ 1 none ∈ lw_tbl) (k : am_Sem d M (pc + 3) l st h o) : am_Sem d M pc l (.ref r :: st) h o := by
  refine ⟨k.1, ?_⟩
  intro lc D b sa cy p e R s m args below meth c mc ms C hmc hms H locs cells slots ls hH hS hl h1 h2
  have kk := k.2 lc D b sa cy p e R s m args below meth c mc ms C hmc hms H locs cells slots ls hH hS hl h1 h2
  obtain ⟨hx, hb, -, hml, hown, -, -, hts, hG, hf, hlo⟩ := id C
  refine W.objInit hx hb hown (hts _ hw1 rfl) (hts _ hw2 rfl) (hts _ hw3 rfl) rfl (by rw [hml]; exact hl.1) (rest := st.map (am_tv b sa)) rfl hdec (by omega) ?_ kk
  show 2 * 0 + ((st.map (am_tv b sa)).map fun v => v.category).sum + 12 ≤ R.locals
  rw [am_tv_cats]
  omega
theorem am_x_cpI {idx r0 r1 n0 n1 : Nat} {sp dp n : Int32} (hdec : decode M.2.1 pc = .ok (.invokestatic idx, 3)) (hd : 1 ≤ d) (hr : (st.map fun v => v.category).sum ≤ 8) (hw1 : Cond.methodLink M.1.cls idx arraycopyName ∈ lw_tbl) (hw2 : Cond.native arraycopyName ∈ lw_tbl) (hw3 : Cond.static arraycopyName ∈ lw_tbl) (hw4 : Cond.initialized "java/lang/System" ∈ lw_tbl)
    (hs0 : am_s h r0 = some (100, n0)) (hs1 : am_s h r1 = some (100, n1)) (g1 : ¬ sp < 0) (g2 : ¬ dp < 0) (g3 : ¬ n < 0) (g4 : sp.toNatClampNeg + n.toNatClampNeg ≤ n0) (g5 : dp.toNatClampNeg + n.toNatClampNeg ≤ n1) (k : am_Sem d M (pc + 3) l st (am_rI h r1 (va_cpy (am_i h r0) (am_i h r1) sp.toNatClampNeg dp.toNatClampNeg n.toNatClampNeg)) o) : am_Sem d M pc l (.int n :: .int dp :: .ref r1 :: .int sp :: .ref r0 :: st) h o := by
  refine ⟨k.1, ?_⟩
  intro lc D b sa cy p e R s m args below meth c mc ms C hmc hms H locs cells slots ls hH hS hl h1 h2
  obtain ⟨hx, hb, -, hml, hown, -, -, hts, hG, hf, hlo⟩ := id C
  obtain ⟨q0, -, hq0⟩ := am_find hH hs0
  obtain ⟨q1, hiq, hq1⟩ := am_find hH hs1
  rw [am_ce_i hs0] at hq0
  rw [am_ce_i hs1] at hq1
  have nn : ∀ z : Int32, ¬ z < 0 → z.toInt = (z.toNatClampNeg : Int) := by
    intro z hz
    have hz0 : (0 : Int) ≤ z.toInt := by simpa using Int32.le_iff_toInt_le.mp (Int32.not_lt.mp hz)
    show z.toInt = ((z.toInt.toNat : Nat) : Int)
    omega
  have hc0 : H[b + r0]? = some (vp_cell (cy 0) (n0, .inl (am_i h r0))) := hH.1 q0 _ hq0
  have hc1 : H[b + r1]? = some (vp_cell (cy 0) (n1, .inl (am_i h r1))) := hH.1 q1 _ hq1
  obtain ⟨-, k0, hk0, cm0, hkk0⟩ := (hG.1.2 0 _ rfl).1 n0 (fun j => .int (am_i h r0 j))
  have hce : am_ce b cy (am_rI h r1 (va_cpy (am_i h r0) (am_i h r1) sp.toNatClampNeg dp.toNatClampNeg n.toNatClampNeg)) r1 = .inl (cy 0, n1, .inl (va_cpy (am_i h r0) (am_i h r1) sp.toNatClampNeg dp.toNatClampNeg n.toNatClampNeg)) := by
    rw [am_ce_i (show am_s (am_rI h r1 _) r1 = some (100, n1) from hs1)]
    have z : am_i (am_rI h r1 (va_cpy (am_i h r0) (am_i h r1) sp.toNatClampNeg dp.toNatClampNeg n.toNatClampNeg)) r1 = va_cpy (am_i h r0) (am_i h r1) sp.toNatClampNeg dp.toNatClampNeg n.toNatClampNeg := am_ro_eq
    rw [z]
  intro T hT X
  obtain ⟨vm', X', step⟩ := X.arraycopy hx hown (hts _ hw1 rfl) (hts _ hw2 rfl) (hts _ hw3 rfl) (hts _ hw4 rfl) (src := b + r0) (dst := b + r1) (cs := vp_cell (cy 0) (n0, .inl (am_i h r0))) (cd := vp_cell (cy 0) (n1, .inl (am_i h r1))) (srcPos := sp) (destPos := dp) (n := n) (by rw [hT]; exact hc0) (by rw [hT]; exact hc1)
    (fun _ z => by cases z) (fun _ z => by cases z) (fun z => by cases z) (fun z => by cases z) hk0 hk0 hkk0 hkk0 (by simp [refKind]) g1 g2 g3
    (by rw [nn sp g1, nn n g3]; show ¬ _ > ((arrV (cy 0) n0 (fun j => .int (am_i h r0 j))).slots.size : Int); rw [arrV_size]; omega)
    (by rw [nn dp g2, nn n g3]; show ¬ _ > ((arrV (cy 0) n1 (fun j => .int (am_i h r1 j))).slots.size : Int); rw [arrV_size]; omega)
    (fun vm₁ _ i hi => by
      have e : (vp_cell (cy 0) (n0, .inl (am_i h r0))).slots.getD (sp.toNatClampNeg + i) .null = .int (am_i h r0 (sp.toNatClampNeg + i)) := by
        show (arrV (cy 0) n0 (fun j => .int (am_i h r0 j))).slots.getD _ _ = _
        rw [Array.getD_eq_getD_getElem?, arrV_read _ _ (by omega)]
        rfl
      exact ⟨by rw [e]; rfl, by rw [e]; exact trivial⟩)
    (g := F0 m pc ls (.int n :: .int dp :: .ref (b + r1) :: .int sp :: .ref (b + r0) :: st.map (am_tv b sa))) rfl (by rw [hml]; exact hl.1) (rest := st.map (am_tv b sa)) rfl (by rw [hb]; exact hdec) (by omega) (by
      show 2 * 0 + ((st.map (am_tv b sa)).map fun v => v.category).sum + (nativeFrameWords "java/lang/System" "arraycopy" 5 + 11) ≤ R.locals
      rw [am_tv_cats]
      have : nativeFrameWords "java/lang/System" "arraycopy" 5 ≤ 40 := by decide +kernel
      omega)
  have e1 : copied (vp_cell (cy 0) (n0, .inl (am_i h r0))) (vp_cell (cy 0) (n1, .inl (am_i h r1))) sp dp n = vp_cell (cy 0) (n1, .inl (va_cpy (am_i h r0) (am_i h r1) sp.toNatClampNeg dp.toNatClampNeg n.toNatClampNeg)) := va_copied (fun z => .int z) (cy 0) (cy 0) (am_i h r0) (am_i h r1) g4
  rw [e1] at X' step
  have hlt : b + r1 < H.size := (Array.getElem?_eq_some_iff.mp hc1).1
  have oq : ∀ q : Nat, q ≠ b + r1 → (H.setIfInBounds (b + r1) (vp_cell (cy 0) (n1, .inl (va_cpy (am_i h r0) (am_i h r1) sp.toNatClampNeg dp.toNatClampNeg n.toNatClampNeg))))[q]? = H[q]? := fun q hq => by simp [Array.getElem?_setIfInBounds, Ne.symm hq]
  obtain ⟨t, a1, b1⟩ := am_fin (h := h) (lc := lc) (e := e) (below := below) k rfl rfl rfl C hmc hms hH hiq hce (fun r' hr' => am_ce_ne rfl (am_ro_ne hr') rfl rfl) hl h1 h2 (hH.1.set hH.2.1 hq1 (show (H.setIfInBounds (b + r1) _)[b + r1]? = some _ by simp [Array.getElem?_setIfInBounds, hlt]) oq) (hH.2.1.set hq1) ⟨by simp; exact hS.1, fun q f1 f2 => by
      rw [oq q (fun z => f2 (by rw [z]; exact Nat.le_add_right _ _))]
      exact hS.2.1 q f1 f2, fun q hq => by
      rcases List.mem_append.mp hq with z | z
      · exact hS.2.2 q z
      · obtain ⟨y, -, hy⟩ := List.mem_map.mp z
        rw [← hy]
        exact Nat.le_add_right b r1⟩ (by simp) _ (by rw [← hT]; rfl) X'
  exact ⟨t, step t a1, b1⟩
theorem am_x_cpL {idx r0 r1 n0 n1 : Nat} {sp dp n : Int32} (hdec : decode M.2.1 pc = .ok (.invokestatic idx, 3)) (hd : 1 ≤ d) (hr : (st.map fun v => v.category).sum ≤ 8) (hw1 : Cond.methodLink M.1.cls idx arraycopyName ∈ lw_tbl) (hw2 : Cond.native arraycopyName ∈ lw_tbl) (hw3 : Cond.static arraycopyName ∈ lw_tbl) (hw4 : Cond.initialized "java/lang/System" ∈ lw_tbl)
    (hs0 : am_s h r0 = some (101, n0)) (hs1 : am_s h r1 = some (101, n1)) (g1 : ¬ sp < 0) (g2 : ¬ dp < 0) (g3 : ¬ n < 0) (g4 : sp.toNatClampNeg + n.toNatClampNeg ≤ n0) (g5 : dp.toNatClampNeg + n.toNatClampNeg ≤ n1) (k : am_Sem d M (pc + 3) l st (am_rL h r1 (va_cpy (am_l h r0) (am_l h r1) sp.toNatClampNeg dp.toNatClampNeg n.toNatClampNeg)) o) : am_Sem d M pc l (.int n :: .int dp :: .ref r1 :: .int sp :: .ref r0 :: st) h o := by
  refine ⟨k.1, ?_⟩
  intro lc D b sa cy p e R s m args below meth c mc ms C hmc hms H locs cells slots ls hH hS hl h1 h2
  obtain ⟨hx, hb, -, hml, hown, -, -, hts, hG, hf, hlo⟩ := id C
  obtain ⟨q0, -, hq0⟩ := am_find hH hs0
  obtain ⟨q1, hiq, hq1⟩ := am_find hH hs1
  rw [am_ce_l hs0] at hq0
  rw [am_ce_l hs1] at hq1
  have nn : ∀ z : Int32, ¬ z < 0 → z.toInt = (z.toNatClampNeg : Int) := by
    intro z hz
    have hz0 : (0 : Int) ≤ z.toInt := by simpa using Int32.le_iff_toInt_le.mp (Int32.not_lt.mp hz)
    show z.toInt = ((z.toInt.toNat : Nat) : Int)
    omega
  have hc0 : H[b + r0]? = some (vp_cell (cy 1) (n0, .inr (.inl (am_l h r0)))) := hH.1 q0 _ hq0
  have hc1 : H[b + r1]? = some (vp_cell (cy 1) (n1, .inr (.inl (am_l h r1)))) := hH.1 q1 _ hq1
  obtain ⟨-, k0, hk0, cm0, hkk0⟩ := (hG.1.2 1 _ rfl).1 n0 (fun j => .long (am_l h r0 j))
  have hce : am_ce b cy (am_rL h r1 (va_cpy (am_l h r0) (am_l h r1) sp.toNatClampNeg dp.toNatClampNeg n.toNatClampNeg)) r1 = .inl (cy 1, n1, .inr (.inl (va_cpy (am_l h r0) (am_l h r1) sp.toNatClampNeg dp.toNatClampNeg n.toNatClampNeg))) := by
    rw [am_ce_l (show am_s (am_rL h r1 _) r1 = some (101, n1) from hs1)]
    have z : am_l (am_rL h r1 (va_cpy (am_l h r0) (am_l h r1) sp.toNatClampNeg dp.toNatClampNeg n.toNatClampNeg)) r1 = va_cpy (am_l h r0) (am_l h r1) sp.toNatClampNeg dp.toNatClampNeg n.toNatClampNeg := am_ro_eq
    rw [z]
  intro T hT X
  obtain ⟨vm', X', step⟩ := X.arraycopy hx hown (hts _ hw1 rfl) (hts _ hw2 rfl) (hts _ hw3 rfl) (hts _ hw4 rfl) (src := b + r0) (dst := b + r1) (cs := vp_cell (cy 1) (n0, .inr (.inl (am_l h r0)))) (cd := vp_cell (cy 1) (n1, .inr (.inl (am_l h r1)))) (srcPos := sp) (destPos := dp) (n := n) (by rw [hT]; exact hc0) (by rw [hT]; exact hc1)
    (fun _ z => by cases z) (fun _ z => by cases z) (fun z => by cases z) (fun z => by cases z) hk0 hk0 hkk0 hkk0 (by simp [refKind]) g1 g2 g3
    (by rw [nn sp g1, nn n g3]; show ¬ _ > ((arrV (cy 1) n0 (fun j => .long (am_l h r0 j))).slots.size : Int); rw [arrV_size]; omega)
    (by rw [nn dp g2, nn n g3]; show ¬ _ > ((arrV (cy 1) n1 (fun j => .long (am_l h r1 j))).slots.size : Int); rw [arrV_size]; omega)
    (fun vm₁ _ i hi => by
      have e : (vp_cell (cy 1) (n0, .inr (.inl (am_l h r0)))).slots.getD (sp.toNatClampNeg + i) .null = .long (am_l h r0 (sp.toNatClampNeg + i)) := by
        show (arrV (cy 1) n0 (fun j => .long (am_l h r0 j))).slots.getD _ _ = _
        rw [Array.getD_eq_getD_getElem?, arrV_read _ _ (by omega)]
        rfl
      exact ⟨by rw [e]; rfl, by rw [e]; exact trivial⟩)
    (g := F0 m pc ls (.int n :: .int dp :: .ref (b + r1) :: .int sp :: .ref (b + r0) :: st.map (am_tv b sa))) rfl (by rw [hml]; exact hl.1) (rest := st.map (am_tv b sa)) rfl (by rw [hb]; exact hdec) (by omega) (by
      show 2 * 0 + ((st.map (am_tv b sa)).map fun v => v.category).sum + (nativeFrameWords "java/lang/System" "arraycopy" 5 + 11) ≤ R.locals
      rw [am_tv_cats]
      have : nativeFrameWords "java/lang/System" "arraycopy" 5 ≤ 40 := by decide +kernel
      omega)
  have e1 : copied (vp_cell (cy 1) (n0, .inr (.inl (am_l h r0)))) (vp_cell (cy 1) (n1, .inr (.inl (am_l h r1)))) sp dp n = vp_cell (cy 1) (n1, .inr (.inl (va_cpy (am_l h r0) (am_l h r1) sp.toNatClampNeg dp.toNatClampNeg n.toNatClampNeg))) := va_copied (fun z => .long z) (cy 1) (cy 1) (am_l h r0) (am_l h r1) g4
  rw [e1] at X' step
  have hlt : b + r1 < H.size := (Array.getElem?_eq_some_iff.mp hc1).1
  have oq : ∀ q : Nat, q ≠ b + r1 → (H.setIfInBounds (b + r1) (vp_cell (cy 1) (n1, .inr (.inl (va_cpy (am_l h r0) (am_l h r1) sp.toNatClampNeg dp.toNatClampNeg n.toNatClampNeg)))))[q]? = H[q]? := fun q hq => by simp [Array.getElem?_setIfInBounds, Ne.symm hq]
  obtain ⟨t, a1, b1⟩ := am_fin (h := h) (lc := lc) (e := e) (below := below) k rfl rfl rfl C hmc hms hH hiq hce (fun r' hr' => am_ce_ne rfl rfl (am_ro_ne hr') rfl) hl h1 h2 (hH.1.set hH.2.1 hq1 (show (H.setIfInBounds (b + r1) _)[b + r1]? = some _ by simp [Array.getElem?_setIfInBounds, hlt]) oq) (hH.2.1.set hq1) ⟨by simp; exact hS.1, fun q f1 f2 => by
      rw [oq q (fun z => f2 (by rw [z]; exact Nat.le_add_right _ _))]
      exact hS.2.1 q f1 f2, fun q hq => by
      rcases List.mem_append.mp hq with z | z
      · exact hS.2.2 q z
      · obtain ⟨y, -, hy⟩ := List.mem_map.mp z
        rw [← hy]
        exact Nat.le_add_right b r1⟩ (by simp) _ (by rw [← hT]; rfl) X'
  exact ⟨t, step t a1, b1⟩
end AMZ
