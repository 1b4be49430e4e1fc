/-! THE ABSTRACT MACHINE: a heap of numbered cells (kinds, ints, longs, references), methods as in the tables; what it runs, the machine runs -/
/-- kinds of cells by number (below 100: an object of that class of vwCl; 100, 101, 102, 103: an array of ints, longs, booleans, references; length), ints, longs, references by cell and place, how many cells, how many slots -/
abbrev am_H : Type := (Nat → Option (Nat × Nat)) × (Nat → Nat → Int32) × (Nat → Nat → Int64) × (Nat → Nat → Option Nat) × Nat × Nat
abbrev am_M : Type := MethodName × ByteArray × Nat × Option FieldType
abbrev am_O : Type := Option Value × am_H
abbrev am_s (h : am_H) : Nat → Option (Nat × Nat) := h.1
abbrev am_i (h : am_H) : Nat → Nat → Int32 := h.2.1
abbrev am_l (h : am_H) : Nat → Nat → Int64 := h.2.2.1
abbrev am_p (h : am_H) : Nat → Nat → Option Nat := h.2.2.2.1
abbrev am_t (h : am_H) : Nat := h.2.2.2.2.1
abbrev am_u (h : am_H) : Nat := h.2.2.2.2.2
def am_up {α : Type} (f : Nat → Nat → α) (r j : Nat) (v : α) : Nat → Nat → α := fun r' j' => bif Nat.beq r' r then (bif Nat.beq j' j then v else f r' j') else f r' j'
def am_ro {α : Type} (f : Nat → Nat → α) (r : Nat) (g : Nat → α) : Nat → Nat → α := fun r' j' => bif Nat.beq r' r then g j' else f r' j'
def am_wI (h : am_H) (r j : Nat) (v : Int32) : am_H := (h.1, am_up h.2.1 r j v, h.2.2)
def am_wL (h : am_H) (r j : Nat) (v : Int64) : am_H := (h.1, h.2.1, am_up h.2.2.1 r j v, h.2.2.2)
def am_wP (h : am_H) (r j : Nat) (v : Option Nat) : am_H := (h.1, h.2.1, h.2.2.1, am_up h.2.2.2.1 r j v, h.2.2.2.2)
def am_rI (h : am_H) (r : Nat) (g : Nat → Int32) : am_H := (h.1, am_ro h.2.1 r g, h.2.2)
def am_rL (h : am_H) (r : Nat) (g : Nat → Int64) : am_H := (h.1, h.2.1, am_ro h.2.2.1 r g, h.2.2.2)
def am_nw (h : am_H) (sh : Nat × Nat) (n : Nat) : am_H := (fun r => bif Nat.beq r (am_t h) then some sh else h.1 r, am_ro h.2.1 (am_t h) (fun _ => 0), am_ro h.2.2.1 (am_t h) (fun _ => 0), am_ro h.2.2.2.1 (am_t h) (fun _ => none), am_t h + 1, am_u h + n)
theorem am_bne {a b : Nat} (h : a ≠ b) : Nat.beq a b = false := by
  rw [Bool.eq_false_iff]
  intro z
  exact h (Nat.eq_of_beq_eq_true z)
theorem am_beq (a : Nat) : Nat.beq a a = true := Nat.beq_refl a
theorem am_up_ne {α : Type} {f : Nat → Nat → α} {r j : Nat} {v : α} {r' : Nat} (h : r' ≠ r) : am_up f r j v r' = f r' := by
  funext j'
  have : Nat.beq r' r = false := am_bne h
  simp [am_up, this]
theorem am_up_eq {α : Type} {f : Nat → Nat → α} {r j : Nat} {v : α} (j' : Nat) : am_up f r j v r j' = if j' = j then v else f r j' := by
  by_cases h : j' = j
  · subst h; simp [am_up]
  · have : Nat.beq j' j = false := am_bne h
    simp [am_up, this, h]
theorem am_ro_ne {α : Type} {f : Nat → Nat → α} {r : Nat} {g : Nat → α} {r' : Nat} (h : r' ≠ r) : am_ro f r g r' = f r' := by
  funext j'
  have : Nat.beq r' r = false := am_bne h
  simp [am_ro, this]
theorem am_ro_eq {α : Type} {f : Nat → Nat → α} {r : Nat} {g : Nat → α} : am_ro f r g r = g := by
  funext j'
  simp [am_ro]
/-! values: a reference of the abstract machine is a cell's number; .retAddr i is the i-th constant array -/
def am_rv : Option Nat → Value
  | none => .null
  | some a => .ref a
def am_tv (b : Nat) (sa : Nat → Nat) : Value → Value
  | .ref a => .ref (b + a)
  | .retAddr i => .ref (sa i)
  | v => v
theorem am_tv_cat (b : Nat) (sa : Nat → Nat) (v : Value) : (am_tv b sa v).category = v.category := by cases v <;> rfl
theorem am_tv_cats (b : Nat) (sa : Nat → Nat) (st : List Value) : ((st.map (am_tv b sa)).map fun v => v.category) = st.map fun v => v.category := by
  induction st with
  | nil => rfl
  | cons v t ih => simp only [List.map_cons, am_tv_cat]; exact congrArg _ ih
def am_ty (k : Nat) : Nat → FieldType := match k with
  | 0 => tyX0 | 1 => tyX1 | 2 => tyX2 | 3 => tyX3 | 4 => tyX4 | 5 => tyX5 | 6 => tyX6 | 7 => tyX7 | 8 => tyX8 | 9 => tyX9 | 10 => tyX10 | 11 => tyX11 | _ => tyX12
def am_nf (k : Nat) : Nat := match k with
  | 0 => 15 | 1 => 10 | 2 => 2 | 3 => 3 | 4 => 3 | 5 => 3 | 6 => 3 | 7 => 5 | 8 => 3 | 9 => 3 | 10 => 8 | 11 => 17 | _ => 51
def am_fv (b : Nat) (h : am_H) (k r j : Nat) : Value := match am_ty k j with
  | .long => .long (am_l h r j)
  | .object _ => va_rf ((am_p h r j).map (b + ·))
  | .array _ => va_rf ((am_p h r j).map (b + ·))
  | _ => .int (am_i h r j)
def am_fa (h : am_H) (k r j : Nat) : Value := match am_ty k j with
  | .long => .long (am_l h r j)
  | .object _ => am_rv (am_p h r j)
  | .array _ => am_rv (am_p h r j)
  | _ => .int (am_i h r j)
theorem am_rv_tv (b : Nat) (sa : Nat → Nat) (o : Option Nat) : va_rf (o.map (b + ·)) = am_tv b sa (am_rv o) := by cases o <;> rfl
theorem am_fa_tv (b : Nat) (sa : Nat → Nat) (h : am_H) (k r j : Nat) : am_fv b h k r j = am_tv b sa (am_fa h k r j) := by
  unfold am_fv am_fa
  split <;> first | rfl | exact am_rv_tv b sa _
def am_ce (b : Nat) (cy : Nat → ClassId) (h : am_H) (r : Nat) : va_E := match am_s h r with
  | none => .inr (0, [])
  | some (k, n) => if k < 100 then .inr (k, (List.range (am_nf k)).map (am_fv b h k r)) else if k = 100 then .inl (cy 0, n, .inl (am_i h r)) else if k = 101 then .inl (cy 1, n, .inr (.inl (am_l h r))) else if k = 102 then .inl (cy 2, n, .inl (am_i h r)) else .inl (cy 3, n, .inr (.inr (.inr (.inr fun j => (am_p h r j).map (b + ·)))))
def am_ix (h : am_H) : List Nat := (List.range (am_t h)).filter (fun r => (am_s h r).isSome)
def am_wl (b : Nat) (cy : Nat → ClassId) (h : am_H) : va_W := (am_ix h).map (fun r => (b + r, am_ce b cy h r))
theorem am_ix_mem {h : am_H} {r : Nat} : r ∈ am_ix h ↔ r < am_t h ∧ (am_s h r).isSome = true := by simp [am_ix]
theorem am_at {b : Nat} {cy : Nat → ClassId} {h : am_H} {r : Nat} (hr : r < am_t h) (hs : (am_s h r).isSome = true) : ∃ q : Nat, (am_ix h)[q]? = some r ∧ (am_wl b cy h)[q]? = some (b + r, am_ce b cy h r) := by
  obtain ⟨q, hq⟩ := List.getElem?_of_mem (am_ix_mem.mpr ⟨hr, hs⟩)
  exact ⟨q, hq, by simp [am_wl, hq]⟩
theorem am_set {b : Nat} {cy : Nat → ClassId} {h h' : am_H} {A : Nat → Prop} {q r : Nat} {e : va_E} (hD : va_D A (am_wl b cy h)) (hq : (am_ix h)[q]? = some r) (hs : h'.1 = h.1) (ht : am_t h' = am_t h) (he : am_ce b cy h' r = e) (ho : ∀ r', r' ≠ r → am_ce b cy h' r' = am_ce b cy h r') : (am_wl b cy h).set q (b + r, e) = am_wl b cy h' := by
  have hix : am_ix h' = am_ix h := by unfold am_ix am_s; rw [hs, ht]
  apply List.ext_getElem?
  intro k
  have hlen : q < (am_wl b cy h).length := by
    have := (List.getElem?_eq_some_iff.mp hq).1
    simpa [am_wl] using this
  by_cases hk : k = q
  · subst hk
    rw [List.getElem?_set_self hlen]
    simp [am_wl, hix, hq, he]
  · rw [List.getElem?_set_ne (fun z => hk z.symm)]
    simp only [am_wl, hix, List.getElem?_map]
    cases hz : (am_ix h)[k]? with
    | none => rfl
    | some r' =>
      have hne : r' ≠ r := by
        intro z
        subst z
        exact hk (hD.1 k q (b + r', am_ce b cy h r') (b + r', am_ce b cy h r') (by simp [am_wl, hz]) (by simp [am_wl, hq]) rfl)
      simp [ho r' hne]
theorem am_push {b : Nat} {cy : Nat → ClassId} {h : am_H} (sh : Nat × Nat) (n : Nat) : am_wl b cy (am_nw h sh n) = am_wl b cy h ++ [(b + am_t h, am_ce b cy (am_nw h sh n) (am_t h))] := by
  have e1 : ∀ r, r < am_t h → am_s (am_nw h sh n) r = am_s h r := by
    intro r hr
    show (bif Nat.beq r (am_t h) then some sh else h.1 r) = _
    rw [am_bne (Nat.ne_of_lt hr)]
    rfl
  have e2 : ∀ r, r < am_t h → am_ce b cy (am_nw h sh n) r = am_ce b cy h r := by
    intro r hr
    have hne := Nat.ne_of_lt hr
    have z1 : am_i (am_nw h sh n) r = am_i h r := am_ro_ne hne
    have z2 : am_l (am_nw h sh n) r = am_l h r := am_ro_ne hne
    have z3 : am_p (am_nw h sh n) r = am_p h r := am_ro_ne hne
    unfold am_ce
    rw [e1 r hr]
    have z4 : ∀ k, am_fv b (am_nw h sh n) k r = am_fv b h k r := by
      intro k
      funext j
      unfold am_fv
      rw [z1, z2, z3]
    simp only [z1, z2, z3, z4]
  have hix : am_ix (am_nw h sh n) = am_ix h ++ [am_t h] := by
    unfold am_ix
    show (List.range (am_t h + 1)).filter _ = _
    rw [List.range_succ, List.filter_append]
    congr 1
    · apply List.filter_congr
      intro r hr
      rw [e1 r (List.mem_range.mp hr)]
    · have : am_s (am_nw h sh n) (am_t h) = some sh := by
        show (bif Nat.beq (am_t h) (am_t h) then some sh else h.1 (am_t h)) = _
        rw [am_beq]
        rfl
      simp [this]
  unfold am_wl
  rw [hix, List.map_append]
  congr 1
  apply List.map_congr_left
  intro r hr
  rw [e2 r (am_ix_mem.mp hr).1]
/-! locals -/
def am_L (b : Nat) (sa : Nat → Nat) (ls : Array Slot) (nL : Nat) (l : List (Option Value)) : Prop := ls.size = nL ∧ lv_wf ls ∧ ∀ (i : Nat) (v : Value), l[i]? = some (some v) → ls[i]? = some (.val (am_tv b sa v))
def am_k2 (l : List (Option Value)) (i : Nat) : List (Option Value) := match i with
  | 0 => l
  | j + 1 => match l[j]? with
    | some (some (.long _)) => l.set j none
    | some (some (.double _)) => l.set j none
    | _ => l
def am_s1 (l : List (Option Value)) (i : Nat) (v : Value) : List (Option Value) := (am_k2 l i).set i (some v)
def am_s2 (l : List (Option Value)) (i : Nat) (v : Value) : List (Option Value) := ((am_k2 l i).set (i + 1) none).set i (some v)
theorem am_k2_get {l : List (Option Value)} {i j : Nat} {v : Value} (h : (am_k2 l i)[j]? = some (some v)) : l[j]? = some (some v) ∧ ¬ (j + 1 = i ∧ v.category = 2) := by
  unfold am_k2 at h
  split at h
  next => exact ⟨h, fun z => by omega⟩
  next k =>
    by_cases hj : j = k
    · subst hj
      split at h
      next x hx => rw [List.getElem?_set_self (List.getElem?_eq_some_iff.mp hx).1] at h; cases h
      next x hx => rw [List.getElem?_set_self (List.getElem?_eq_some_iff.mp hx).1] at h; cases h
      next h1 h2 =>
        refine ⟨h, fun z => ?_⟩
        cases v with
        | long x => exact h1 x h
        | double x => exact h2 x h
        | _ => exact absurd z.2 (by simp [Value.category])
    · have hne : k ≠ j := fun z => hj z.symm
      split at h
      next x hx => rw [List.getElem?_set_ne hne] at h; exact ⟨h, fun z => by omega⟩
      next x hx => rw [List.getElem?_set_ne hne] at h; exact ⟨h, fun z => by omega⟩
      next h1 h2 => exact ⟨h, fun z => by omega⟩
theorem am_st1 {b : Nat} {sa : Nat → Nat} {ls : Array Slot} {nL : Nat} {l : List (Option Value)} {i : Nat} {v : Value} (h : am_L b sa ls nL l) (hi : i < nL) (hc : v.category = 1) : ∃ ls', storeLocals ls i (am_tv b sa v) = some ls' ∧ am_L b sa ls' nL (am_s1 l i v) := by
  have hc' : (am_tv b sa v).category = 1 := by rw [am_tv_cat]; exact hc
  obtain ⟨ls', e1, e2, e3, e4⟩ := lv_store1 (l := []) ⟨h.1, h.2.1, fun q hq => by cases hq⟩ hi hc'
  refine ⟨ls', e1, e2, e3, fun j w hj => ?_⟩
  by_cases hji : j = i
  · subst hji
    have hlt : j < (am_k2 l j).length := by
      have := (List.getElem?_eq_some_iff.mp hj).1
      simpa [am_s1] using this
    rw [am_s1, List.getElem?_set_self hlt] at hj
    cases hj
    exact e4 _ List.mem_cons_self
  · rw [am_s1, List.getElem?_set_ne (fun z => hji z.symm)] at hj
    obtain ⟨g1, g2⟩ := am_k2_get hj
    obtain ⟨ls2, f1, f2, f3, f4⟩ := lv_store1 (l := [(j, am_tv b sa w)]) ⟨h.1, h.2.1, fun q hq => by rw [List.mem_singleton.mp hq]; exact h.2.2 j w g1⟩ hi hc'
    cases e1.symm.trans f1
    refine f4 (j, am_tv b sa w) (List.mem_cons_of_mem _ (List.mem_filter.mpr ⟨List.mem_singleton.mpr rfl, ?_⟩))
    simp only [am_tv_cat]
    have hb : (j == i) = false := by simpa using hji
    rw [hb]
    by_cases hj1 : j + 1 = i
    · have : ¬ w.category = 2 := fun z => g2 ⟨hj1, z⟩
      simp [this]
    · simp [hj1]
theorem am_st2 {b : Nat} {sa : Nat → Nat} {ls : Array Slot} {nL : Nat} {l : List (Option Value)} {i : Nat} {v : Value} (h : am_L b sa ls nL l) (hi : i + 1 < nL) (hc : v.category = 2) : ∃ ls', storeLocals ls i (am_tv b sa v) = some ls' ∧ am_L b sa ls' nL (am_s2 l i v) := by
  have hc' : (am_tv b sa v).category = 2 := by rw [am_tv_cat]; exact hc
  obtain ⟨ls', e1, e2, e3, e4⟩ := lv_store2 (l := []) ⟨h.1, h.2.1, fun q hq => by cases hq⟩ hi hc'
  refine ⟨ls', e1, e2, e3, fun j w hj => ?_⟩
  by_cases hji : j = i
  · subst hji
    have hlt : j < ((am_k2 l j).set (j + 1) none).length := by
      have := (List.getElem?_eq_some_iff.mp hj).1
      simpa [am_s2] using this
    rw [am_s2, List.getElem?_set_self hlt] at hj
    cases hj
    exact e4 _ List.mem_cons_self
  · rw [am_s2, List.getElem?_set_ne (fun z => hji z.symm)] at hj
    by_cases hj2 : j = i + 1
    · subst hj2
      by_cases hlt : i + 1 < (am_k2 l i).length
      · rw [List.getElem?_set_self hlt] at hj; cases hj
      · have : ((am_k2 l i).set (i + 1) none)[i + 1]? = none := by simp; omega
        rw [this] at hj; cases hj
    · rw [List.getElem?_set_ne (fun z => hj2 z.symm)] at hj
      obtain ⟨g1, g2⟩ := am_k2_get hj
      obtain ⟨ls2, f1, f2, f3, f4⟩ := lv_store2 (l := [(j, am_tv b sa w)]) ⟨h.1, h.2.1, fun q hq => by rw [List.mem_singleton.mp hq]; exact h.2.2 j w g1⟩ hi hc'
      cases e1.symm.trans f1
      refine f4 (j, am_tv b sa w) (List.mem_cons_of_mem _ (List.mem_filter.mpr ⟨List.mem_singleton.mpr rfl, ?_⟩))
      simp only [am_tv_cat]
      have hb : (j == i) = false := by simpa using hji
      have hb2 : (j == i + 1) = false := by simpa using hj2
      rw [hb, hb2]
      by_cases hj1 : j + 1 = i
      · have : ¬ w.category = 2 := fun z => g2 ⟨hj1, z⟩
        simp [this]
      · simp [hj1]
def am_ea : List Value → List (Option Value)
  | [] => []
  | v :: vs => if v.category = 2 then some v :: none :: am_ea vs else some v :: am_ea vs
/-- the locals with which a method begins -/
def am_en (nL : Nat) (vs : List Value) : List (Option Value) := am_ea vs ++ List.replicate (nL - (am_ea vs).length) none
theorem am_ea_in {b : Nat} {sa : Nat → Nat} : ∀ (vs : List Value) (k i : Nat) (v : Value), (am_ea vs)[i]? = some (some v) → (k + i, am_tv b sa v) ∈ lv_args k (vs.map (am_tv b sa))
  | [], k, i, v, h => by simp [am_ea] at h
  | w :: vs, k, i, v, h => by
    simp only [am_ea] at h
    simp only [List.map_cons, lv_args, am_tv_cat]
    by_cases hc : w.category = 2
    · rw [if_pos hc] at h
      rw [if_pos hc]
      match i, h with
      | 0, h => simp at h; subst h; exact List.mem_cons_self
      | 1, h => simp at h
      | i + 2, h =>
        have := am_ea_in (b := b) (sa := sa) vs (k + 2) i v (by simpa using h)
        rw [show k + (i + 2) = k + 2 + i by omega]
        exact List.mem_cons_of_mem _ this
    · rw [if_neg hc] at h
      rw [if_neg hc]
      match i, h with
      | 0, h => simp at h; subst h; exact List.mem_cons_self
      | i + 1, h =>
        have := am_ea_in (b := b) (sa := sa) vs (k + 1) i v (by simpa using h)
        rw [show k + (i + 1) = k + 1 + i by omega]
        exact List.mem_cons_of_mem _ this
theorem am_ea_len {b : Nat} {sa : Nat → Nat} : ∀ vs : List Value, (lg_sl (vs.map (am_tv b sa))).length = (am_ea vs).length
  | [] => rfl
  | v :: vs => by
    have ih := am_ea_len (b := b) (sa := sa) vs
    simp only [lg_sl, List.map_cons, List.flatMap_cons, List.length_append, am_tv_cat] at ih ⊢
    rw [ih]
    show _ = (if v.category = 2 then some v :: none :: am_ea vs else some v :: am_ea vs).length
    by_cases hc : v.category = 2
    · simp [hc]; omega
    · simp [hc]; omega
theorem am_entry {b : Nat} {sa : Nat → Nat} (vs : List Value) {n : Nat} (h : (am_ea vs).length ≤ n) : am_L b sa ((lg_sl (vs.map (am_tv b sa)) ++ List.replicate (n - (lg_sl (vs.map (am_tv b sa))).length) Slot.unset).toArray) n (am_en n vs) := by
  have hl := lv_entry (vs.map (am_tv b sa)) (n := n) (by rw [am_ea_len]; exact h)
  refine ⟨hl.1, hl.2.1, fun i v hi => ?_⟩
  have hi2 : (am_ea vs)[i]? = some (some v) := by
    unfold am_en at hi
    by_cases hlt : i < (am_ea vs).length
    · rwa [List.getElem?_append_left hlt] at hi
    · rw [List.getElem?_append_right (by omega)] at hi
      have := List.getElem?_eq_some_iff.mp hi
      obtain ⟨g1, g2⟩ := this
      simp at g2
  have := am_ea_in (b := b) (sa := sa) vs 0 i v hi2
  rw [Nat.zero_add] at this
  exact hl.2.2 _ this
