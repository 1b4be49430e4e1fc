/-! reading the tape -/
def sgn (tl : Nat) (tp : Nat → Nat) (a : Nat) : Option Nat := if a < tl then some (tp a) else none
theorem sgn_s {tl : Nat} {tp : Nat → Nat} {a : Nat} (h : a < tl) : sgn tl tp a = some (tp a) := if_pos h
theorem sgn_n {tl : Nat} {tp : Nat → Nat} {a : Nat} (h : ¬ a < tl) : sgn tl tp a = none := if_neg h
theorem sgn_lt {tl : Nat} {tp : Nat → Nat} {a c : Nat} (h : sgn tl tp a = some c) : a < tl ∧ tp a = c := by
  unfold sgn at h
  split at h
  · cases h; exact ⟨by assumption, rfl⟩
  · cases h
def skp (tp : Nat → Nat) : Nat → Nat → Nat
  | 0, a => a
  | k + 1, a => if tp a = 32 then skp tp k (a + 1) else a
/-- the next place that is no blank -/
def nx (tl : Nat) (tp : Nat → Nat) (a : Nat) : Nat := skp tp (tl - a) a
theorem skp_ge {tp : Nat → Nat} : ∀ k a, a ≤ skp tp k a ∧ skp tp k a ≤ a + k
  | 0, a => ⟨Nat.le_refl _, Nat.le_refl _⟩
  | k + 1, a => by
    have ih := skp_ge (tp := tp) k (a + 1)
    simp only [skp]
    split <;> omega
theorem nx_ge {tl : Nat} {tp : Nat → Nat} {a : Nat} : a ≤ nx tl tp a := (skp_ge _ _).1
theorem nx_le {tl : Nat} {tp : Nat → Nat} {a : Nat} (h : a ≤ tl) : nx tl tp a ≤ tl := by
  have := (skp_ge (tp := tp) (tl - a) a).2
  unfold nx
  omega
theorem nx_b {tl : Nat} {tp : Nat → Nat} {a : Nat} (h : a < tl) (hb : tp a = 32) : nx tl tp a = nx tl tp (a + 1) := by
  unfold nx
  rw [show tl - a = tl - (a + 1) + 1 by omega]
  simp only [skp]
  rw [if_pos hb]
theorem nx_o {tl : Nat} {tp : Nat → Nat} {a : Nat} (hb : ¬ (a < tl ∧ tp a = 32)) : nx tl tp a = a := by
  unfold nx
  by_cases h : a < tl
  · rw [show tl - a = tl - (a + 1) + 1 by omega]
    simp only [skp]
    rw [if_neg (fun z => hb ⟨h, z⟩)]
  · rw [show tl - a = 0 by omega]
    rfl
theorem skp_nb {tp : Nat → Nat} : ∀ k a, skp tp k a < a + k → tp (skp tp k a) ≠ 32
  | 0, a, h => by simp only [skp] at h; omega
  | k + 1, a, h => by
    simp only [skp] at h ⊢
    split
    next e =>
      rw [if_pos e] at h
      exact skp_nb k (a + 1) (by omega)
    next e => exact e
theorem nx_nb {tl : Nat} {tp : Nat → Nat} {a : Nat} (h : nx tl tp a < tl) : tp (nx tl tp a) ≠ 32 := by
  have h2 := nx_ge (tl := tl) (tp := tp) (a := a)
  exact skp_nb (tl - a) a (by show nx tl tp a < a + (tl - a); omega)
theorem nx_nx {tl : Nat} {tp : Nat → Nat} {a : Nat} : nx tl tp (nx tl tp a) = nx tl tp a := nx_o (fun z => nx_nb z.1 z.2)
/-- the class's tape with its reader at a -/
def TA (h : am_H) (tl : Nat) (tp : Nat → Nat) (a : Nat) : Prop := TP 1 1 2 h tl tp ∧ am_i h 1 2 = nI a ∧ a ≤ tl
theorem TA.fx {A : List Nat} {B : List (Nat × Nat)} {h h' : am_H} {tl a : Nat} {tp : Nat → Nat} (m : TA h tl tp a) (x : Fx A B h h') (ok : 1 ∉ A ∧ (1, 1) ∉ B ∧ (1, 2) ∉ B ∧ 2 ∉ A ∧ 2 ∉ B.map Prod.fst) : TA h' tl tp a := ⟨m.1.fx x ⟨ok.1, ok.2.1, ok.2.2.2.1, ok.2.2.2.2⟩, (x.i ok.1 ok.2.2.1).trans m.2.1, m.2.2⟩
theorem TA.mv {h : am_H} {tl a b : Nat} {tp : Nat → Nat} (m : TA h tl tp a) (hb : b ≤ tl) : TA (am_wI h 1 2 (nI b)) tl tp b := ⟨m.1.fx (Fx.wI (A := []) (B := [(1, 2)]) (Or.inr (by decide))) (by decide), by rw [wI_eq, if_pos rfl], hb⟩
/-- the reference's tape with its reader at a -/
def RA (h : am_H) (tl : Nat) (tp : Nat → Nat) (a : Nat) : Prop := TP 50 2 51 h tl tp ∧ am_i h 50 3 = nI a ∧ a ≤ 1000
theorem RA.fx {A : List Nat} {B : List (Nat × Nat)} {h h' : am_H} {tl a : Nat} {tp : Nat → Nat} (m : RA h tl tp a) (x : Fx A B h h') (ok : 50 ∉ A ∧ (50, 2) ∉ B ∧ (50, 3) ∉ B ∧ 51 ∉ A ∧ 51 ∉ B.map Prod.fst) : RA h' tl tp a := ⟨m.1.fx x ⟨ok.1, ok.2.1, ok.2.2.2.1, ok.2.2.2.2⟩, (x.i ok.1 ok.2.2.1).trans m.2.1, m.2.2⟩
theorem RA.mv {h : am_H} {tl a b : Nat} {tp : Nat → Nat} (m : RA h tl tp a) (hb : b ≤ 1000) : RA (am_wI h 50 3 (nI b)) tl tp b := ⟨m.1.fx (Fx.wI (A := []) (B := [(50, 3)]) (Or.inr (by decide))) (by decide), by rw [wI_eq, if_pos rfl], hb⟩
def isDg (x : Option Nat) : Bool := match x with
  | none => false
  | some c => decide (48 ≤ c) && decide (c ≤ 57)
theorem isDg_n : isDg none = false := rfl
theorem isDg_iff {c : Nat} : isDg (some c) = true ↔ 48 ≤ c ∧ c ≤ 57 := by simp [isDg]
theorem isDg_at {tl : Nat} {tp : Nat → Nat} {a : Nat} (h : isDg (sgn tl tp a) = true) : a < tl ∧ 48 ≤ tp a ∧ tp a ≤ 57 := by
  by_cases hl : a < tl
  · rw [sgn_s hl, isDg_iff] at h; exact ⟨hl, h⟩
  · rw [sgn_n hl] at h; cases h
/-- up to k digits from a on, v ahead of them -/
def ndg (tl : Nat) (tp : Nat → Nat) : Nat → Nat → Nat → Nat × Nat
  | 0, a, v => (a, v)
  | k + 1, a, v => if isDg (sgn tl tp a) = true then ndg tl tp k (a + 1) (v * 10 + (tp a - 48)) else (a, v)
theorem ndg_y {tl : Nat} {tp : Nat → Nat} {k a v : Nat} (h : isDg (sgn tl tp a) = true) : ndg tl tp (k + 1) a v = ndg tl tp k (a + 1) (v * 10 + (tp a - 48)) := if_pos h
theorem ndg_n {tl : Nat} {tp : Nat → Nat} {k a v : Nat} (h : ¬ isDg (sgn tl tp a) = true) : ndg tl tp k a v = (a, v) := by
  cases k with
  | zero => rfl
  | succ k => exact if_neg h
theorem ndg_b {tl : Nat} {tp : Nat → Nat} : ∀ k a v, a ≤ tl → a ≤ (ndg tl tp k a v).1 ∧ (ndg tl tp k a v).1 ≤ tl ∧ (ndg tl tp k a v).1 ≤ a + k ∧ (ndg tl tp k a v).2 < (v + 1) * 10 ^ k
  | 0, a, v, h => by simp [ndg]; exact h
  | k + 1, a, v, h => by
    by_cases hd : isDg (sgn tl tp a) = true
    · rw [ndg_y hd]
      have hl := isDg_at hd
      have ih := ndg_b (tl := tl) (tp := tp) k (a + 1) (v * 10 + (tp a - 48)) (by omega)
      refine ⟨by omega, ih.2.1, by omega, ?_⟩
      have h1 : (v * 10 + (tp a - 48) + 1) * 10 ^ k ≤ (v + 1) * 10 * 10 ^ k := Nat.mul_le_mul_right _ (by omega)
      rw [Nat.pow_succ, Nat.mul_comm (10 ^ k) 10, ← Nat.mul_assoc]
      omega
    · rw [ndg_n hd]
      refine ⟨Nat.le_refl _, h, by omega, ?_⟩
      have : (v + 1) * 1 ≤ (v + 1) * 10 ^ (k + 1) := Nat.mul_le_mul_left _ (Nat.pow_pos (by omega))
      show v < _
      omega
/-- a number of up to d digits: where reading stands, and it, or none -/
def num (tl : Nat) (tp : Nat → Nat) (d a : Nat) : Nat × Option Nat := if isDg (sgn tl tp (nx tl tp a)) = true then (if isDg (sgn tl tp (ndg tl tp d (nx tl tp a) 0).1) = true then ((ndg tl tp d (nx tl tp a) 0).1, none) else ((ndg tl tp d (nx tl tp a) 0).1, some (ndg tl tp d (nx tl tp a) 0).2)) else (nx tl tp a, none)
theorem num_le {tl : Nat} {tp : Nat → Nat} {d a : Nat} (h : a ≤ tl) : a ≤ (num tl tp d a).1 ∧ (num tl tp d a).1 ≤ tl ∧ ∀ v, (num tl tp d a).2 = some v → v < 10 ^ d ∧ (0 < d → a < (num tl tp d a).1) := by
  have h1 := nx_ge (tl := tl) (tp := tp) (a := a)
  have h2 := nx_le (tp := tp) h
  have h3 := ndg_b (tl := tl) (tp := tp) d (nx tl tp a) 0 h2
  unfold num
  split
  next hd =>
    split
    · exact ⟨by dsimp only; omega, h3.2.1, fun v hv => nomatch hv⟩
    · refine ⟨by dsimp only; omega, h3.2.1, fun v hv => ?_⟩
      cases hv
      refine ⟨by have := h3.2.2.2; omega, fun hd0 => ?_⟩
      dsimp only
      have hl := isDg_at hd
      obtain ⟨d', rfl⟩ : ∃ d', d = d' + 1 := ⟨d - 1, by omega⟩
      rw [ndg_y hd]
      have := ndg_b (tl := tl) (tp := tp) d' (nx tl tp a + 1) (0 * 10 + (tp (nx tl tp a) - 48)) (by omega)
      omega
  · exact ⟨h1, h2, fun v hv => nomatch hv⟩
/-- letters of items -/
def itm (x : Option Nat) : Option Nat := match x with
  | none => none
  | some c => if c = 118 then some 0 else if c = 100 then some 1 else if c = 101 then some 2 else if c = 107 then some 3 else if c = 110 then some 4 else if c = 121 then some 5 else if c = 98 then some 6 else none
theorem itm_lt {x : Option Nat} {i : Nat} (h : itm x = some i) : i < 7 ∧ x ≠ none := by
  unfold itm at h
  split at h
  · cases h
  next c =>
    refine ⟨?_, fun z => nomatch z⟩
    repeat' split at h
    all_goals cases h
    all_goals omega
def usu (i : Nat) : Nat := if i = 0 then 1 else if i = 1 then 1 else if i = 4 then 7 else if i = 5 then 3 else if i = 6 then 10 else 0
def vlu (tl : Nat) (tp : Nat → Nat) (i a : Nat) : Nat × Option Nat := match (num tl tp 2 a).2 with
  | none => ((num tl tp 2 a).1, none)
  | some v => if v ≤ most i then ((num tl tp 2 a).1, some v) else ((num tl tp 2 a).1 - 1, none)
theorem vlu_n {tl : Nat} {tp : Nat → Nat} {i a : Nat} (h : (num tl tp 2 a).2 = none) : vlu tl tp i a = ((num tl tp 2 a).1, none) := by simp [vlu, h]
theorem vlu_y {tl : Nat} {tp : Nat → Nat} {i a v : Nat} (h : (num tl tp 2 a).2 = some v) (hv : v ≤ most i) : vlu tl tp i a = ((num tl tp 2 a).1, some v) := by simp [vlu, h, hv]
theorem vlu_o {tl : Nat} {tp : Nat → Nat} {i a v : Nat} (h : (num tl tp 2 a).2 = some v) (hv : ¬ v ≤ most i) : vlu tl tp i a = ((num tl tp 2 a).1 - 1, none) := by simp [vlu, h, hv]
/-- the items of a member -/
def its (tl : Nat) (tp : Nat → Nat) : Nat → Nat → Nat → (Nat → Nat) → Nat × Option (Nat → Nat)
  | 0, _, a, G => (a, some G)
  | k + 1, seen, a, G => match itm (sgn tl tp (nx tl tp a)) with
    | none => (nx tl tp a, some G)
    | some i => if seen.testBit i = true then (nx tl tp a, none) else match (vlu tl tp i (nx tl tp a + 1)).2 with
      | none => ((vlu tl tp i (nx tl tp a + 1)).1, none)
      | some v => its tl tp k (seen ||| 2 ^ i) (vlu tl tp i (nx tl tp a + 1)).1 (up1 G i v)
theorem its_n {tl : Nat} {tp : Nat → Nat} {k seen a : Nat} {G : Nat → Nat} (h : itm (sgn tl tp (nx tl tp a)) = none) : its tl tp (k + 1) seen a G = (nx tl tp a, some G) := by simp [its, h]
theorem its_r {tl : Nat} {tp : Nat → Nat} {k seen a i : Nat} {G : Nat → Nat} (h : itm (sgn tl tp (nx tl tp a)) = some i) (hs : seen.testBit i = true) : its tl tp (k + 1) seen a G = (nx tl tp a, none) := by simp [its, h, hs]
theorem its_f {tl : Nat} {tp : Nat → Nat} {k seen a i : Nat} {G : Nat → Nat} (h : itm (sgn tl tp (nx tl tp a)) = some i) (hs : ¬ seen.testBit i = true) (hv : (vlu tl tp i (nx tl tp a + 1)).2 = none) : its tl tp (k + 1) seen a G = ((vlu tl tp i (nx tl tp a + 1)).1, none) := by simp [its, h, hs, hv]
theorem its_y {tl : Nat} {tp : Nat → Nat} {k seen a i v : Nat} {G : Nat → Nat} (h : itm (sgn tl tp (nx tl tp a)) = some i) (hs : ¬ seen.testBit i = true) (hv : (vlu tl tp i (nx tl tp a + 1)).2 = some v) : its tl tp (k + 1) seen a G = its tl tp k (seen ||| 2 ^ i) (vlu tl tp i (nx tl tp a + 1)).1 (up1 G i v) := by simp [its, h, hs, hv]
theorem vlu_le {tl : Nat} {tp : Nat → Nat} {i a : Nat} (h : a ≤ tl) : (vlu tl tp i a).1 ≤ tl ∧ (∀ v, (vlu tl tp i a).2 = some v → v ≤ most i ∧ a < (vlu tl tp i a).1) ∧ ∀ v, (num tl tp 2 a).2 = some v → 0 < (num tl tp 2 a).1 := by
  have hn := num_le (tp := tp) (d := 2) h
  refine ⟨?_, ?_, fun v hv => by have := (hn.2.2 v hv).2 (by omega); omega⟩
  · cases hq : (num tl tp 2 a).2 with
    | none => rw [vlu_n hq]; exact hn.2.1
    | some v =>
      by_cases hv : v ≤ most i
      · rw [vlu_y hq hv]; exact hn.2.1
      · rw [vlu_o hq hv]; dsimp only; omega
  · intro v hv
    cases hq : (num tl tp 2 a).2 with
    | none => rw [vlu_n hq] at hv; cases hv
    | some w =>
      by_cases hw : w ≤ most i
      · rw [vlu_y hq hw] at hv ⊢
        cases hv
        exact ⟨hw, (hn.2.2 _ hq).2 (by omega)⟩
      · rw [vlu_o hq hw] at hv; cases hv
/-- a clause of a house: members, ring, items -/
def cla (tl : Nat) (tp : Nat → Nat) (st : Nat × Bool × (Nat → Nat → Nat)) (a : Nat) : Nat × Option (Nat × Bool × (Nat → Nat → Nat)) :=
  if sgn tl tp (nx tl tp a) = some 114 ∧ st.2.1 = false then (nx tl tp a + 1, some (st.1, true, st.2.2))
  else if sgn tl tp (nx tl tp a) = some 109 ∧ st.1 < 7 then ((its tl tp 8 0 (nx tl tp a + 1) usu).1, (its tl tp 8 0 (nx tl tp a + 1) usu).2.map (fun G => (st.1 + 1, st.2.1, fun i m => if m = st.1 then G i else st.2.2 i m)))
  else (nx tl tp a, none)
/-- the clauses of a house -/
def cls (tl : Nat) (tp : Nat → Nat) : Nat → Nat → (Nat × Bool × (Nat → Nat → Nat)) → Nat × Option (Nat × Bool × (Nat → Nat → Nat))
  | 0, a, _ => (a, none)
  | k + 1, a, st => match (cla tl tp st a).2 with
    | none => ((cla tl tp st a).1, none)
    | some st' => if sgn tl tp (nx tl tp (cla tl tp st a).1) = some 59 then cls tl tp k (nx tl tp (cla tl tp st a).1 + 1) st' else (nx tl tp (cla tl tp st a).1, some st')
theorem its_le {tl : Nat} {tp : Nat → Nat} : ∀ k seen a G, a ≤ tl → a ≤ (its tl tp k seen a G).1 ∨ (its tl tp k seen a G).2 = none
  | 0, _, a, G, _ => Or.inl (Nat.le_refl _)
  | k + 1, seen, a, G, h => by
    have h1 := nx_ge (tl := tl) (tp := tp) (a := a)
    have h2 := nx_le (tp := tp) h
    cases hi : itm (sgn tl tp (nx tl tp a)) with
    | none => rw [its_n hi]; exact Or.inl h1
    | some i =>
      by_cases hs : seen.testBit i = true
      · rw [its_r hi hs]; exact Or.inl h1
      · have hlt : nx tl tp a < tl := by
          cases hq : sgn tl tp (nx tl tp a) with
          | none => exact absurd hq (itm_lt hi).2
          | some c => exact (sgn_lt hq).1
        have hv := vlu_le (tp := tp) (i := i) (a := nx tl tp a + 1) (tl := tl) (by omega)
        cases hq : (vlu tl tp i (nx tl tp a + 1)).2 with
        | none => rw [its_f hi hs hq]; exact Or.inr rfl
        | some v =>
          rw [its_y hi hs hq]
          have := (hv.2.1 v hq).2
          rcases its_le (tl := tl) (tp := tp) k (seen ||| 2 ^ i) (vlu tl tp i (nx tl tp a + 1)).1 (up1 G i v) hv.1 with q | q
          · exact Or.inl (by omega)
          · exact Or.inr q
theorem its_tl {tl : Nat} {tp : Nat → Nat} : ∀ k seen a G, a ≤ tl → (its tl tp k seen a G).1 ≤ tl
  | 0, _, a, G, h => h
  | k + 1, seen, a, G, h => by
    have h2 := nx_le (tp := tp) h
    cases hi : itm (sgn tl tp (nx tl tp a)) with
    | none => rw [its_n hi]; exact h2
    | some i =>
      by_cases hs : seen.testBit i = true
      · rw [its_r hi hs]; exact h2
      · have hlt : nx tl tp a < tl := by
          cases hq : sgn tl tp (nx tl tp a) with
          | none => exact absurd hq (itm_lt hi).2
          | some c => exact (sgn_lt hq).1
        have hv := vlu_le (tp := tp) (i := i) (a := nx tl tp a + 1) (tl := tl) (by omega)
        cases hq : (vlu tl tp i (nx tl tp a + 1)).2 with
        | none => rw [its_f hi hs hq]; exact hv.1
        | some v => rw [its_y hi hs hq]; exact its_tl k _ _ _ hv.1
theorem cla_le {tl : Nat} {tp : Nat → Nat} {st : Nat × Bool × (Nat → Nat → Nat)} {a : Nat} (h : a ≤ tl) : (cla tl tp st a).1 ≤ tl ∧ ∀ s', (cla tl tp st a).2 = some s' → a < (cla tl tp st a).1 := by
  have h1 := nx_ge (tl := tl) (tp := tp) (a := a)
  have h2 := nx_le (tp := tp) h
  unfold cla
  split
  next e =>
    have := (sgn_lt e.1).1
    exact ⟨by dsimp only; omega, fun s' _ => by dsimp only; omega⟩
  next =>
    split
    next e =>
      have hlt := (sgn_lt e.1).1
      refine ⟨its_tl _ _ _ _ (by omega), fun s' hs => ?_⟩
      dsimp only at hs ⊢
      rcases its_le (tl := tl) (tp := tp) 8 0 (nx tl tp a + 1) usu (by omega) with q | q
      · omega
      · rw [q] at hs; cases hs
    next => exact ⟨h2, fun s' hs => nomatch hs⟩
/-- the house told: a fault, or it -/
def hou (tl : Nat) (tp : Nat → Nat) : Nat × Option (Nat × Bool × (Nat → Nat → Nat)) := match (cls tl tp 161 0 (0, false, fun _ _ => 0)).2 with
  | none => ((cls tl tp 161 0 (0, false, fun _ _ => 0)).1, none)
  | some st => if sgn tl tp (cls tl tp 161 0 (0, false, fun _ _ => 0)).1 = none ∧ 2 ≤ st.1 then ((cls tl tp 161 0 (0, false, fun _ _ => 0)).1, some st) else ((cls tl tp 161 0 (0, false, fun _ _ => 0)).1, none)
