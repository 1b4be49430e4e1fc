/-! gains of the class's search -/
def al (F : Nat → Nat → Nat) (l : List Nat) : List Nat := l.filter (fun m => decide (F 3 m ≠ 1))
theorem al_app {F : Nat → Nat → Nat} {l : List Nat} {m : Nat} : al F (l ++ [m]) = if F 3 m = 1 then al F l else al F l ++ [m] := by
  unfold al
  rw [List.filter_append]
  by_cases e : F 3 m = 1
  · rw [if_pos e]; simp [e]
  · rw [if_neg e]; simp [e]
theorem al_len {F : Nat → Nat → Nat} {l : List Nat} : (al F l).length ≤ l.length := List.length_filter_le _ _
theorem al_mem {F : Nat → Nat → Nat} {l : List Nat} {x : Nat} (h : x ∈ al F l) : x ∈ l ∧ F 3 x ≠ 1 := by
  unfold al at h
  have := List.mem_filter.mp h
  exact ⟨this.1, by simpa using this.2⟩
/-- who is before the one at a place -/
def bfo (g : Bool) (c p : Nat) : Option Nat := if 0 < p then some (p - 1) else if g = true ∧ 1 < c then some (c - 1) else none
def rsx (F : Nat → Nat → Nat) (g : Bool) (a : List Nat) : Nat → Nat → Nat
  | 0, _ => 0
  | k + 1, p => match bfo g a.length p with
    | none => 0
    | some b => if swl F (sl a b) (sl a p) then 0 else (1000 - F 1 (sl a b)) + rsx F g a k b
theorem rsx_n {F : Nat → Nat → Nat} {g : Bool} {a : List Nat} {k p : Nat} (h : bfo g a.length p = none) : rsx F g a (k + 1) p = 0 := by simp only [rsx, h]
theorem rsx_y {F : Nat → Nat → Nat} {g : Bool} {a : List Nat} {k p b : Nat} (h : bfo g a.length p = some b) (hs : swl F (sl a b) (sl a p)) : rsx F g a (k + 1) p = 0 := by simp only [rsx, h]; rw [if_pos hs]
theorem rsx_o {F : Nat → Nat → Nat} {g : Bool} {a : List Nat} {k p b : Nat} (h : bfo g a.length p = some b) (hs : ¬ swl F (sl a b) (sl a p)) : rsx F g a (k + 1) p = (1000 - F 1 (sl a b)) + rsx F g a k b := by simp only [rsx, h]; rw [if_neg hs]
theorem rsx_le {F : Nat → Nat → Nat} {g : Bool} {a : List Nat} : ∀ k p, rsx F g a k p ≤ 1000 * k
  | 0, _ => Nat.le_refl _
  | k + 1, p => by
    cases h : bfo g a.length p with
    | none => rw [rsx_n h]; omega
    | some b =>
      by_cases hs : swl F (sl a b) (sl a p)
      · rw [rsx_y h hs]; omega
      · rw [rsx_o h hs]
        have := rsx_le (F := F) (g := g) (a := a) k b
        omega
/-- the last place of the first member -/
def fnd (a : List Nat) : Nat → Option Nat
  | 0 => none
  | k + 1 => if sl a k = 0 then some k else fnd a k
theorem fnd_lt {a : List Nat} : ∀ {k p : Nat}, fnd a k = some p → p < k ∧ sl a p = 0
  | 0, p, h => by cases h
  | k + 1, p, h => by
    simp only [fnd] at h
    split at h
    next e => cases h; exact ⟨by omega, e⟩
    next => have := fnd_lt h; exact ⟨by omega, this.2⟩
def rs (F : Nat → Nat → Nat) (g : Bool) (a : List Nat) : Nat := match fnd a a.length with
  | none => 0
  | some p => rsx F g a 7 p
theorem rs_le {F : Nat → Nat → Nat} {g : Bool} {a : List Nat} : rs F g a ≤ 7000 := by
  unfold rs
  split
  · omega
  · exact rsx_le 7 _
def pI (hm : Option (List (Tks × Tks))) (F : Nat → Nat → Nat) (a b s : Nat) : Int := (pwt hm F a b s).toInt
/-- what the one at seat i adds -/
def gn (hm : Option (List (Tks × Tks))) (g : Bool) (F : Nat → Nat → Nat) (w : Nat) (l : List Nat) (i : Nat) : Int :=
  if w = 0 then (if i = 0 then 0 else -(pI hm F (sl l (i - 1)) (sl l i) i))
  else if F 3 (sl l i) = 1 then 0
  else if w = 2 then (if sl l i = 0 ∧ g = false then (rs F g (al F (l.take i) ++ [sl l i]) : Int) else 0)
  else if 0 < (al F (l.take i)).length ∧ ¬ swl F (sl (al F (l.take i)) ((al F (l.take i)).length - 1)) (sl l i) then 1 else 0
/-- what the ring's end adds -/
def la (hm : Option (List (Tks × Tks))) (n : Nat) (g : Bool) (F : Nat → Nat → Nat) (w : Nat) (l : List Nat) : Int :=
  if g = false then 0
  else if w = 2 then (rs F g (al F l) : Int)
  else if w = 0 then -(pI hm F (sl l (n - 1)) (sl l 0) 0)
  else if (al F l).length < 2 then 0 else if swl F (sl (al F l) ((al F l).length - 1)) (sl (al F l) 0) then 0 else 1
/-- sum of the first gains -/
def psm (f : Nat → Int) : Nat → Int
  | 0 => 0
  | k + 1 => psm f k + f k
theorem psm_cong {f f' : Nat → Int} : ∀ {k : Nat}, (∀ i, i < k → f i = f' i) → psm f k = psm f' k
  | 0, _ => rfl
  | k + 1, h => by simp only [psm]; rw [psm_cong (fun i hi => h i (by omega)), h k (by omega)]
theorem psm_bd {f : Nat → Int} {c : Int} : ∀ {k : Nat}, (∀ i, i < k → -c ≤ f i ∧ f i ≤ c) → -(c * k) ≤ psm f k ∧ psm f k ≤ c * k
  | 0, _ => by simp [psm]
  | k + 1, h => by
    have ih := psm_bd (f := f) (c := c) (k := k) (fun i hi => h i (by omega))
    have h1 := h k (by omega)
    simp only [psm]
    have e : c * ((k + 1 : Nat) : Int) = c * k + c := by
      rw [Int.natCast_add, Int.mul_add]
      simp
    rw [e]
    omega
theorem sl_app {l m : List Nat} {i : Nat} (h : i < l.length) : sl (l ++ m) i = sl l i := by
  simp only [sl, List.getD_eq_getElem?_getD]
  rw [List.getElem?_append_left h]
theorem sl_last {l : List Nat} {m : Nat} : sl (l ++ [m]) l.length = m := by simp [sl, List.getD_eq_getElem?_getD]
/-- a gain hangs on those to the left alone -/
theorem gn_app {hm : Option (List (Tks × Tks))} {g : Bool} {F : Nat → Nat → Nat} {w : Nat} {l m : List Nat} {i : Nat} (h : i < l.length) : gn hm g F w (l ++ m) i = gn hm g F w l i := by
  unfold gn
  rw [sl_app h, List.take_append_of_le_length (by omega), sl_app (show i - 1 < l.length by omega)]
theorem psm_app {hm : Option (List (Tks × Tks))} {g : Bool} {F : Nat → Nat → Nat} {w : Nat} {l m : List Nat} : psm (gn hm g F w (l ++ m)) l.length = psm (gn hm g F w l) l.length := psm_cong (fun i hi => gn_app hi)
/-- the whole of a seating as the class adds it up -/
def tot (hm : Option (List (Tks × Tks))) (n : Nat) (g : Bool) (F : Nat → Nat → Nat) (w : Nat) (l : List Nat) : Int := psm (gn hm g F w l) n + la hm n g F w l
