/-! reading manners -/
abbrev Tks := List (Nat × Nat)
abbrev Rd := Nat × Option Tks
def bd (r : Rd) (f : Nat → Tks → Rd) : Rd := match r.2 with
  | none => (r.1, none)
  | some ts => f r.1 ts
theorem bd_n {r : Rd} {f : Nat → Tks → Rd} (h : r.2 = none) : bd r f = (r.1, none) := by simp only [bd, h]
theorem bd_s {r : Rd} {f : Nat → Tks → Rd} {ts : Tks} (h : r.2 = some ts) : bd r f = f r.1 ts := by simp only [bd, h]
/-- p, again and again, behind signs of one rank -/
def chn (tl : Nat) (tp : Nat → Nat) (op : Option Nat → Option Nat) (p : Nat → Rd) : Nat → Nat → Tks → Rd
  | 0, b, _ => (b, none)
  | k + 1, b, ts => match op (sgn tl tp (nx tl tp b)) with
    | none => (nx tl tp b, some ts)
    | some o => bd (p (nx tl tp b + 1)) (fun q us => chn tl tp op p k q (ts ++ us ++ [(o, 0)]))
theorem chn_n {tl : Nat} {tp : Nat → Nat} {op : Option Nat → Option Nat} {p : Nat → Rd} {k b : Nat} {ts : Tks} (h : op (sgn tl tp (nx tl tp b)) = none) : chn tl tp op p (k + 1) b ts = (nx tl tp b, some ts) := by simp only [chn, h]
theorem chn_s {tl : Nat} {tp : Nat → Nat} {op : Option Nat → Option Nat} {p : Nat → Rd} {k b o : Nat} {ts : Tks} (h : op (sgn tl tp (nx tl tp b)) = some o) : chn tl tp op p (k + 1) b ts = bd (p (nx tl tp b + 1)) (fun q us => chn tl tp op p k q (ts ++ us ++ [(o, 0)])) := by simp only [chn, h]
def chs (tl : Nat) (tp : Nat → Nat) (op : Option Nat → Option Nat) (p : Nat → Rd) (a : Nat) : Rd := bd (p a) (chn tl tp op p 161)
def opS (x : Option Nat) : Option Nat := if x = some 43 then some 2 else if x = some 45 then some 3 else none
def opT (x : Option Nat) : Option Nat := if x = some 42 then some 4 else if x = some 47 then some 5 else none
def opA (x : Option Nat) : Option Nat := if x = some 38 then some 10 else none
def opO (x : Option Nat) : Option Nat := if x = some 124 then some 11 else none
def rel (x : Option Nat) : Option Nat := if x = some 61 then some 6 else if x = some 60 then some 7 else if x = some 62 then some 8 else none
/-- letters of manners -/
def lti (x : Option Nat) : Option Nat := match x with
  | none => none
  | some c => if c = 118 then some 0 else if c = 119 then some 1 else if c = 100 then some 2 else if c = 101 then some 3 else if c = 110 then some 4 else if c = 115 then some 5 else none
def clo (tl : Nat) (tp : Nat → Nat) (c : Nat) (r : Rd) : Rd := bd r (fun q ts => if sgn tl tp (nx tl tp q) = some c then (nx tl tp q + 1, some ts) else (nx tl tp q, none))
def atm (tl : Nat) (tp : Nat → Nat) (L : Nat) (inner : Nat → Rd) (a : Nat) : Rd :=
  if sgn tl tp (nx tl tp a) = some 91 then (if L = 0 then (nx tl tp a, none) else clo tl tp 93 (inner (nx tl tp a + 1)))
  else match lti (sgn tl tp (nx tl tp a)) with
    | some j => (nx tl tp a + 1, some [(1, j)])
    | none => ((num tl tp 4 (nx tl tp a)).1, (num tl tp 4 (nx tl tp a)).2.map (fun v => [(0, v)]))
def smW (tl : Nat) (tp : Nat → Nat) (L : Nat) (inner : Nat → Rd) : Nat → Rd := chs tl tp opS (chs tl tp opT (atm tl tp L inner))
def smP (tl : Nat) (tp : Nat → Nat) : Nat → Nat → Rd
  | 0 => smW tl tp 0 (fun a => (a, none))
  | L + 1 => smW tl tp (L + 1) (smP tl tp L)
def rlt (tl : Nat) (tp : Nat → Nat) (sum : Nat → Rd) (b : Nat) (ts : Tks) : Rd := match rel (sgn tl tp (nx tl tp b)) with
  | none => (nx tl tp b, none)
  | some o => bd (sum (nx tl tp b + 1)) (fun q us => (q, some (ts ++ us ++ [(o, 0)])))
def untW (tl : Nat) (tp : Nat → Nat) (L : Nat) (sum iu ic : Nat → Rd) (a : Nat) : Rd :=
  if sgn tl tp (nx tl tp a) = some 33 then (if L = 0 then (nx tl tp a, none) else bd (iu (nx tl tp a + 1)) (fun q ts => (q, some (ts ++ [(9, 0)]))))
  else if sgn tl tp (nx tl tp a) = some 40 then (if L = 0 then (nx tl tp a, none) else clo tl tp 41 (ic (nx tl tp a + 1)))
  else bd (sum (nx tl tp a)) (rlt tl tp sum)
def cndW (tl : Nat) (tp : Nat → Nat) (u : Nat → Rd) : Nat → Rd := chs tl tp opO (chs tl tp opA u)
def unP (tl : Nat) (tp : Nat → Nat) : Nat → Nat → Rd
  | 0 => untW tl tp 0 (smP tl tp 0) (fun a => (a, none)) (fun a => (a, none))
  | L + 1 => untW tl tp (L + 1) (smP tl tp (L + 1)) (unP tl tp L) (cndW tl tp (unP tl tp L))
/-- where reading may stand -/
def Prs (tl : Nat) (p : Nat → Rd) : Prop := ∀ a, a ≤ tl → a ≤ (p a).1 ∧ (p a).1 ≤ tl ∧ ∀ ts, (p a).2 = some ts → a + ts.length ≤ (p a).1 ∧ 0 < ts.length
theorem chn_pr {tl : Nat} {tp : Nat → Nat} {op : Option Nat → Option Nat} (hop : op none = none) {p : Nat → Rd} (hp : Prs tl p) : ∀ k b ts c, b ≤ tl → c + ts.length ≤ b → 0 < ts.length → b ≤ (chn tl tp op p k b ts).1 ∧ (chn tl tp op p k b ts).1 ≤ tl ∧ ∀ us, (chn tl tp op p k b ts).2 = some us → c + us.length ≤ (chn tl tp op p k b ts).1 ∧ 0 < us.length := by
  intro k
  induction k with
  | zero => intro b ts c hb hc h0; exact ⟨Nat.le_refl _, hb, fun us h => nomatch h⟩
  | succ k ih =>
    intro b ts c hb hc h0
    have h1 := nx_ge (tl := tl) (tp := tp) (a := b)
    have h2 := nx_le (tp := tp) hb
    cases ho : op (sgn tl tp (nx tl tp b)) with
    | none =>
      rw [chn_n ho]
      exact ⟨h1, h2, fun us h => by cases h; exact ⟨by dsimp only; omega, h0⟩⟩
    | some o =>
      rw [chn_s ho]
      have hlt : nx tl tp b < tl := by
        cases hq : sgn tl tp (nx tl tp b) with
        | none => rw [hq, hop] at ho; cases ho
        | some c => exact (sgn_lt hq).1
      have hp1 := hp (nx tl tp b + 1) (by omega)
      cases hq : (p (nx tl tp b + 1)).2 with
      | none => rw [bd_n hq]; exact ⟨by dsimp only; omega, hp1.2.1, fun us h => nomatch h⟩
      | some us =>
        rw [bd_s hq]
        have hu := hp1.2.2 us hq
        have := ih (p (nx tl tp b + 1)).1 (ts ++ us ++ [(o, 0)]) c hp1.2.1 (by simp only [List.length_append, List.length_cons, List.length_nil]; omega) (by simp only [List.length_append, List.length_cons, List.length_nil]; omega)
        exact ⟨by omega, this.2.1, this.2.2⟩
theorem chs_pr {tl : Nat} {tp : Nat → Nat} {op : Option Nat → Option Nat} (hop : op none = none) {p : Nat → Rd} (hp : Prs tl p) : Prs tl (chs tl tp op p) := fun a ha => by
  have h1 := hp a ha
  unfold chs
  cases hq : (p a).2 with
  | none => rw [bd_n hq]; exact ⟨h1.1, h1.2.1, fun us h => nomatch h⟩
  | some ts =>
    rw [bd_s hq]
    have h2 := h1.2.2 ts hq
    have h3 := chn_pr (tp := tp) hop hp 161 (p a).1 ts a h1.2.1 h2.1 h2.2
    exact ⟨by omega, h3.2.1, h3.2.2⟩
theorem opS_0 : opS none = none := rfl
theorem opT_0 : opT none = none := rfl
theorem opA_0 : opA none = none := rfl
theorem opO_0 : opO none = none := rfl
theorem sgn_in {tl : Nat} {tp : Nat → Nat} {f : Option Nat → Option Nat} (hf : f none = none) {a o : Nat} (h : f (sgn tl tp a) = some o) : a < tl := by
  cases hq : sgn tl tp a with
  | none => rw [hq, hf] at h; cases h
  | some c => exact (sgn_lt hq).1
theorem clo_pr {tl : Nat} {tp : Nat → Nat} {c a b : Nat} {r : Rd} (hb : a < b) (h : b ≤ r.1 ∧ r.1 ≤ tl ∧ ∀ ts, r.2 = some ts → b + ts.length ≤ r.1 ∧ 0 < ts.length) : a ≤ (clo tl tp c r).1 ∧ (clo tl tp c r).1 ≤ tl ∧ ∀ ts, (clo tl tp c r).2 = some ts → a + ts.length ≤ (clo tl tp c r).1 ∧ 0 < ts.length := by
  unfold clo
  have h1 := nx_ge (tl := tl) (tp := tp) (a := r.1)
  have h2 := nx_le (tp := tp) h.2.1
  cases hq : r.2 with
  | none => rw [bd_n hq]; exact ⟨by dsimp only; omega, h.2.1, fun us h => nomatch h⟩
  | some ts =>
    rw [bd_s hq]
    have h3 := h.2.2 ts hq
    split
    next e =>
      have := (sgn_lt e).1
      exact ⟨by dsimp only; omega, by dsimp only; omega, fun us hu => by cases hu; exact ⟨by dsimp only; omega, h3.2⟩⟩
    next => exact ⟨by dsimp only; omega, h2, fun us h => nomatch h⟩
theorem atm_pr {tl : Nat} {tp : Nat → Nat} {L : Nat} {inner : Nat → Rd} (hi : L ≠ 0 → Prs tl inner) : Prs tl (atm tl tp L inner) := fun a ha => by
  have h1 := nx_ge (tl := tl) (tp := tp) (a := a)
  have h2 := nx_le (tp := tp) ha
  unfold atm
  split
  next e =>
    have hlt := (sgn_lt e).1
    split
    next => exact ⟨h1, h2, fun us h => nomatch h⟩
    next hL => exact clo_pr (by omega) (hi hL (nx tl tp a + 1) (by omega))
  next =>
    split
    next j e =>
      have hlt := sgn_in (f := lti) rfl e
      exact ⟨by dsimp only; omega, by dsimp only; omega, fun us hu => by cases hu; exact ⟨by simp only [List.length_cons, List.length_nil]; omega, by simp⟩⟩
    next =>
      have hn := num_le (tp := tp) (d := 4) h2
      refine ⟨by dsimp only; omega, hn.2.1, fun us hu => ?_⟩
      dsimp only at hu ⊢
      cases hq : (num tl tp 4 (nx tl tp a)).2 with
      | none => rw [hq] at hu; cases hu
      | some v =>
        rw [hq] at hu
        cases hu
        have := (hn.2.2 v hq).2 (by omega)
        exact ⟨by simp only [List.length_cons, List.length_nil]; omega, by simp⟩
theorem smP_pr {tl : Nat} {tp : Nat → Nat} : ∀ L, Prs tl (smP tl tp L)
  | 0 => chs_pr opS_0 (chs_pr opT_0 (atm_pr (fun h => absurd rfl h)))
  | L + 1 => chs_pr opS_0 (chs_pr opT_0 (atm_pr (fun _ => smP_pr L)))
theorem rlt_pr {tl : Nat} {tp : Nat → Nat} {sum : Nat → Rd} (hs : Prs tl sum) {a b : Nat} {ts : Tks} (hb : b ≤ tl) (ht : a + ts.length ≤ b) : b ≤ (rlt tl tp sum b ts).1 ∧ (rlt tl tp sum b ts).1 ≤ tl ∧ ∀ us, (rlt tl tp sum b ts).2 = some us → a + us.length ≤ (rlt tl tp sum b ts).1 ∧ 0 < us.length := by
  have h1 := nx_ge (tl := tl) (tp := tp) (a := b)
  have h2 := nx_le (tp := tp) hb
  unfold rlt
  split
  next => exact ⟨h1, h2, fun us h => nomatch h⟩
  next o e =>
    have hlt := sgn_in (f := rel) rfl e
    have h3 := hs (nx tl tp b + 1) (by omega)
    cases hq : (sum (nx tl tp b + 1)).2 with
    | none => rw [bd_n hq]; exact ⟨by dsimp only; omega, h3.2.1, fun us h => nomatch h⟩
    | some us =>
      rw [bd_s hq]
      have h4 := h3.2.2 us hq
      exact ⟨by dsimp only; omega, h3.2.1, fun vs hv => by cases hv; exact ⟨by simp only [List.length_append, List.length_cons, List.length_nil]; omega, by simp only [List.length_append, List.length_cons, List.length_nil]; omega⟩⟩
theorem untW_pr {tl : Nat} {tp : Nat → Nat} {L : Nat} {sum iu ic : Nat → Rd} (hs : Prs tl sum) (hu : L ≠ 0 → Prs tl iu) (hc : L ≠ 0 → Prs tl ic) : Prs tl (untW tl tp L sum iu ic) := fun a ha => by
  have h1 := nx_ge (tl := tl) (tp := tp) (a := a)
  have h2 := nx_le (tp := tp) ha
  unfold untW
  split
  next e =>
    have hlt := (sgn_lt e).1
    split
    next => exact ⟨h1, h2, fun us h => nomatch h⟩
    next hL =>
      have h3 := hu hL (nx tl tp a + 1) (by omega)
      cases hq : (iu (nx tl tp a + 1)).2 with
      | none => rw [bd_n hq]; exact ⟨by dsimp only; omega, h3.2.1, fun us h => nomatch h⟩
      | some us =>
        rw [bd_s hq]
        have h4 := h3.2.2 us hq
        exact ⟨by dsimp only; omega, h3.2.1, fun vs hv => by cases hv; exact ⟨by simp only [List.length_append, List.length_cons, List.length_nil]; omega, by simp only [List.length_append, List.length_cons, List.length_nil]; omega⟩⟩
  next =>
    split
    next e =>
      have hlt := (sgn_lt e).1
      split
      next => exact ⟨h1, h2, fun us h => nomatch h⟩
      next hL => exact clo_pr (by omega) (hc hL (nx tl tp a + 1) (by omega))
    next =>
      have h3 := hs (nx tl tp a) h2
      cases hq : (sum (nx tl tp a)).2 with
      | none => rw [bd_n hq]; exact ⟨by dsimp only; omega, h3.2.1, fun us h => nomatch h⟩
      | some us =>
        rw [bd_s hq]
        have h4 := h3.2.2 us hq
        have h5 := rlt_pr (tp := tp) hs h3.2.1 (a := a) (ts := us) (by omega)
        exact ⟨by omega, h5.2.1, h5.2.2⟩
theorem cndW_pr {tl : Nat} {tp : Nat → Nat} {u : Nat → Rd} (h : Prs tl u) : Prs tl (cndW tl tp u) := chs_pr opO_0 (chs_pr opA_0 h)
theorem unP_pr {tl : Nat} {tp : Nat → Nat} : ∀ L, Prs tl (unP tl tp L)
  | 0 => untW_pr (smP_pr 0) (fun h => absurd rfl h) (fun h => absurd rfl h)
  | L + 1 => untW_pr (smP_pr (L + 1)) (fun _ => unP_pr L) (fun _ => cndW_pr (unP_pr L))
/-- a clause: test (empty: none) and sum -/
def bdc {α : Type} (r : Rd) (f : Nat → Tks → Nat × Option α) : Nat × Option α := match r.2 with
  | none => (r.1, none)
  | some ts => f r.1 ts
theorem bdc_n {α : Type} {r : Rd} {f : Nat → Tks → Nat × Option α} (h : r.2 = none) : bdc r f = (r.1, none) := by simp only [bdc, h]
theorem bdc_s {α : Type} {r : Rd} {f : Nat → Tks → Nat × Option α} {ts : Tks} (h : r.2 = some ts) : bdc r f = f r.1 ts := by simp only [bdc, h]
def csq (tl : Nat) (tp : Nat → Nat) (b : Nat) (ts : Tks) : Nat × Option (Tks × Tks) :=
  if sgn tl tp (nx tl tp b) = some 63 then bdc (smP tl tp 6 (nx tl tp b + 1)) (fun q us => (q, some (ts, us))) else (nx tl tp b, none)
/-- a condition that is begun with a sum -/
def bgn (tl : Nat) (tp : Nat → Nat) (b : Nat) (ts : Tks) : Rd := bd (bd (rlt tl tp (smP tl tp 6) b ts) (chn tl tp opA (unP tl tp 6) 161)) (chn tl tp opO (chs tl tp opA (unP tl tp 6)) 161)
def mcl (tl : Nat) (tp : Nat → Nat) (a : Nat) : Nat × Option (Tks × Tks) :=
  if sgn tl tp (nx tl tp a) = some 121 then
    (if sgn tl tp (nx tl tp (nx tl tp a + 1)) = some 58 then
      (if sgn tl tp (nx tl tp (nx tl tp (nx tl tp a + 1) + 1)) = some 33 ∨ sgn tl tp (nx tl tp (nx tl tp (nx tl tp a + 1) + 1)) = some 40 then
        bdc (cndW tl tp (unP tl tp 6) (nx tl tp (nx tl tp (nx tl tp a + 1) + 1))) (csq tl tp)
      else bdc (smP tl tp 6 (nx tl tp (nx tl tp (nx tl tp a + 1) + 1))) (fun b ts =>
        if rel (sgn tl tp (nx tl tp b)) = none then (nx tl tp b, some ([], ts)) else bdc (bgn tl tp b ts) (csq tl tp)))
    else (nx tl tp (nx tl tp a + 1), none))
  else (nx tl tp a, none)
def mcs (tl : Nat) (tp : Nat → Nat) : Nat → Nat → List (Tks × Tks) → Nat × Option (List (Tks × Tks))
  | 0, a, _ => (a, none)
  | k + 1, a, M => match (mcl tl tp a).2 with
    | none => ((mcl tl tp a).1, none)
    | some c => if sgn tl tp (nx tl tp (mcl tl tp a).1) = some 59 then mcs tl tp k (nx tl tp (mcl tl tp a).1 + 1) (M ++ [c]) else if sgn tl tp (nx tl tp (mcl tl tp a).1) = none then (nx tl tp (mcl tl tp a).1, some (M ++ [c])) else (nx tl tp (mcl tl tp a).1, none)
