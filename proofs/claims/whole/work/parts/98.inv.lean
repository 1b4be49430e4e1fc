/-! what holds between calls -/
theorem Fx.t {A : List Nat} {B : List (Nat × Nat)} {h h' : am_H} (a : Fx A B h h') : am_t h' = am_t h := by show h'.2.2.2.2.1 = h.2.2.2.2.1; rw [a.2.1]
theorem Fx.u {A : List Nat} {B : List (Nat × Nat)} {h h' : am_H} (a : Fx A B h h') : am_u h' = am_u h := by show h'.2.2.2.2.2 = h.2.2.2.2.2; rw [a.2.1]
theorem Fx.p {A : List Nat} {B : List (Nat × Nat)} {h h' : am_H} (a : Fx A B h h') : am_p h' = am_p h := by unfold am_p; rw [a.2.1]
abbrev ZT : Type := Nat × Nat × Nat × List (Tks × Tks)
def c1 (h : am_H) (n : Nat) (g : Bool) (F : Nat → Nat → Nat) (S T : Nat → Nat) : Prop := MB h n g F ∧ SB 11 12 13 h n S T ∧ RB h n g F S T ∧ (n = 0 ∨ 2 ≤ n) ∧ (n = 0 → g = false)
theorem c1.fx {A : List Nat} {B : List (Nat × Nat)} {h h' : am_H} {n : Nat} {g : Bool} {F : Nat → Nat → Nat} {S T : Nat → Nat} (m : c1 h n g F S T) (a : Fx A B h h') (ok : (9 ∉ A ∧ 10 ∉ A ∧ (9, 0) ∉ B ∧ (9, 1) ∉ B ∧ 10 ∉ B.map Prod.fst) ∧ (11 ∉ A ∧ 12 ∉ A ∧ 13 ∉ A ∧ (11, 0) ∉ B ∧ 12 ∉ B.map Prod.fst ∧ 13 ∉ B.map Prod.fst) ∧ (50 ∉ A ∧ 62 ∉ A ∧ 63 ∉ A ∧ (50, 21) ∉ B ∧ (50, 22) ∉ B ∧ 62 ∉ B.map Prod.fst ∧ 63 ∉ B.map Prod.fst)) : c1 h' n g F S T := ⟨m.1.fx a ok.1, m.2.1.fx a ok.2.1, m.2.2.1.fx a ok.2.2, m.2.2.2⟩
def c2 (h : am_H) (tl : Nat) (tp : Nat → Nat) : Prop := TP 1 1 2 h tl tp ∧ ∃ a, RA h tl tp a
theorem c2.fx {A : List Nat} {B : List (Nat × Nat)} {h h' : am_H} {tl : Nat} {tp : Nat → Nat} (m : c2 h tl tp) (a : Fx A B h h') (ok : (1 ∉ A ∧ (1, 1) ∉ B ∧ 2 ∉ A ∧ 2 ∉ B.map Prod.fst) ∧ (50 ∉ A ∧ (50, 2) ∉ B ∧ (50, 3) ∉ B ∧ 51 ∉ A ∧ 51 ∉ B.map Prod.fst)) : c2 h' tl tp := ⟨m.1.fx a ok.1, m.2.elim (fun b z => ⟨b, z.fx a ok.2⟩)⟩
/-- manners number k, on both sides -/
def TD (h : am_H) (k : Nat) (z : ZT) : Prop := am_p h 8 k = some z.1 ∧ MN h z.1 z.2.1 z.2.2.1 (lay 0 z.2.2.2) ∧ (∀ c ∈ z.2.2.2, ClT c) ∧ LW h k z.2.2.2 ∧ z.1 < am_t h ∧ z.2.1 < am_t h ∧ z.2.2.1 < am_t h
def DJ (mc : Nat) (Z : Nat → ZT) : Prop := ∀ k k', k < mc → k' < mc → (Z k').2.1 ≠ (Z k).1 ∧ (Z k').2.1 ≠ (Z k).2.2.1
def c3 (h : am_H) (mc : Nat) (Z : Nat → ZT) : Prop := am_i h 0 4 = nI mc ∧ am_i h 50 13 = nI mc ∧ mc ≤ 4 ∧ (∀ k, k < mc → TD h k (Z k)) ∧ DJ mc Z
theorem c3.fx {A : List Nat} {B : List (Nat × Nat)} {h h' : am_H} {mc : Nat} {Z : Nat → ZT} (m : c3 h mc Z) (a : Fx A B h h') (ok : (52 ∉ A ∧ 53 ∉ A ∧ 55 ∉ A ∧ 56 ∉ A ∧ 57 ∉ A ∧ 58 ∉ A ∧ 52 ∉ B.map Prod.fst ∧ 53 ∉ B.map Prod.fst ∧ 55 ∉ B.map Prod.fst ∧ 56 ∉ B.map Prod.fst ∧ 57 ∉ B.map Prod.fst ∧ 58 ∉ B.map Prod.fst) ∧ 0 ∉ A ∧ (0, 4) ∉ B ∧ 50 ∉ A ∧ (50, 13) ∉ B) (hs : ∀ k, k < mc → (Z k).2.1 ∉ A) (hb : ∀ x ∈ B.map Prod.fst, x < 80) : c3 h' mc Z := by
  obtain ⟨m1, m2, m3, m4, m5⟩ := m
  refine ⟨(a.i ok.2.1 ok.2.2.1).trans m1, (a.i ok.2.2.2.1 ok.2.2.2.2).trans m2, m3, fun k hk => ?_, m5⟩
  obtain ⟨t1, t2, t3, t4, t5, t6, t7⟩ := m4 k hk
  refine ⟨by rw [a.p]; exact t1, t2.fx a (hs k hk) (fun z => ?_), t3, t4.fx a ok.1, by rw [a.t]; exact t5, by rw [a.t]; exact t6, by rw [a.t]; exact t7⟩
  have := hb _ z
  have := t2.2.2.2.2.2.2.2.2.2.2.2.1
  omega
theorem c3.fx0 {A : List Nat} {B : List (Nat × Nat)} {h h' : am_H} {mc : Nat} {Z : Nat → ZT} (m : c3 h mc Z) (a : Fx A B h h') (ok : ((52 ∉ A ∧ 53 ∉ A ∧ 55 ∉ A ∧ 56 ∉ A ∧ 57 ∉ A ∧ 58 ∉ A ∧ 52 ∉ B.map Prod.fst ∧ 53 ∉ B.map Prod.fst ∧ 55 ∉ B.map Prod.fst ∧ 56 ∉ B.map Prod.fst ∧ 57 ∉ B.map Prod.fst ∧ 58 ∉ B.map Prod.fst) ∧ 0 ∉ A ∧ (0, 4) ∉ B ∧ 50 ∉ A ∧ (50, 13) ∉ B) ∧ (∀ x ∈ A, x < 80) ∧ ∀ x ∈ B.map Prod.fst, x < 80) : c3 h' mc Z := m.fx a ok.1 (fun k hk z => by
  have := ok.2.1 _ z
  have := (m.2.2.2.1 k hk).2.1.2.2.2.2.2.2.2.2.2.2.2.1
  omega) ok.2.2
def c4 (h : am_H) (hold : Option Nat) (mc : Nat) (Z : Nat → ZT) : Prop := am_i h 0 5 = oN hold ∧ am_i h 50 24 = oN hold ∧ (∀ k, hold = some k → k < mc) ∧ am_p h 20 1 = hold.map (fun k => (Z k).1)
theorem c4.fx {A : List Nat} {B : List (Nat × Nat)} {h h' : am_H} {hold : Option Nat} {mc : Nat} {Z : Nat → ZT} (m : c4 h hold mc Z) (a : Fx A B h h') (ok : 0 ∉ A ∧ (0, 5) ∉ B ∧ 50 ∉ A ∧ (50, 24) ∉ B) : c4 h' hold mc Z := ⟨(a.i ok.1 ok.2.1).trans m.1, (a.i ok.2.2.1 ok.2.2.2).trans m.2.1, m.2.2.1, by rw [a.p]; exact m.2.2.2⟩
def c7 (h : am_H) (n kn : Nat) (ks : Nat → Nat) (ky : Nat → Bool) : Prop := KB 16 3 18 19 h n kn ks ky ∧ KB 50 36 68 69 h n kn ks ky
theorem c7.fx {A : List Nat} {B : List (Nat × Nat)} {h h' : am_H} {n kn : Nat} {ks : Nat → Nat} {ky : Nat → Bool} (m : c7 h n kn ks ky) (a : Fx A B h h') (ok : (16 ∉ A ∧ (16, 3) ∉ B ∧ 18 ∉ A ∧ 19 ∉ A ∧ 18 ∉ B.map Prod.fst ∧ 19 ∉ B.map Prod.fst) ∧ (50 ∉ A ∧ (50, 36) ∉ B ∧ 68 ∉ A ∧ 69 ∉ A ∧ 68 ∉ B.map Prod.fst ∧ 69 ∉ B.map Prod.fst)) : c7 h' n kn ks ky := ⟨m.1.fx a ok.1, m.2.fx a ok.2⟩
def c8 (h : am_H) (hd : Nat) (y : Nat → Nat) (p : Nat → Bool) (st : Nat → Int64) (dr : Int64) : Prop := TB 37 0 1 38 39 40 h hd y p st dr ∧ TB 50 41 42 71 72 73 h hd y p st dr ∧ ZB 72 h
theorem c8.fx {A : List Nat} {B : List (Nat × Nat)} {h h' : am_H} {hd : Nat} {y : Nat → Nat} {p : Nat → Bool} {st : Nat → Int64} {dr : Int64} (m : c8 h hd y p st dr) (a : Fx A B h h') (ok : (37 ∉ A ∧ (37, 0) ∉ B ∧ (37, 1) ∉ B ∧ 38 ∉ A ∧ 39 ∉ A ∧ 40 ∉ A ∧ 38 ∉ B.map Prod.fst ∧ 39 ∉ B.map Prod.fst ∧ 40 ∉ B.map Prod.fst) ∧ (50 ∉ A ∧ (50, 41) ∉ B ∧ (50, 42) ∉ B ∧ 71 ∉ A ∧ 72 ∉ A ∧ 73 ∉ A ∧ 71 ∉ B.map Prod.fst ∧ 72 ∉ B.map Prod.fst ∧ 73 ∉ B.map Prod.fst)) : c8 h' hd y p st dr := ⟨m.1.fx a ok.1, m.2.1.fx a ok.2, m.2.2.fx a ⟨ok.2.2.2.2.2.1, ok.2.2.2.2.2.2.2.2.1⟩⟩
def c9 (h : am_H) (n : Nat) (g : Bool) (F : Nat → Nat → Nat) : Prop := (am_i h 0 13 = nI 0 ∧ am_i h 50 50 = nI 0) ∨ (am_i h 0 13 = nI 1 ∧ am_i h 50 50 = nI 1 ∧ ∃ (F' : Nat → Nat → Nat) (S' T' : Nat → Nat) (hd : Nat) (y : Nat → Nat) (p : Nat → Bool) (st : Nat → Int64) (dr : Int64), MX 41 42 h n g F' ∧ SB 43 44 45 h n S' T' ∧ TB 46 0 1 47 48 49 h hd y p st dr ∧ RI h n F' S' T' ∧ TB 50 48 49 76 77 78 h hd y p st dr ∧ ZB 77 h ∧ ∀ i m, i < 7 → m < n → i ≠ 0 → i ≠ 3 → F' i m = F i m)
theorem c9.fx {A : List Nat} {B : List (Nat × Nat)} {h h' : am_H} {n : Nat} {g : Bool} {F : Nat → Nat → Nat} (m : c9 h n g F) (a : Fx A B h h') (ok : (0 ∉ A ∧ (0, 13) ∉ B ∧ 50 ∉ A ∧ (50, 50) ∉ B) ∧ (41 ∉ A ∧ 42 ∉ A ∧ (41, 0) ∉ B ∧ (41, 1) ∉ B ∧ 42 ∉ B.map Prod.fst) ∧ (43 ∉ A ∧ 44 ∉ A ∧ 45 ∉ A ∧ (43, 0) ∉ B ∧ 44 ∉ B.map Prod.fst ∧ 45 ∉ B.map Prod.fst) ∧ (46 ∉ A ∧ (46, 0) ∉ B ∧ (46, 1) ∉ B ∧ 47 ∉ A ∧ 48 ∉ A ∧ 49 ∉ A ∧ 47 ∉ B.map Prod.fst ∧ 48 ∉ B.map Prod.fst ∧ 49 ∉ B.map Prod.fst) ∧ (74 ∉ A ∧ 75 ∉ A ∧ 74 ∉ B.map Prod.fst ∧ 75 ∉ B.map Prod.fst) ∧ (50 ∉ A ∧ (50, 48) ∉ B ∧ (50, 49) ∉ B ∧ 76 ∉ A ∧ 77 ∉ A ∧ 78 ∉ A ∧ 76 ∉ B.map Prod.fst ∧ 77 ∉ B.map Prod.fst ∧ 78 ∉ B.map Prod.fst)) : c9 h' n g F := by
  obtain ⟨o0, o1, o2, o3, o4, o5⟩ := ok
  have e1 := a.i o0.1 o0.2.1
  have e2 := a.i o0.2.2.1 o0.2.2.2
  rcases m with ⟨m1, m2⟩ | ⟨m1, m2, F', S', T', hd, y, p, st, dr, a1, a2, a3, a4, a5, a6, a7⟩
  · exact Or.inl ⟨e1.trans m1, e2.trans m2⟩
  · exact Or.inr ⟨e1.trans m1, e2.trans m2, F', S', T', hd, y, p, st, dr, a1.fx a o1, a2.fx a o2, a3.fx a o3, a4.fx a o4, a5.fx a o5, a6.fx a ⟨o5.2.2.2.2.1, o5.2.2.2.2.2.2.2.1⟩, a7⟩
theorem c9.F {h : am_H} {n : Nat} {g : Bool} {F G : Nat → Nat → Nat} (m : c9 h n g F) (e : ∀ i m, i < 7 → m < n → i ≠ 0 → i ≠ 3 → F i m = G i m) : c9 h n g G := by
  rcases m with m | ⟨m1, m2, F', S', T', hd, y, p, st, dr, a1, a2, a3, a4, a5, a6, a7⟩
  · exact Or.inl m
  · exact Or.inr ⟨m1, m2, F', S', T', hd, y, p, st, dr, a1, a2, a3, a4, a5, a6, fun i k h1 h2 h3 h4 => (a7 i k h1 h2 h3 h4).trans (e i k h1 h2 h3 h4)⟩
abbrev hmZ (hold : Option Nat) (Z : Nat → ZT) : Option (List (Tks × Tks)) := hold.map (fun k => (Z k).2.2.2)
abbrev qZ (hold : Option Nat) (Z : Nat → ZT) : Option ZT := hold.map Z
theorem hmo_q {hold : Option Nat} {Z : Nat → ZT} : hmo (qZ hold Z) = hmZ hold Z := by cases hold <;> rfl
def IV (h : am_H) (n : Nat) (g : Bool) (F : Nat → Nat → Nat) (S T : Nat → Nat) (tl : Nat) (tp : Nat → Nat) (mc : Nat) (Z : Nat → ZT) (hold : Option Nat) (kn : Nat) (ks : Nat → Nat) (ky : Nat → Bool) (hd : Nat) (y : Nat → Nat) (p : Nat → Bool) (st : Nat → Int64) (dr : Int64) : Prop := (Wd h ∧ 80 ≤ am_t h) ∧ c1 h n g F S T ∧ c2 h tl tp ∧ c3 h mc Z ∧ c4 h hold mc Z ∧ KP h (hmZ hold Z) n g F ∧ KC h n g F (lS n S) ∧ c7 h n kn ks ky ∧ c8 h hd y p st dr ∧ c9 h n g F
def INV (h : am_H) : Prop := ∃ (n : Nat) (g : Bool) (F : Nat → Nat → Nat) (S T : Nat → Nat) (tl : Nat) (tp : Nat → Nat) (mc : Nat) (Z : Nat → ZT) (hold : Option Nat) (kn : Nat) (ks : Nat → Nat) (ky : Nat → Bool) (hd : Nat) (y : Nat → Nat) (p : Nat → Bool) (st : Nat → Int64) (dr : Int64), IV h n g F S T tl tp mc Z hold kn ks ky hd y p st dr
theorem c3.ch {h : am_H} {mc : Nat} {Z : Nat → ZT} {hold : Option Nat} (m : c3 h mc Z) (q : c4 h hold mc Z) : CHd h (qZ hold Z) := by
  cases hold with
  | none => exact q.2.2.2
  | some k =>
    obtain ⟨t1, t2, t3, _⟩ := m.2.2.2.1 k (q.2.2.1 k rfl)
    exact ⟨q.2.2.2, t2, t3⟩
theorem c3.rh {h : am_H} {mc : Nat} {Z : Nat → ZT} {hold : Option Nat} (m : c3 h mc Z) (q : c4 h hold mc Z) : RHd h hold (hmZ hold Z) := by
  cases hold with
  | none => exact ⟨q.2.1, rfl⟩
  | some k =>
    have hk := q.2.2.1 k rfl
    obtain ⟨t1, t2, t3, t4, _⟩ := m.2.2.2.1 k hk
    exact ⟨q.2.1, by have := m.2.2.1; omega, (Z k).2.2.2, rfl, t4, t3⟩
theorem FL_ok {h : am_H} {mc : Nat} {Z : Nat → ZT} {hold : Option Nat} (m : c3 h mc Z) (q : c4 h hold mc Z) : ∀ k, k < mc → (Z k).2.1 ∉ FL (qZ hold Z) := fun k hk z => by
  have h8 := (m.2.2.2.1 k hk).2.1.2.2.2.2.2.2.2.2.2.2.2.1
  cases hold with
  | none => simp [FL] at z; omega
  | some j =>
    have d := m.2.2.2.2 j k (q.2.2.1 j rfl) hk
    simp only [FL, Option.map_some, List.mem_cons, List.not_mem_nil, or_false] at z
    rcases z with z | z | z
    · omega
    · exact d.1 z
    · exact d.2 z
/-- cells and fields that nothing hangs on -/
abbrev SCR : List Nat := [5, 7, 15, 17, 21, 22, 23, 24, 25, 30, 31, 32, 34, 35, 36, 59, 60, 61, 64, 65, 66, 67, 70, 79]
abbrev SCB : List (Nat × Nat) := [(1, 2), (4, 0), (4, 1), (6, 2), (16, 6), (16, 7), (20, 7), (20, 8), (20, 9), (20, 10), (20, 11), (29, 5), (50, 0), (50, 4), (50, 5), (50, 14), (50, 18), (50, 19), (50, 25), (50, 26), (50, 27), (50, 28), (50, 33)]
theorem IV.fx {h h' : am_H} {n : Nat} {g : Bool} {F : Nat → Nat → Nat} {S T : Nat → Nat} {tl : Nat} {tp : Nat → Nat} {mc : Nat} {Z : Nat → ZT} {hold : Option Nat} {kn : Nat} {ks : Nat → Nat} {ky : Nat → Bool} {hd : Nat} {y : Nat → Nat} {p : Nat → Bool} {st : Nat → Int64} {dr : Int64} {A : List Nat} {B : List (Nat × Nat)} (m : IV h n g F S T tl tp mc Z hold kn ks ky hd y p st dr) (a0 : Fx A B h h') (hA : ∀ x ∈ A, x ∈ SCR ∨ x ∈ FL (qZ hold Z)) (hB : ∀ q ∈ B, q ∈ SCB) : IV h' n g F S T tl tp mc Z hold kn ks ky hd y p st dr := by
  obtain ⟨m0, m1, m2, m3, m4, m5, m6, m7, m8, m9⟩ := m
  have hch := m3.ch m4
  have a : Fx (SCR ++ FL (qZ hold Z)) SCB h h' := a0.mono (fun x hx => List.mem_append.mpr (hA x hx)) (fun q hq => Or.inr (hB q hq))
  have nA : ∀ {x : Nat}, x ∉ SCR ∧ x < 80 ∧ x ≠ 21 → x ∉ SCR ++ FL (qZ hold Z) := fun hx => FLa hch hx.1 hx.2.1 hx.2.2
  refine ⟨⟨a.Wd m0.1, by rw [a.t]; exact m0.2⟩, m1.fx a ⟨⟨nA (by decide), nA (by decide), by decide⟩, ⟨nA (by decide), nA (by decide), nA (by decide), by decide⟩, ⟨nA (by decide), nA (by decide), nA (by decide), by decide⟩⟩, m2.fx a ⟨⟨nA (by decide), by decide, nA (by decide), by decide⟩, ⟨nA (by decide), by decide, by decide, nA (by decide), by decide⟩⟩, m3.fx a ⟨⟨nA (by decide), nA (by decide), nA (by decide), nA (by decide), nA (by decide), nA (by decide), by decide⟩, nA (by decide), by decide, nA (by decide), by decide⟩ (fun k hk z => ?_) (by decide), m4.fx a ⟨nA (by decide), by decide, nA (by decide), by decide⟩, m5.fx a ⟨nA (by decide), nA (by decide), nA (by decide), by decide⟩, m6.fx a ⟨nA (by decide), by decide⟩, m7.fx a ⟨⟨nA (by decide), by decide, nA (by decide), nA (by decide), by decide⟩, ⟨nA (by decide), by decide, nA (by decide), nA (by decide), by decide⟩⟩, m8.fx a ⟨⟨nA (by decide), by decide, by decide, nA (by decide), nA (by decide), nA (by decide), by decide⟩, ⟨nA (by decide), by decide, by decide, nA (by decide), nA (by decide), nA (by decide), by decide⟩⟩, m9.fx a ⟨⟨nA (by decide), by decide, nA (by decide), by decide⟩, ⟨nA (by decide), nA (by decide), by decide⟩, ⟨nA (by decide), nA (by decide), nA (by decide), by decide⟩, ⟨nA (by decide), by decide, by decide, nA (by decide), nA (by decide), nA (by decide), by decide⟩, ⟨nA (by decide), nA (by decide), by decide⟩, ⟨nA (by decide), by decide, by decide, nA (by decide), nA (by decide), nA (by decide), by decide⟩⟩⟩
  have h8 := (m3.2.2.2.1 k hk).2.1.2.2.2.2.2.2.2.2.2.2.2.1
  rcases List.mem_append.mp z with z | z
  · have : ∀ x ∈ SCR, x < 80 := by decide
    have := this _ z
    omega
  · exact FL_ok m3 m4 k hk z
theorem Fr.fx {A : List Nat} {h h' : am_H} (a : Fr A h h') : Fx A [] h h' := a.x
/-! pairs of calls -/
def PRi (Nc Nr : am_M) (vs : List Value) (h : am_H) : Prop := ∃ (x : Int32) (h1 h2 : am_H) (d1 d2 : Nat), d1 < 1000 ∧ d2 < 1000 ∧ am_C d1 Nc (.ref 0 :: vs) h (some (.int x), h1) ∧ am_C d2 Nr (.ref 50 :: vs) h1 (some (.int x), h2) ∧ Wd h1 ∧ INV h2 ∧ am_t h1 ≤ am_t h + 3 ∧ am_u h1 ≤ am_u h + 400 ∧ am_t h2 = am_t h1 ∧ am_u h2 = am_u h1
def PRl (Nc Nr : am_M) (vs : List Value) (h : am_H) : Prop := ∃ (x : Int64) (h1 h2 : am_H) (d1 d2 : Nat), d1 < 1000 ∧ d2 < 1000 ∧ am_C d1 Nc (.ref 0 :: vs) h (some (.long x), h1) ∧ am_C d2 Nr (.ref 50 :: vs) h1 (some (.long x), h2) ∧ Wd h1 ∧ INV h2 ∧ am_t h1 ≤ am_t h + 3 ∧ am_u h1 ≤ am_u h + 400 ∧ am_t h2 = am_t h1 ∧ am_u h2 = am_u h1
set_option maxHeartbeats 2000000 in
theorem p_seat {h : am_H} (hI : INV h) {x : Int32} : PRi m_X11_seat m_X12_seat [.int x] h := by
  obtain ⟨n, g, F, S, T, tl, tp, mc, Z, hold, kn, ks, ky, hd, y, p, st, dr, m⟩ := hI
  obtain ⟨⟨hW, h80⟩, ⟨hM, hS, hR, h2n, h0g⟩, ⟨hP, ra, hRA⟩, m3, m4, hKP, hKC, ⟨hK, hKr⟩, ⟨hT, hTr, hZ⟩, m9⟩ := id m
  exact ⟨_, h, h, _, _, by decide, by decide, c_seat hW hM hS, r_seat hW hR, hW, ⟨_, _, _, _, _, _, _, _, _, _, _, _, _, _, _, _, _, _, m⟩, by omega, by omega, rfl, rfl⟩
set_option maxHeartbeats 2000000 in
theorem p_tally {h : am_H} (hI : INV h) {x : Int32} : PRi m_X11_tally m_X12_tally [.int x] h := by
  obtain ⟨n, g, F, S, T, tl, tp, mc, Z, hold, kn, ks, ky, hd, y, p, st, dr, m⟩ := hI
  obtain ⟨⟨hW, h80⟩, ⟨hM, hS, hR, h2n, h0g⟩, ⟨hP, ra, hRA⟩, m3, m4, hKP, hKC, ⟨hK, hKr⟩, ⟨hT, hTr, hZ⟩, m9⟩ := id m
  exact ⟨_, h, h, _, _, by decide, by decide, c_tally hW hM hS, r_tally hW hR, hW, ⟨_, _, _, _, _, _, _, _, _, _, _, _, _, _, _, _, _, _, m⟩, by omega, by omega, rfl, rfl⟩
set_option maxHeartbeats 2000000 in
theorem p_bribe {h : am_H} (hI : INV h) {x : Int32} : PRi m_X11_bribe m_X12_bribe [.int x] h := by
  obtain ⟨n, g, F, S, T, tl, tp, mc, Z, hold, kn, ks, ky, hd, y, p, st, dr, m⟩ := hI
  obtain ⟨⟨hW, h80⟩, ⟨hM, hS, hR, h2n, h0g⟩, ⟨hP, ra, hRA⟩, m3, m4, hKP, hKC, ⟨hK, hKr⟩, ⟨hT, hTr, hZ⟩, m9⟩ := id m
  exact ⟨_, h, h, _, _, by decide, by decide, c_bribe hW hM hS, r_bribe hW hR, hW, ⟨_, _, _, _, _, _, _, _, _, _, _, _, _, _, _, _, _, _, m⟩, by omega, by omega, rfl, rfl⟩
set_option maxHeartbeats 2000000 in
theorem p_sat {h : am_H} (hI : INV h) {x1 x2 : Int32} : PRi m_X11_sat m_X12_sat [.int x1, .int x2] h := by
  obtain ⟨n, g, F, S, T, tl, tp, mc, Z, hold, kn, ks, ky, hd, y, p, st, dr, m⟩ := hI
  obtain ⟨⟨hW, h80⟩, ⟨hM, hS, hR, h2n, h0g⟩, ⟨hP, ra, hRA⟩, m3, m4, hKP, hKC, ⟨hK, hKr⟩, ⟨hT, hTr, hZ⟩, m9⟩ := id m
  exact ⟨_, h, h, _, _, by decide, by decide, c_sat hW hT, r_sat hW hTr, hW, ⟨_, _, _, _, _, _, _, _, _, _, _, _, _, _, _, _, _, _, m⟩, by omega, by omega, rfl, rfl⟩
set_option maxHeartbeats 2000000 in
theorem p_count {h : am_H} (hI : INV h) {x : Int32} : PRi m_X11_count m_X12_count [.int x] h := by
  obtain ⟨n, g, F, S, T, tl, tp, mc, Z, hold, kn, ks, ky, hd, y, p, st, dr, m⟩ := hI
  obtain ⟨⟨hW, h80⟩, ⟨hM, hS, hR, h2n, h0g⟩, ⟨hP, ra, hRA⟩, m3, m4, hKP, hKC, ⟨hK, hKr⟩, ⟨hT, hTr, hZ⟩, m9⟩ := id m
  exact ⟨_, h, h, _, _, by decide, by decide, c_count hW hM hS m3.1 m4.1 hP hK hT, r_count hW hR h0g m3.2.1 m4.2.1 hRA.1 hKr hTr, hW, ⟨_, _, _, _, _, _, _, _, _, _, _, _, _, _, _, _, _, _, m⟩, by omega, by omega, rfl, rfl⟩
set_option maxHeartbeats 2000000 in
theorem p_round {h : am_H} (hI : INV h) {x1 x2 x3 : Int32} : PRl m_X11_round m_X12_round [.int x1, .int x2, .int x3] h := by
  obtain ⟨n, g, F, S, T, tl, tp, mc, Z, hold, kn, ks, ky, hd, y, p, st, dr, m⟩ := hI
  obtain ⟨⟨hW, h80⟩, ⟨hM, hS, hR, h2n, h0g⟩, ⟨hP, ra, hRA⟩, m3, m4, hKP, hKC, ⟨hK, hKr⟩, ⟨hT, hTr, hZ⟩, m9⟩ := id m
  have k1 := c_round hW hM hS (x1 := x1) (x2 := x2) (x3 := x3)
  have m1 := m
  have hW1 := hW
  have hR1 := hR
  have hKr1 := hKr
  have m31 := m3
  have m41 := m4
  obtain ⟨v2, h2, k2, ⟨e2, f2⟩⟩ := r_round hW1 hR1 (x1 := x1) (x2 := x2) (x3 := x3)
  subst e2
  have f2x : Fx _ _ h h2 := f2
  have m2 := m1.fx f2x (by simp) (by decide)
  exact ⟨_, h, h2, _, _, by decide, by decide, k1, k2, hW1, ⟨_, _, _, _, _, _, _, _, _, _, _, _, _, _, _, _, _, _, m2⟩, by omega, by omega, f2x.t, f2x.u⟩
set_option maxHeartbeats 2000000 in
theorem p_odds {h : am_H} (hI : INV h) {x : Int32} : PRl m_X11_odds m_X12_odds [.int x] h := by
  obtain ⟨n, g, F, S, T, tl, tp, mc, Z, hold, kn, ks, ky, hd, y, p, st, dr, m⟩ := hI
  obtain ⟨⟨hW, h80⟩, ⟨hM, hS, hR, h2n, h0g⟩, ⟨hP, ra, hRA⟩, m3, m4, hKP, hKC, ⟨hK, hKr⟩, ⟨hT, hTr, hZ⟩, m9⟩ := id m
  obtain ⟨v1, h1, k1, ⟨e1, f1⟩⟩ := c_odds hW hM hS (x := x)
  subst e1
  have f1x : Fx _ _ h h1 := f1.fx
  have m1 := m.fx f1x (fun x hx => Or.inl ((show ∀ x ∈ [17], x ∈ SCR by decide) x hx)) (by decide)
  obtain ⟨⟨hW1, h801⟩, ⟨hM1, hS1, hR1, _, _⟩, ⟨hP1, ra1, hRA1⟩, m31, m41, hKP1, hKC1, ⟨hK1, hKr1⟩, ⟨hT1, hTr1, hZ1⟩, m91⟩ := id m1
  obtain ⟨v2, h2, k2, ⟨e2, f2⟩⟩ := r_odds hW1 hR1 (x := x)
  subst e2
  have f2x : Fx _ _ h1 h2 := f2.fx
  have m2 := m1.fx f2x (fun x hx => Or.inl ((show ∀ x ∈ [64], x ∈ SCR by decide) x hx)) (by decide)
  exact ⟨_, h1, h2, _, _, by decide, by decide, k1, k2, hW1, ⟨_, _, _, _, _, _, _, _, _, _, _, _, _, _, _, _, _, _, m2⟩, by rw [f1x.t]; omega, by rw [f1x.u]; omega, f2x.t, f2x.u⟩
set_option maxHeartbeats 2000000 in
theorem p_passed {h : am_H} (hI : INV h) : PRl m_X11_passed m_X12_passed [] h := by
  obtain ⟨n, g, F, S, T, tl, tp, mc, Z, hold, kn, ks, ky, hd, y, p, st, dr, m⟩ := hI
  obtain ⟨⟨hW, h80⟩, ⟨hM, hS, hR, h2n, h0g⟩, ⟨hP, ra, hRA⟩, m3, m4, hKP, hKC, ⟨hK, hKr⟩, ⟨hT, hTr, hZ⟩, m9⟩ := id m
  obtain ⟨v1, h1, k1, ⟨e1, f1⟩⟩ := c_passed hW hM hS
  subst e1
  have f1x : Fx _ _ h h1 := f1.fx
  have m1 := m.fx f1x (fun x hx => Or.inl ((show ∀ x ∈ [17], x ∈ SCR by decide) x hx)) (by decide)
  obtain ⟨⟨hW1, h801⟩, ⟨hM1, hS1, hR1, _, _⟩, ⟨hP1, ra1, hRA1⟩, m31, m41, hKP1, hKC1, ⟨hK1, hKr1⟩, ⟨hT1, hTr1, hZ1⟩, m91⟩ := id m1
  obtain ⟨v2, h2, k2, ⟨e2, f2⟩⟩ := r_passed hW1 hR1
  subst e2
  have f2x : Fx _ _ h1 h2 := f2.fx
  have m2 := m1.fx f2x (fun x hx => Or.inl ((show ∀ x ∈ [64], x ∈ SCR by decide) x hx)) (by decide)
  exact ⟨_, h1, h2, _, _, by decide, by decide, k1, k2, hW1, ⟨_, _, _, _, _, _, _, _, _, _, _, _, _, _, _, _, _, _, m2⟩, by rw [f1x.t]; omega, by rw [f1x.u]; omega, f2x.t, f2x.u⟩
set_option maxHeartbeats 2000000 in
theorem p_yawn {h : am_H} (hI : INV h) {x1 x2 : Int32} : PRi m_X11_yawn m_X12_yawn [.int x1, .int x2] h := by
  obtain ⟨n, g, F, S, T, tl, tp, mc, Z, hold, kn, ks, ky, hd, y, p, st, dr, m⟩ := hI
  obtain ⟨⟨hW, h80⟩, ⟨hM, hS, hR, h2n, h0g⟩, ⟨hP, ra, hRA⟩, m3, m4, hKP, hKC, ⟨hK, hKr⟩, ⟨hT, hTr, hZ⟩, m9⟩ := id m
  obtain ⟨v1, h1, k1, ⟨e1, f1⟩⟩ := c_yawn hW hM hS (x1 := x1) (x2 := x2)
  subst e1
  have f1x : Fx _ _ h h1 := f1
  have m1 := m.fx f1x (fun x hx => Or.inl ((show ∀ x ∈ [15], x ∈ SCR by decide) x hx)) (by decide)
  obtain ⟨⟨hW1, h801⟩, ⟨hM1, hS1, hR1, _, _⟩, ⟨hP1, ra1, hRA1⟩, m31, m41, hKP1, hKC1, ⟨hK1, hKr1⟩, ⟨hT1, hTr1, hZ1⟩, m91⟩ := id m1
  obtain ⟨v2, h2, k2, ⟨e2, f2⟩⟩ := r_yawn hW1 hR1 (x1 := x1) (x2 := x2)
  subst e2
  have f2x : Fx _ _ h1 h2 := f2
  have m2 := m1.fx f2x (fun x hx => Or.inl ((show ∀ x ∈ [65], x ∈ SCR by decide) x hx)) (by decide)
  exact ⟨_, h1, h2, _, _, by decide, by decide, k1, k2, hW1, ⟨_, _, _, _, _, _, _, _, _, _, _, _, _, _, _, _, _, _, m2⟩, by rw [f1x.t]; omega, by rw [f1x.u]; omega, f2x.t, f2x.u⟩
set_option maxHeartbeats 2000000 in
theorem p_yawns {h : am_H} (hI : INV h) {x1 x2 : Int32} : PRi m_X11_yawns m_X12_yawns [.int x1, .int x2] h := by
  obtain ⟨n, g, F, S, T, tl, tp, mc, Z, hold, kn, ks, ky, hd, y, p, st, dr, m⟩ := hI
  obtain ⟨⟨hW, h80⟩, ⟨hM, hS, hR, h2n, h0g⟩, ⟨hP, ra, hRA⟩, m3, m4, hKP, hKC, ⟨hK, hKr⟩, ⟨hT, hTr, hZ⟩, m9⟩ := id m
  obtain ⟨v1, h1, k1, ⟨e1, f1⟩⟩ := c_yawns hW hM hS (x1 := x1) (x2 := x2)
  subst e1
  have f1x : Fx _ _ h h1 := f1
  have m1 := m.fx f1x (fun x hx => Or.inl ((show ∀ x ∈ [15], x ∈ SCR by decide) x hx)) (by decide)
  obtain ⟨⟨hW1, h801⟩, ⟨hM1, hS1, hR1, _, _⟩, ⟨hP1, ra1, hRA1⟩, m31, m41, hKP1, hKC1, ⟨hK1, hKr1⟩, ⟨hT1, hTr1, hZ1⟩, m91⟩ := id m1
  obtain ⟨v2, h2, k2, ⟨e2, f2⟩⟩ := r_yawns hW1 hR1 (x1 := x1) (x2 := x2)
  subst e2
  have f2x : Fx _ _ h1 h2 := f2
  have m2 := m1.fx f2x (fun x hx => Or.inl ((show ∀ x ∈ [65], x ∈ SCR by decide) x hx)) (by decide)
  exact ⟨_, h1, h2, _, _, by decide, by decide, k1, k2, hW1, ⟨_, _, _, _, _, _, _, _, _, _, _, _, _, _, _, _, _, _, m2⟩, by rw [f1x.t]; omega, by rw [f1x.u]; omega, f2x.t, f2x.u⟩
set_option maxHeartbeats 2000000 in
theorem p_fits {h : am_H} (hI : INV h) {x : Int32} : PRi m_X11_fits m_X12_fits [.int x] h := by
  obtain ⟨n, g, F, S, T, tl, tp, mc, Z, hold, kn, ks, ky, hd, y, p, st, dr, m⟩ := hI
  obtain ⟨⟨hW, h80⟩, ⟨hM, hS, hR, h2n, h0g⟩, ⟨hP, ra, hRA⟩, m3, m4, hKP, hKC, ⟨hK, hKr⟩, ⟨hT, hTr, hZ⟩, m9⟩ := id m
  obtain ⟨v1, h1, k1, ⟨e1, f1⟩⟩ := c_fits hW hM hS hK (x := x)
  subst e1
  have f1x : Fx _ _ h h1 := f1
  have m1 := m.fx f1x (by simp) (by decide)
  obtain ⟨⟨hW1, h801⟩, ⟨hM1, hS1, hR1, _, _⟩, ⟨hP1, ra1, hRA1⟩, m31, m41, hKP1, hKC1, ⟨hK1, hKr1⟩, ⟨hT1, hTr1, hZ1⟩, m91⟩ := id m1
  obtain ⟨v2, h2, k2, ⟨e2, f2⟩⟩ := r_fits hW1 hR1 hKr1 (x := x)
  subst e2
  have f2x : Fx _ _ h1 h2 := f2
  have m2 := m1.fx f2x (fun x hx => Or.inl ((show ∀ x ∈ [70], x ∈ SCR by decide) x hx)) (by decide)
  exact ⟨_, h1, h2, _, _, by decide, by decide, k1, k2, hW1, ⟨_, _, _, _, _, _, _, _, _, _, _, _, _, _, _, _, _, _, m2⟩, by rw [f1x.t]; omega, by rw [f1x.u]; omega, f2x.t, f2x.u⟩
set_option maxHeartbeats 2000000 in
theorem p_sure {h : am_H} (hI : INV h) {z : Bool} : PRi m_X11_sure m_X12_sure [.int (nI (if z = true then 1 else 0))] h := by
  obtain ⟨n, g, F, S, T, tl, tp, mc, Z, hold, kn, ks, ky, hd, y, p, st, dr, m⟩ := hI
  obtain ⟨⟨hW, h80⟩, ⟨hM, hS, hR, h2n, h0g⟩, ⟨hP, ra, hRA⟩, m3, m4, hKP, hKC, ⟨hK, hKr⟩, ⟨hT, hTr, hZ⟩, m9⟩ := id m
  obtain ⟨v1, h1, k1, ⟨e1, f1⟩⟩ := c_sure hW hM hS hK (y := z)
  subst e1
  have f1x : Fx _ _ h h1 := f1
  have m1 := m.fx f1x (by simp) (by decide)
  obtain ⟨⟨hW1, h801⟩, ⟨hM1, hS1, hR1, _, _⟩, ⟨hP1, ra1, hRA1⟩, m31, m41, hKP1, hKC1, ⟨hK1, hKr1⟩, ⟨hT1, hTr1, hZ1⟩, m91⟩ := id m1
  obtain ⟨v2, h2, k2, ⟨e2, f2⟩⟩ := r_sure hW1 hR1 hKr1 (y := z)
  subst e2
  have f2x : Fx _ _ h1 h2 := f2
  have m2 := m1.fx f2x (fun x hx => Or.inl ((show ∀ x ∈ [70], x ∈ SCR by decide) x hx)) (by decide)
  exact ⟨_, h1, h2, _, _, by decide, by decide, k1, k2, hW1, ⟨_, _, _, _, _, _, _, _, _, _, _, _, _, _, _, _, _, _, m2⟩, by rw [f1x.t]; omega, by rw [f1x.u]; omega, f2x.t, f2x.u⟩
set_option maxHeartbeats 2000000 in
theorem p_ill {h : am_H} (hI : INV h) : PRi m_X11_ill m_X12_ill [] h := by
  obtain ⟨n, g, F, S, T, tl, tp, mc, Z, hold, kn, ks, ky, hd, y, p, st, dr, m⟩ := hI
  obtain ⟨⟨hW, h80⟩, ⟨hM, hS, hR, h2n, h0g⟩, ⟨hP, ra, hRA⟩, m3, m4, hKP, hKC, ⟨hK, hKr⟩, ⟨hT, hTr, hZ⟩, m9⟩ := id m
  obtain ⟨v1, h1, k1, ⟨e1, f1⟩⟩ := c_ill hW hM hS (m3.ch m4)
  subst e1
  rw [hmo_q] at k1
  have f1x : Fx _ _ h h1 := f1
  have m1 := m.fx f1x (fun x hx => Or.inr hx) (by decide)
  obtain ⟨⟨hW1, h801⟩, ⟨hM1, hS1, hR1, _, _⟩, ⟨hP1, ra1, hRA1⟩, m31, m41, hKP1, hKC1, ⟨hK1, hKr1⟩, ⟨hT1, hTr1, hZ1⟩, m91⟩ := id m1
  obtain ⟨v2, h2, k2, ⟨e2, f2⟩⟩ := r_ill hW1 hR1 (m31.rh m41)
  subst e2
  have f2x : Fx _ _ h1 h2 := f2
  have m2 := m1.fx f2x (fun x hx => Or.inl ((show ∀ x ∈ [59, 60], x ∈ SCR by decide) x hx)) (by decide)
  exact ⟨_, h1, h2, _, _, by decide, by decide, k1, k2, hW1, ⟨_, _, _, _, _, _, _, _, _, _, _, _, _, _, _, _, _, _, m2⟩, by rw [f1x.t]; omega, by rw [f1x.u]; omega, f2x.t, f2x.u⟩
set_option maxHeartbeats 2000000 in
theorem p_turner {h : am_H} (hI : INV h) : PRi m_X11_turner m_X12_turner [] h := by
  obtain ⟨n, g, F, S, T, tl, tp, mc, Z, hold, kn, ks, ky, hd, y, p, st, dr, m⟩ := hI
  obtain ⟨⟨hW, h80⟩, ⟨hM, hS, hR, h2n, h0g⟩, ⟨hP, ra, hRA⟩, m3, m4, hKP, hKC, ⟨hK, hKr⟩, ⟨hT, hTr, hZ⟩, m9⟩ := id m
  obtain ⟨v1, h1, k1, ⟨e1, f1⟩⟩ := c_turner hW hM hS
  subst e1
  have f1x : Fx _ _ h h1 := f1.fx
  have m1 := m.fx f1x (fun x hx => Or.inl ((show ∀ x ∈ [17], x ∈ SCR by decide) x hx)) (by decide)
  obtain ⟨⟨hW1, h801⟩, ⟨hM1, hS1, hR1, _, _⟩, ⟨hP1, ra1, hRA1⟩, m31, m41, hKP1, hKC1, ⟨hK1, hKr1⟩, ⟨hT1, hTr1, hZ1⟩, m91⟩ := id m1
  obtain ⟨v2, h2, k2, ⟨e2, f2⟩⟩ := r_turner hW1 hR1
  subst e2
  have f2x : Fx _ _ h1 h2 := f2.fx
  have m2 := m1.fx f2x (fun x hx => Or.inl ((show ∀ x ∈ [64], x ∈ SCR by decide) x hx)) (by decide)
  exact ⟨_, h1, h2, _, _, by decide, by decide, k1, k2, hW1, ⟨_, _, _, _, _, _, _, _, _, _, _, _, _, _, _, _, _, _, m2⟩, by rw [f1x.t]; omega, by rw [f1x.u]; omega, f2x.t, f2x.u⟩
