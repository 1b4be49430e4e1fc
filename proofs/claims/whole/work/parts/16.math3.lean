/-! mouths -/
def mo (n : Nat) (g : Bool) (F : Nat → Nat → Nat) (S : Nat → Nat) : Nat → Nat → Option Nat
  | 0, _ => none
  | k + 1, s => match lf n g s with
    | none => none
    | some t => if F 3 (S t) ≠ 1 then some (S t) else mo n g F S k t
theorem mo_n {n : Nat} {g : Bool} {F : Nat → Nat → Nat} {S : Nat → Nat} {k s : Nat} (h : lf n g s = none) : mo n g F S (k + 1) s = none := by simp [mo, h]
theorem mo_y {n : Nat} {g : Bool} {F : Nat → Nat → Nat} {S : Nat → Nat} {k s t : Nat} (h : lf n g s = some t) (hy : F 3 (S t) ≠ 1) : mo n g F S (k + 1) s = some (S t) := by simp [mo, h, hy]
theorem mo_o {n : Nat} {g : Bool} {F : Nat → Nat → Nat} {S : Nat → Nat} {k s t : Nat} (h : lf n g s = some t) (hy : ¬ F 3 (S t) ≠ 1) : mo n g F S (k + 1) s = mo n g F S k t := by simp [mo, h] at hy ⊢; simp [hy]
theorem mo_lt {n : Nat} {g : Bool} {F : Nat → Nat → Nat} {S : Nat → Nat} (hS : ∀ s, s < n → S s < n) : ∀ k s q, s < n → mo n g F S k s = some q → q < n
  | 0, s, q, _, h => by simp [mo] at h
  | k + 1, s, q, hs, h => by
    cases hl : lf n g s with
    | none => rw [mo_n hl] at h; cases h
    | some t =>
      have ht := lf_lt hs hl
      by_cases hy : F 3 (S t) ≠ 1
      · rw [mo_y hl hy] at h; cases h; exact hS t ht
      · rw [mo_o hl hy] at h; exact mo_lt hS k t q ht h
/-- the mouth of a member -/
def mth (n : Nat) (g : Bool) (F : Nat → Nat → Nat) (S T : Nat → Nat) (m : Nat) : Option Nat := if F 3 m ≠ 1 then mo n g F S (n - 1) (T m) else none
theorem mth_y {n : Nat} {g : Bool} {F : Nat → Nat → Nat} {S T : Nat → Nat} {m : Nat} (h : F 3 m ≠ 1) : mth n g F S T m = mo n g F S (n - 1) (T m) := by simp [mth, h]
theorem mth_n {n : Nat} {g : Bool} {F : Nat → Nat → Nat} {S T : Nat → Nat} {m : Nat} (h : ¬ F 3 m ≠ 1) : mth n g F S T m = none := by simp [mth] at h ⊢; simp [h]
/-- whether one who sits is the mouth by which nothing comes -/
abbrev swl (F : Nat → Nat → Nat) (q m : Nat) : Prop := F 3 q = 3 ∨ F 4 q = m
def hrd (n : Nat) (g : Bool) (F : Nat → Nat → Nat) (S T : Nat → Nat) (m : Nat) : Bool := match mth n g F S T m with
  | none => false
  | some q => decide (¬ swl F q m)
theorem hrd_n {n : Nat} {g : Bool} {F : Nat → Nat → Nat} {S T : Nat → Nat} {m : Nat} (h : mth n g F S T m = none) : hrd n g F S T m = false := by simp [hrd, h]
theorem hrd_s {n : Nat} {g : Bool} {F : Nat → Nat → Nat} {S T : Nat → Nat} {m q : Nat} (h : mth n g F S T m = some q) : hrd n g F S T m = decide (¬ swl F q m) := by simp [hrd, h]
def slp (F : Nat → Nat → Nat) (q : Nat) : Nat := if F 3 q = 2 then 0 else F 2 q
theorem SB.S {r a b n : Nat} {h : am_H} {S T : Nat → Nat} (hS : SB r a b h n S T) : ∀ s, s < n → S s < n := fun s hs => (hS.2.2.1 s hs).2.1
theorem SB.T {r a b n : Nat} {h : am_H} {S T : Nat → Nat} (hS : SB r a b h n S T) : ∀ m, m < n → T m < n := fun m hm => (hS.2.2.2 m hm).2.1
theorem mth_lt {n : Nat} {g : Bool} {F : Nat → Nat → Nat} {S T : Nat → Nat} {m q : Nat} (hS : ∀ s, s < n → S s < n) (hT : ∀ m, m < n → T m < n) (hm : m < n) (h : mth n g F S T m = some q) : q < n := by
  by_cases hy : F 3 m ≠ 1
  · rw [mth_y hy] at h; exact mo_lt hS _ _ _ (hT m hm) h
  · rw [mth_n hy] at h; cases h
