/-! the house as the reference holds it -/
def RB (h : am_H) (n : Nat) (g : Bool) (F : Nat → Nat → Nat) (S T : Nat → Nat) : Prop := am_i h 50 21 = nI n ∧ (am_i h 50 22 = nI (if g = true then 1 else 0)) ∧ n ≤ 7 ∧ (∀ i m, i < 7 → m < n → am_i h 62 (7 * m + i) = nI (F i m) ∧ F i m ≤ 99) ∧ (∀ m, m < n → F 0 m ≤ 1 ∧ F 3 m ≤ 3 ∧ F 4 m ≤ 7 ∧ F 1 m ≤ 20 ∧ F 5 m ≤ 20) ∧ (∀ s, s < n → am_i h 63 s = nI (S s) ∧ S s < n ∧ T (S s) = s) ∧ ∀ m, m < n → T m < n ∧ S (T m) = m
theorem RB.fr {A : List Nat} {h h' : am_H} {n : Nat} {g : Bool} {F : Nat → Nat → Nat} {S T : Nat → Nat} (m : RB h n g F S T) (a : Fr A h h') (h1 : 50 ∉ A) (h2 : 62 ∉ A) (h3 : 63 ∉ A) : RB h' n g F S T := by
  unfold RB at m ⊢
  rw [a.i h1, a.i h2, a.i h3]
  exact m
theorem RB.S {h : am_H} {n : Nat} {g : Bool} {F : Nat → Nat → Nat} {S T : Nat → Nat} (m : RB h n g F S T) : ∀ s, s < n → S s < n := fun s hs => (m.2.2.2.2.2.1 s hs).2.1
theorem RB.T {h : am_H} {n : Nat} {g : Bool} {F : Nat → Nat → Nat} {S T : Nat → Nat} (m : RB h n g F S T) : ∀ q, q < n → T q < n := fun q hq => (m.2.2.2.2.2.2 q hq).1
/-- s lies i seats to the left of t0 -/
def St (n : Nat) (g : Bool) (t0 i s : Nat) : Prop := (i ≤ t0 ∧ s = t0 - i) ∨ (g = true ∧ t0 < i ∧ s = t0 + n - i)
theorem St_next {n : Nat} {g : Bool} {t0 i s t : Nat} (h0 : t0 < n) (hi : i < n) (h : St n g t0 i s) (hl : lf n g s = some t) : St n g t0 (i + 1) t := by
  unfold lf at hl
  rcases h with ⟨h1, h2⟩ | ⟨h1, h2, h3⟩
  · by_cases hs : 0 < s
    · rw [if_pos hs] at hl; cases hl
      exact Or.inl ⟨by omega, by omega⟩
    · rw [if_neg hs] at hl
      by_cases hg : g = true
      · rw [if_pos hg] at hl; cases hl
        exact Or.inr ⟨hg, by omega, by omega⟩
      · rw [if_neg hg] at hl; cases hl
  · rw [if_pos (by omega)] at hl; cases hl
    exact Or.inr ⟨h1, by omega, by omega⟩
theorem St_ne {n : Nat} {g : Bool} {t0 i t : Nat} (hi : 0 < i) (hn : i < n) (h : St n g t0 i t) : t ≠ t0 := by
  rcases h with ⟨h1, h2⟩ | ⟨h1, h2, h3⟩ <;> omega
theorem St_eq {n : Nat} {g : Bool} {t0 t : Nat} (h0 : t0 < n) (h : St n g t0 n t) : t = t0 := by
  rcases h with ⟨h1, h2⟩ | ⟨h1, h2, h3⟩ <;> omega
theorem bit_and (b k : Nat) : b / 2 ^ k &&& 1 = if b.testBit k = true then 1 else 0 := by
  rw [Nat.and_one_is_mod, Nat.testBit_eq_decide_div_mod_eq]
  by_cases h : b / 2 ^ k % 2 = 1
  · simp [h]
  · have : b / 2 ^ k % 2 = 0 := by omega
    simp [this]
