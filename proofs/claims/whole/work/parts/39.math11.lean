/-! a word that goes round: holder, minute, parts behind k steps -/
def rd (n : Nat) (g : Bool) (F : Nat → Nat → Nat) (S T : Nat → Nat) (m0 : Nat) : Nat → Option (Nat × Nat × Nat)
  | 0 => some (m0, 0, 1)
  | k + 1 => match rd n g F S T m0 k with
    | none => none
    | some q => if hrd n g F S T q.1 = true then some ((mth n g F S T q.1).getD 0, q.2.1 + F 1 ((mth n g F S T q.1).getD 0), q.2.2 * (100 - slp F ((mth n g F S T q.1).getD 0)) + (100 ^ k - q.2.2) * slp F ((mth n g F S T q.1).getD 0)) else none
theorem rd_y {n : Nat} {g : Bool} {F : Nat → Nat → Nat} {S T : Nat → Nat} {m0 k m mi pa q : Nat} (h : rd n g F S T m0 k = some (m, mi, pa)) (hh : hrd n g F S T m = true) (hq : mth n g F S T m = some q) : rd n g F S T m0 (k + 1) = some (q, mi + F 1 q, pa * (100 - slp F q) + (100 ^ k - pa) * slp F q) := by
  simp only [rd, h, hh, hq, if_true, Option.getD_some]
theorem rd_n {n : Nat} {g : Bool} {F : Nat → Nat → Nat} {S T : Nat → Nat} {m0 k m mi pa : Nat} (h : rd n g F S T m0 k = some (m, mi, pa)) (hh : ¬ hrd n g F S T m = true) : rd n g F S T m0 (k + 1) = none := by
  simp only [rd, h, hh]
  rfl
theorem rd_none {n : Nat} {g : Bool} {F : Nat → Nat → Nat} {S T : Nat → Nat} {m0 k : Nat} (h : rd n g F S T m0 k = none) : ∀ j, rd n g F S T m0 (k + j) = none
  | 0 => h
  | j + 1 => by
    have ih := rd_none h j
    rw [← Nat.add_assoc]
    simp only [rd, ih]
theorem rd_ok {n : Nat} {g : Bool} {F : Nat → Nat → Nat} {S T : Nat → Nat} {m0 : Nat} (hF : ∀ i m, i < 7 → m < n → F i m ≤ 99) (hD : ∀ m, m < n → F 1 m ≤ 20) (hS : ∀ s, s < n → S s < n) (hT : ∀ m, m < n → T m < n) (h0 : m0 < n) : ∀ k m mi pa, rd n g F S T m0 k = some (m, mi, pa) → m < n ∧ mi ≤ k * 20 ∧ pa ≤ 100 ^ k
  | 0, m, mi, pa, h => by
    simp only [rd] at h
    cases h
    exact ⟨h0, by omega, by simp⟩
  | k + 1, m, mi, pa, h => by
    cases hp : rd n g F S T m0 k with
    | none =>
      have := rd_none hp 1
      rw [this] at h
      cases h
    | some p =>
      obtain ⟨m', mi', pa'⟩ := p
      have ih := rd_ok hF hD hS hT h0 k m' mi' pa' hp
      by_cases hh : hrd n g F S T m' = true
      · obtain ⟨q, hq⟩ := hrd_m hh
        have hqn := mth_lt hS hT ih.1 hq
        have hs := slp_le hF hqn
        have hd := hD q hqn
        have h1 : pa' * (100 - slp F q) ≤ pa' * 100 := Nat.mul_le_mul_left _ (by omega)
        have h2 : (100 ^ k - pa') * slp F q ≤ (100 ^ k - pa') * 100 := Nat.mul_le_mul_left _ (by omega)
        rw [rd_y hp hh hq] at h
        cases h
        refine ⟨hqn, by omega, ?_⟩
        rw [Nat.pow_succ]
        have h3 : pa' * 100 + (100 ^ k - pa') * 100 = 100 ^ k * 100 := by rw [← Nat.add_mul]; congr 1; omega
        omega
      · rw [rd_n hp hh] at h
        cases h
def roV (n : Nat) (g : Bool) (F : Nat → Nat → Nat) (S T : Nat → Nat) (x1 x2 x3 : Int32) : Int64 := match rg x1 n with
  | none => -1
  | some m => if F 3 m = 1 then -1 else match rg x2 8 with
    | none => -1
    | some k => match rg x3 3 with
      | none => -1
      | some w => match rd n g F S T m k with
        | none => -1
        | some q => if w = 0 then lN (T q.1) else if w = 1 then lN q.2.1 else lN q.2.2
/-- whether nothing is swallowed -/
def alp (n : Nat) (g : Bool) (F : Nat → Nat → Nat) (S T : Nat → Nat) (m : Nat) : Bool := match mth n g F S T m with
  | none => !(g && decide (F 3 m ≠ 1))
  | some q => decide (¬ swl F q m)
def alh (n : Nat) (g : Bool) (F : Nat → Nat → Nat) (S T : Nat → Nat) : Bool := alB (alp n g F S T) n
/-- what was heard: how many, from which seats, yes or no -/
def KB (r j a b : Nat) (h : am_H) (n kn : Nat) (ks : Nat → Nat) (ky : Nat → Bool) : Prop := am_i h r j = nI kn ∧ kn ≤ 20 ∧ ∀ k, k < kn → am_i h a k = nI (ks k) ∧ ks k < n ∧ am_i h b k = nI (if ky k = true then 1 else 0)
theorem KB.fx {A : List Nat} {B : List (Nat × Nat)} {h h' : am_H} {r j x y n kn : Nat} {ks : Nat → Nat} {ky : Nat → Bool} (m : KB r j x y h n kn ks ky) (a : Fx A B h h') (ok : r ∉ A ∧ (r, j) ∉ B ∧ x ∉ A ∧ y ∉ A ∧ x ∉ B.map Prod.fst ∧ y ∉ B.map Prod.fst) : KB r j x y h' n kn ks ky := by
  unfold KB at m ⊢
  rw [a.i ok.1 ok.2.1, a.ia ok.2.2.1 ok.2.2.2.2.1, a.ia ok.2.2.2.1 ok.2.2.2.2.2]
  exact m
theorem KB.more {r j a b : Nat} {h h2 : am_H} {n kn : Nat} {ks : Nat → Nat} {ky : Nat → Bool} {s : Nat} {y : Bool} (m : KB r j a b h n kn ks ky) (hl : kn < 20) (hs : s < n) (h1 : am_i h2 r j = nI (kn + 1)) (h3 : ∀ k, k < 20 → am_i h2 a k = if k = kn then nI s else am_i h a k) (h4 : ∀ k, k < 20 → am_i h2 b k = if k = kn then nI (if y = true then 1 else 0) else am_i h b k) : KB r j a b h2 n (kn + 1) (up1 ks kn s) (up1 ky kn y) := by
  refine ⟨h1, by omega, fun k hk => ?_⟩
  rw [h3 k (by omega), h4 k (by omega)]
  by_cases e : k = kn
  · subst e
    rw [if_pos rfl, if_pos rfl, up1_eq, up1_eq]
    exact ⟨rfl, hs, rfl⟩
  · rw [if_neg e, if_neg e, up1_ne e, up1_ne e]
    exact m.2.2 k (by omega)
def knO (n kn : Nat) (x : Int32) : Option Nat := if kn < 20 then rg x n else none
theorem l100 : (100 : Int64) = lN 100 := by decide +kernel
theorem p100 {k : Nat} (h : k ≤ 8) : 100 ^ k ≤ 10000000000000000 := Nat.pow_le_pow_right (n := 100) (by omega) h
theorem b01 (y : Bool) : nI (if y = true then 1 else 0) = 0 ∨ nI (if y = true then 1 else 0) = 1 := by cases y <;> simp <;> decide +kernel
