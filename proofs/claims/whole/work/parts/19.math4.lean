/-! counts -/
def ct (p : Nat → Bool) : Nat → Nat
  | 0 => 0
  | k + 1 => ct p k + (if p k = true then 1 else 0)
theorem ct_t {p : Nat → Bool} {k : Nat} (h : p k = true) : ct p (k + 1) = ct p k + 1 := by simp [ct, h]
theorem ct_f {p : Nat → Bool} {k : Nat} (h : ¬ p k = true) : ct p (k + 1) = ct p k := by simp [ct, h]
theorem ct_le (p : Nat → Bool) : ∀ k, ct p k ≤ k
  | 0 => Nat.le_refl _
  | k + 1 => by have := ct_le p k; simp only [ct]; split <;> omega
theorem ct_cong {p q : Nat → Bool} : ∀ {k : Nat}, (∀ i, i < k → p i = q i) → ct p k = ct q k
  | 0, _ => rfl
  | k + 1, h => by simp only [ct]; rw [ct_cong (fun i hi => h i (by omega)), h k (by omega)]
theorem ct_cut {p : Nat → Bool} {n : Nat} : ∀ k, n ≤ k → ct (fun i => decide (i < n) && p i) k = ct p n
  | 0, h => by rw [show n = 0 by omega]; rfl
  | k + 1, h => by
    by_cases hk : n ≤ k
    · simp only [ct]
      rw [ct_cut k hk]
      have : decide (k < n) = false := by simp; omega
      simp [this]
    · have : n = k + 1 := by omega
      subst this
      exact ct_cong (fun i hi => by simp [hi])
def popc (b : Nat) : Nat := ct (fun i => b.testBit i) 7
theorem popc_bt (p : Nat → Bool) {n : Nat} (h : n ≤ 7) : popc (bt p n) = ct p n := by
  unfold popc
  rw [show (fun i => (bt p n).testBit i) = (fun i => decide (i < n) && p i) from funext (fun i => bt_test p n i)]
  exact ct_cut 7 h
theorem popc_le (b : Nat) : popc b ≤ 7 := ct_le _ 7
theorem popc_and (p q : Nat → Bool) {n : Nat} (h : n ≤ 7) : popc (bt p n &&& bt q n) = ct (fun i => p i && q i) n := by
  unfold popc
  rw [show (fun i => (bt p n &&& bt q n).testBit i) = (fun i => decide (i < n) && (p i && q i)) from funext (fun i => by
    simp only [Nat.testBit_and, bt_test]
    cases decide (i < n) <;> simp)]
  exact ct_cut 7 h
theorem and_128 {a b : Nat} (h : a < 128) : a &&& b < 128 := Nat.lt_of_le_of_lt Nat.and_le_left h
/-! parts -/
def hrP (y : Nat) (pp : Nat → Nat) : Nat → Nat := fun j => pp j * (100 - y) + (if 0 < j then pp (j - 1) * y else 0)
/-- of 100 parts those by which yes comes out of a word of k; w: whose word is spared -/
def yp (n : Nat) (g : Bool) (F : Nat → Nat → Nat) (S T : Nat → Nat) (w : Option Nat) (k : Nat) : Nat :=
  let sl := if some k = w then 0 else slp F ((mth n g F S T k).getD 0)
  if F 0 k = 1 then 100 - sl else sl
def prt (n : Nat) (g : Bool) (F : Nat → Nat → Nat) (S T : Nat → Nat) (w : Option Nat) : Nat → Nat → Nat
  | 0 => fun j => if j = 0 then 1 else 0
  | k + 1 => if hrd n g F S T k = true then hrP (yp n g F S T w k) (prt n g F S T w k) else prt n g F S T w k
theorem hrP_le {y : Nat} {pp : Nat → Nat} {B : Nat} (hy : y ≤ 100) (h : ∀ j, pp j ≤ B) (j : Nat) : hrP y pp j ≤ B * 100 := by
  unfold hrP
  have h1 : pp j * (100 - y) ≤ B * (100 - y) := Nat.mul_le_mul_right _ (h j)
  have h2 : (if 0 < j then pp (j - 1) * y else 0) ≤ B * y := by
    split
    · exact Nat.mul_le_mul_right _ (h _)
    · omega
  have h3 : B * (100 - y) + B * y = B * 100 := by rw [← Nat.mul_add]; congr 1; omega
  omega
theorem prt_le {n : Nat} {g : Bool} {F : Nat → Nat → Nat} {S T : Nat → Nat} {w : Option Nat} (hy : ∀ k, k < n → hrd n g F S T k = true → yp n g F S T w k ≤ 100) : ∀ k, k ≤ n → ∀ j, prt n g F S T w k j ≤ 100 ^ k
  | 0, _, j => by simp only [prt]; split <;> omega
  | k + 1, hk, j => by
    have ih := prt_le hy k (by omega)
    simp only [prt]
    split
    next hh =>
      rw [Nat.pow_succ]
      exact hrP_le (hy k (by omega) hh) ih j
    next =>
      have := ih j
      rw [Nat.pow_succ]
      omega
theorem hr_step {y k i X : Nat} {pp : Nat → Nat} (hX : X = hrP y pp k) : (if i = k then lN X else lN (if k + 1 ≤ i then hrP y pp i else pp i)) = lN (if k ≤ i then hrP y pp i else pp i) := by
  by_cases hik : i = k
  · subst hik
    rw [if_pos rfl, if_pos (Nat.le_refl _), hX]
  · rw [if_neg hik]
    by_cases h2 : k ≤ i
    · rw [if_pos h2, if_pos (by omega)]
    · rw [if_neg h2, if_neg (by omega)]
