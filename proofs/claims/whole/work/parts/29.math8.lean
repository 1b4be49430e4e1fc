/-! bribes -/
def alB (p : Nat → Bool) : Nat → Bool
  | 0 => true
  | k + 1 => alB p k && p k
theorem alB_iff {p : Nat → Bool} : ∀ {k : Nat}, alB p k = true ↔ ∀ i, i < k → p i = true
  | 0 => by simp [alB]
  | k + 1 => by
    simp only [alB, Bool.and_eq_true, alB_iff (k := k)]
    constructor
    · intro h i hi
      rcases Nat.lt_or_eq_of_le (Nat.le_of_lt_succ hi) with q | q
      · exact h.1 i q
      · rw [q]; exact h.2
    · intro h
      exact ⟨fun i hi => h i (by omega), h k (by omega)⟩
theorem alB_f {p : Nat → Bool} {k j : Nat} (hj : j < k) (h : p j = false) : alB p k = false := by
  cases hq : alB p k with
  | false => rfl
  | true => rw [alB_iff.mp hq j hj] at h; cases h
abbrev cst (n : Nat) (F : Nat → Nat → Nat) (b : Nat) (k : Nat) : Nat := sm (fun m => if b.testBit m = true then F 6 m else 0) k
abbrev can1 (F : Nat → Nat → Nat) (b : Nat) (m : Nat) : Bool := !b.testBit m || (decide (F 3 m ≠ 1) && decide (F 0 m = 0))
abbrev okb (n : Nat) (g : Bool) (F : Nat → Nat → Nat) (S T : Nat → Nat) (b : Nat) : Bool := alB (can1 F b) n && decide (hct n g F S T < 2 * yb n g F S T b)
def bb (n : Nat) (g : Bool) (F : Nat → Nat → Nat) (S T : Nat → Nat) : Nat → Option (Nat × Nat)
  | 0 => none
  | k + 1 => if okb n g F S T k = true then (match bb n g F S T k with
      | none => some (k, cst n F k n)
      | some q => if cst n F k n < q.2 then some (k, cst n F k n) else some q) else bb n g F S T k
theorem bb_o {n : Nat} {g : Bool} {F : Nat → Nat → Nat} {S T : Nat → Nat} {k : Nat} (h : ¬ okb n g F S T k = true) : bb n g F S T (k + 1) = bb n g F S T k := by
  show (if okb n g F S T k = true then _ else _) = _
  rw [if_neg h]
theorem bb_n {n : Nat} {g : Bool} {F : Nat → Nat → Nat} {S T : Nat → Nat} {k : Nat} (h : okb n g F S T k = true) (hq : bb n g F S T k = none) : bb n g F S T (k + 1) = some (k, cst n F k n) := by
  show (if okb n g F S T k = true then _ else _) = _
  rw [if_pos h, hq]
theorem bb_l {n : Nat} {g : Bool} {F : Nat → Nat → Nat} {S T : Nat → Nat} {k : Nat} {q : Nat × Nat} (h : okb n g F S T k = true) (hq : bb n g F S T k = some q) (hl : cst n F k n < q.2) : bb n g F S T (k + 1) = some (k, cst n F k n) := by
  show (if okb n g F S T k = true then _ else _) = _
  rw [if_pos h, hq]
  exact if_pos hl
theorem bb_g {n : Nat} {g : Bool} {F : Nat → Nat → Nat} {S T : Nat → Nat} {k : Nat} {q : Nat × Nat} (h : okb n g F S T k = true) (hq : bb n g F S T k = some q) (hl : ¬ cst n F k n < q.2) : bb n g F S T (k + 1) = some q := by
  show (if okb n g F S T k = true then _ else _) = _
  rw [if_pos h, hq]
  exact if_neg hl
theorem bb_lt {n : Nat} {g : Bool} {F : Nat → Nat → Nat} {S T : Nat → Nat} : ∀ k q, bb n g F S T k = some q → q.1 < k ∧ q.2 = cst n F q.1 n
  | 0, q, h => by simp [bb] at h
  | k + 1, q, h => by
    have ih := bb_lt (n := n) (g := g) (F := F) (S := S) (T := T) k
    by_cases hh : okb n g F S T k = true
    · cases hq : bb n g F S T k with
      | none => rw [bb_n hh hq] at h; cases h; exact ⟨Nat.lt_succ_self k, rfl⟩
      | some p =>
        by_cases hl : cst n F k n < p.2
        · rw [bb_l hh hq hl] at h; cases h; exact ⟨Nat.lt_succ_self k, rfl⟩
        · rw [bb_g hh hq hl] at h; cases h; have := ih _ hq; exact ⟨by omega, this.2⟩
    · rw [bb_o hh] at h; have := ih q h; exact ⟨by omega, this.2⟩
theorem cst_le {n : Nat} {F : Nat → Nat → Nat} {b : Nat} (hF : ∀ i m, i < 7 → m < n → F i m ≤ 99) : ∀ k, k ≤ n → cst n F b k ≤ k * 99
  | 0, _ => by simp [cst, sm]
  | k + 1, h => by
    have ih := cst_le (b := b) hF k (by omega)
    have h6 := hF 6 k (by omega) (by omega)
    simp only [cst, sm] at ih ⊢
    split <;> omega
set_option maxRecDepth 100000 in
theorem and_not : ∀ a, a < 128 → ∀ b, b < 128 → nI a &&& (nI b ^^^ (-1)) = nI (a &&& (127 ^^^ b)) := by decide +kernel
theorem xor_127 {b : Nat} (hb : b < 128) (i : Nat) : (127 ^^^ b).testBit i = (decide (i < 7) && !b.testBit i) := by
  rw [Nat.testBit_xor, show (127 : Nat) = 2 ^ 7 - 1 by decide, Nat.testBit_two_pow_sub_one]
  by_cases hi : i < 7
  · simp [hi]
  · have : b.testBit i = false := Nat.testBit_lt_two_pow (Nat.lt_of_lt_of_le hb (show 2 ^ 7 ≤ 2 ^ i from Nat.pow_le_pow_right (by omega) (by omega)))
    simp [hi, this]
theorem x127_lt {a b : Nat} (ha : a < 128) : a &&& (127 ^^^ b) < 128 := and_128 ha
theorem can_iff {n : Nat} {F : Nat → Nat → Nat} {b : Nat} (hn : n ≤ 7) (h0 : ∀ m, m < n → F 0 m ≤ 1) (hb : b < 2 ^ n) : (b &&& (127 ^^^ (bt (fun m => decide (F 3 m ≠ 1)) n &&& (127 ^^^ bt (fun m => decide (F 0 m = 1)) n))) = 0) ↔ alB (can1 F b) n = true := by
  have l1 := bt_128 (fun m => decide (F 3 m ≠ 1)) hn
  have l2 := bt_128 (fun m => decide (F 0 m = 1)) hn
  have key : ∀ i, (b &&& (127 ^^^ (bt (fun m => decide (F 3 m ≠ 1)) n &&& (127 ^^^ bt (fun m => decide (F 0 m = 1)) n)))).testBit i = (b.testBit i && (decide (i < 7) && !((decide (i < n) && decide (F 3 i ≠ 1)) && (decide (i < 7) && !(decide (i < n) && decide (F 0 i = 1)))))) := by
    intro i
    rw [Nat.testBit_and, xor_127 (and_128 l1), Nat.testBit_and, xor_127 l2, bt_test, bt_test]
  rw [alB_iff]
  constructor
  · intro h i hi
    have hk := key i
    rw [h, Nat.zero_testBit] at hk
    have h7 : i < 7 := by omega
    have := h0 i hi
    simp only [can1, hi, h7, decide_true, Bool.true_and] at hk ⊢
    cases hb : b.testBit i with
    | false => simp
    | true =>
      rw [hb] at hk
      by_cases h3 : F 3 i = 1
      · simp [h3] at hk
      · by_cases h1 : F 0 i = 1
        · simp [h1] at hk
        · have : F 0 i = 0 := by omega
          simp [h3, this]
  · intro h
    apply Nat.eq_of_testBit_eq
    intro i
    rw [key i, Nat.zero_testBit]
    by_cases hi : i < n
    · have hc := h i hi
      have h7 : i < 7 := by omega
      simp only [can1] at hc
      cases hb : b.testBit i with
      | false => simp
      | true =>
        rw [hb] at hc
        simp at hc
        simp [hi, h7, hc.1, hc.2]
    · have : b.testBit i = false := Nat.testBit_lt_two_pow (Nat.lt_of_lt_of_le hb (Nat.pow_le_pow_right (by omega) (by omega)))
      simp [this]
theorem yb_pop {n : Nat} {g : Bool} {F : Nat → Nat → Nat} {S T : Nat → Nat} {b : Nat} (hn : n ≤ 7) : popc (bt (fun m => hrd n g F S T m) n &&& (bt (fun m => decide (F 0 m = 1)) n ||| b)) = yb n g F S T b := by
  unfold popc
  rw [show (fun i => (bt (fun m => hrd n g F S T m) n &&& (bt (fun m => decide (F 0 m = 1)) n ||| b)).testBit i) = (fun i => decide (i < n) && (hrd n g F S T i && (decide (F 0 i = 1) || b.testBit i))) from funext (fun i => by
    simp only [Nat.testBit_and, Nat.testBit_or, bt_test]
    cases decide (i < n) <;> simp)]
  exact ct_cut 7 hn
def bbv : Option (Nat × Nat) → Nat
  | none => 0
  | some q => q.2
theorem p2_128 {n : Nat} (h : n ≤ 7) : 2 ^ n ≤ 128 := Nat.pow_le_pow_right (by omega) h
