/-! who turns it -/
theorem lN_neg {a : Nat} (h : a < 2 ^ 62) : (-(lN a)).toInt = -(a : Int) := by
  rw [Int64.toInt_neg, pk_lT (by omega)]
  apply Int.bmod_eq_of_le <;> omega
theorem lN_neg_le {a b : Nat} (ha : a < 2 ^ 62) (hb : b < 2 ^ 62) : -(lN a) ≤ -(lN b) ↔ b ≤ a := by
  rw [Int64.le_iff_toInt_le, lN_neg ha, lN_neg hb]
  omega
abbrev hct (n : Nat) (g : Bool) (F : Nat → Nat → Nat) (S T : Nat → Nat) : Nat := ct (fun m => hrd n g F S T m) n
abbrev yct (n : Nat) (g : Bool) (F : Nat → Nat → Nat) (S T : Nat → Nat) : Nat := ct (fun m => hrd n g F S T m && decide (F 0 m = 1)) n
abbrev due (n : Nat) (g : Bool) (F : Nat → Nat → Nat) (S T : Nat → Nat) : Bool := decide (hct n g F S T < yct n g F S T * 2)
def tn (n : Nat) (g : Bool) (F : Nat → Nat → Nat) (S T : Nat → Nat) : Nat → Option (Nat × Nat)
  | 0 => none
  | k + 1 => if hrd n g F S T k = true then (match tn n g F S T k with
      | none => some (k, pas n g F S T (some k) (due n g F S T) 8)
      | some q => if q.2 < pas n g F S T (some k) (due n g F S T) 8 then some (k, pas n g F S T (some k) (due n g F S T) 8) else some q) else tn n g F S T k
theorem tn_o {n : Nat} {g : Bool} {F : Nat → Nat → Nat} {S T : Nat → Nat} {k : Nat} (h : ¬ hrd n g F S T k = true) : tn n g F S T (k + 1) = tn n g F S T k := by simp [tn, h]
theorem tn_n {n : Nat} {g : Bool} {F : Nat → Nat → Nat} {S T : Nat → Nat} {k : Nat} (h : hrd n g F S T k = true) (hq : tn n g F S T k = none) : tn n g F S T (k + 1) = some (k, pas n g F S T (some k) (due n g F S T) 8) := by simp [tn, h, hq]
theorem tn_l {n : Nat} {g : Bool} {F : Nat → Nat → Nat} {S T : Nat → Nat} {k : Nat} {q : Nat × Nat} (h : hrd n g F S T k = true) (hq : tn n g F S T k = some q) (hl : q.2 < pas n g F S T (some k) (due n g F S T) 8) : tn n g F S T (k + 1) = some (k, pas n g F S T (some k) (due n g F S T) 8) := by simp [tn, h, hq, hl]
theorem tn_g {n : Nat} {g : Bool} {F : Nat → Nat → Nat} {S T : Nat → Nat} {k : Nat} {q : Nat × Nat} (h : hrd n g F S T k = true) (hq : tn n g F S T k = some q) (hl : ¬ q.2 < pas n g F S T (some k) (due n g F S T) 8) : tn n g F S T (k + 1) = some q := by simp [tn, h, hq, hl]
theorem tn_lt {n : Nat} {g : Bool} {F : Nat → Nat → Nat} {S T : Nat → Nat} : ∀ k q, tn n g F S T k = some q → q.1 < k
  | 0, q, h => by simp [tn] at h
  | k + 1, q, h => by
    have ih := tn_lt (n := n) (g := g) (F := F) (S := S) (T := T) k
    by_cases hh : hrd n g F S T k = true
    · cases hq : tn n g F S T k with
      | none => rw [tn_n hh hq] at h; cases h; exact Nat.lt_succ_self k
      | some p =>
        by_cases hl : p.2 < pas n g F S T (some k) (due n g F S T) 8
        · rw [tn_l hh hq hl] at h; cases h; exact Nat.lt_succ_self k
        · rw [tn_g hh hq hl] at h; cases h; have := ih _ hq; omega
    · rw [tn_o hh] at h; have := ih q h; omega
theorem yp_le {n : Nat} {g : Bool} {F : Nat → Nat → Nat} {S T : Nat → Nat} {w : Option Nat} (hF : ∀ i m, i < 7 → m < n → F i m ≤ 99) (hS : ∀ s, s < n → S s < n) (hT : ∀ m, m < n → T m < n) : ∀ k, k < n → hrd n g F S T k = true → yp n g F S T w k ≤ 100 := by
  intro k hk hh
  obtain ⟨q, hq⟩ := hrd_m hh
  have hqn := mth_lt hS hT hk hq
  have := slp_le hF hqn
  by_cases hw : some k = w
  · rw [yp_s hw]; split <;> omega
  · rw [yp_o hw hq]; split <;> omega
theorem pas_sum {n : Nat} {g : Bool} {F : Nat → Nat → Nat} {S T : Nat → Nat} {w : Option Nat} (hn : n ≤ 7) (hF : ∀ i m, i < 7 → m < n → F i m ≤ 99) (hS : ∀ s, s < n → S s < n) (hT : ∀ m, m < n → T m < n) : pas n g F S T w true 8 + pas n g F S T w false 8 = 100 ^ hct n g F S T := by
  rw [pas_all, prt_sum hn (yp_le hF hS hT) n (Nat.le_refl _)]
theorem hct_big {n : Nat} {g : Bool} {F : Nat → Nat → Nat} {S T : Nat → Nat} (hn : n ≤ 7) : 100 ^ hct n g F S T ≤ 100000000000000 := by
  have h1 : hct n g F S T ≤ n := ct_le _ n
  calc 100 ^ hct n g F S T ≤ 100 ^ 7 := Nat.pow_le_pow_right (by omega) (by omega)
    _ = 100000000000000 := by decide
theorem pas_le {n : Nat} {g : Bool} {F : Nat → Nat → Nat} {S T : Nat → Nat} {w : Option Nat} {is : Bool} (hn : n ≤ 7) (hF : ∀ i m, i < 7 → m < n → F i m ≤ 99) (hS : ∀ s, s < n → S s < n) (hT : ∀ m, m < n → T m < n) : pas n g F S T w is 8 ≤ 100 ^ hct n g F S T := by
  have h := pas_sum (w := w) (g := g) hn hF hS hT
  cases is <;> omega
/-- what the class holds of it: the parts that agree, or less than none -/
def ag (n : Nat) (g : Bool) (F : Nat → Nat → Nat) (S T : Nat → Nat) (c : Nat) : Int64 := if due n g F S T = true then lN c else -(lN (100 ^ hct n g F S T - c))
theorem ag_le {n : Nat} {g : Bool} {F : Nat → Nat → Nat} {S T : Nat → Nat} {a c : Nat} (hn : n ≤ 7) (ha : a ≤ 100 ^ hct n g F S T) (hc : c ≤ 100 ^ hct n g F S T) : ag n g F S T a ≤ ag n g F S T c ↔ a ≤ c := by
  have hb := hct_big (n := n) (g := g) (F := F) (S := S) (T := T) hn
  unfold ag
  by_cases hd : due n g F S T = true
  · rw [if_pos hd, if_pos hd]
    exact pk_lLE (by omega) (by omega)
  · rw [if_neg hd, if_neg hd, lN_neg_le (by omega) (by omega)]
    omega
def agm (n : Nat) (g : Bool) (F : Nat → Nat → Nat) (S T : Nat → Nat) : Option (Nat × Nat) → Int64
  | none => lN 0
  | some q => ag n g F S T q.2
theorem bt_bit {p : Nat → Bool} {n j : Nat} (hj : j < n) : bt p n / 2 ^ j &&& 1 = if p j = true then 1 else 0 := by
  rw [bit_and, bt_test]
  simp [hj]
