/-! sums of parts -/
theorem nI_oN {j : Nat} {w : Option Nat} (hj : j < 2 ^ 31) (hw : ∀ k, w = some k → k < 2 ^ 31) : nI j = oN w ↔ some j = w := by
  cases w with
  | none => exact ⟨fun z => absurd z (nI_m1 hj), fun z => nomatch z⟩
  | some k => rw [show oN (some k) = nI k from rfl, nI_eq hj (hw k rfl)]; simp
theorem yp_s {n : Nat} {g : Bool} {F : Nat → Nat → Nat} {S T : Nat → Nat} {w : Option Nat} {k : Nat} (hw : some k = w) : yp n g F S T w k = if F 0 k = 1 then 100 else 0 := by
  simp [yp, hw]
theorem yp_o {n : Nat} {g : Bool} {F : Nat → Nat → Nat} {S T : Nat → Nat} {w : Option Nat} {k q : Nat} (hw : ¬ some k = w) (hq : mth n g F S T k = some q) : yp n g F S T w k = if F 0 k = 1 then 100 - slp F q else slp F q := by
  simp [yp, hw, hq]
theorem slp_le {n : Nat} {F : Nat → Nat → Nat} {q : Nat} (hF : ∀ i m, i < 7 → m < n → F i m ≤ 99) (hq : q < n) : slp F q ≤ 99 := by
  unfold slp
  split
  · omega
  · exact hF 2 q (by omega) hq
theorem prt_y {n : Nat} {g : Bool} {F : Nat → Nat → Nat} {S T : Nat → Nat} {w : Option Nat} {k : Nat} (h : hrd n g F S T k = true) : prt n g F S T w (k + 1) = hrP (yp n g F S T w k) (prt n g F S T w k) := by simp [prt, h]
theorem prt_n {n : Nat} {g : Bool} {F : Nat → Nat → Nat} {S T : Nat → Nat} {w : Option Nat} {k : Nat} (h : ¬ hrd n g F S T k = true) : prt n g F S T w (k + 1) = prt n g F S T w k := by simp [prt, h]
/-- a heard one has a mouth -/
theorem hrd_m {n : Nat} {g : Bool} {F : Nat → Nat → Nat} {S T : Nat → Nat} {m : Nat} (h : hrd n g F S T m = true) : ∃ q, mth n g F S T m = some q := by
  cases hq : mth n g F S T m with
  | none => rw [hrd_n hq] at h; cases h
  | some q => exact ⟨q, rfl⟩
/-- the sum of f below k -/
def sm (f : Nat → Nat) : Nat → Nat
  | 0 => 0
  | k + 1 => sm f k + f k
theorem sm_cong {f g : Nat → Nat} : ∀ {k : Nat}, (∀ i, i < k → f i = g i) → sm f k = sm g k
  | 0, _ => rfl
  | k + 1, h => by simp only [sm]; rw [sm_cong (fun i hi => h i (by omega)), h k (by omega)]
theorem sm_add (f g : Nat → Nat) : ∀ k, sm (fun i => f i + g i) k = sm f k + sm g k
  | 0 => rfl
  | k + 1 => by simp only [sm]; rw [sm_add f g k]; omega
theorem sm_mul (f : Nat → Nat) (c : Nat) : ∀ k, sm (fun i => f i * c) k = sm f k * c
  | 0 => by simp [sm]
  | k + 1 => by simp only [sm]; rw [sm_mul f c k, Nat.add_mul]
theorem sm_shift (f : Nat → Nat) : ∀ k, sm (fun i => if 0 < i then f (i - 1) else 0) (k + 1) = sm f k
  | 0 => rfl
  | k + 1 => by
    rw [sm, sm_shift f k]
    simp [sm]
theorem sm_le {f : Nat → Nat} {B : Nat} (h : ∀ i, f i ≤ B) : ∀ k, sm f k ≤ k * B
  | 0 => by simp [sm]
  | k + 1 => by have := sm_le h k; have := h k; simp only [sm, Nat.add_mul]; omega
theorem prt_0 {n : Nat} {g : Bool} {F : Nat → Nat → Nat} {S T : Nat → Nat} {w : Option Nat} : ∀ k j, ct (fun m => hrd n g F S T m) k < j → prt n g F S T w k j = 0
  | 0, j, h => by simp only [prt, ct] at *; rw [if_neg (by omega)]
  | k + 1, j, h => by
    by_cases hh : hrd n g F S T k = true
    · rw [ct_t (p := fun m => hrd n g F S T m) hh] at h
      rw [prt_y hh, hrP, prt_0 k j (by omega), if_pos (by omega), prt_0 k (j - 1) (by omega)]
      simp
    · rw [ct_f (p := fun m => hrd n g F S T m) hh] at h
      rw [prt_n hh]
      exact prt_0 k j h
theorem prt_sum {n : Nat} {g : Bool} {F : Nat → Nat → Nat} {S T : Nat → Nat} {w : Option Nat} (hn : n ≤ 7) (hy : ∀ k, k < n → hrd n g F S T k = true → yp n g F S T w k ≤ 100) : ∀ k, k ≤ n → sm (prt n g F S T w k) 8 = 100 ^ ct (fun m => hrd n g F S T m) k
  | 0, _ => by simp [prt, sm, ct]
  | k + 1, hk => by
    have ih := prt_sum hn hy k (by omega)
    by_cases hh : hrd n g F S T k = true
    · rw [ct_t (p := fun m => hrd n g F S T m) hh, prt_y hh, Nat.pow_succ, ← ih]
      have hy1 := hy k (by omega) hh
      have h7 : prt n g F S T w k 7 = 0 := prt_0 k 7 (by have := ct_le (fun m => hrd n g F S T m) k; omega)
      have e : (hrP (yp n g F S T w k) (prt n g F S T w k)) = fun j => prt n g F S T w k j * (100 - yp n g F S T w k) + (if 0 < j then (fun i => prt n g F S T w k i * yp n g F S T w k) (j - 1) else 0) := rfl
      rw [e, sm_add (fun j => prt n g F S T w k j * (100 - yp n g F S T w k)), sm_mul, sm_shift (fun i => prt n g F S T w k i * yp n g F S T w k) 7, sm_mul]
      have e2 : sm (prt n g F S T w k) 8 = sm (prt n g F S T w k) 7 := by rw [sm, h7]; rfl
      rw [e2, ← Nat.mul_add]
      congr 1
      omega
    · rw [ct_f (p := fun m => hrd n g F S T m) hh, prt_n hh]
      exact ih
/-- of the parts those by which more than half are yes -/
def pas (n : Nat) (g : Bool) (F : Nat → Nat → Nat) (S T : Nat → Nat) (w : Option Nat) (is : Bool) (k : Nat) : Nat := sm (fun j => if decide (ct (fun m => hrd n g F S T m) n < 2 * j) = is then prt n g F S T w n j else 0) k
theorem pas_8 {n : Nat} {g : Bool} {F : Nat → Nat → Nat} {S T : Nat → Nat} {w : Option Nat} {is : Bool} : ∀ k, ct (fun m => hrd n g F S T m) n + 1 ≤ k → pas n g F S T w is k = pas n g F S T w is (ct (fun m => hrd n g F S T m) n + 1)
  | 0, h => by omega
  | k + 1, h => by
    by_cases hk : ct (fun m => hrd n g F S T m) n + 1 = k + 1
    · rw [hk]
    · have ih := pas_8 (n := n) (g := g) (F := F) (S := S) (T := T) (is := is) (w := w) k (by omega)
      rw [← ih]
      simp only [pas, sm]
      rw [prt_0 n k (by omega)]
      split <;> rfl
theorem pas_all {n : Nat} {g : Bool} {F : Nat → Nat → Nat} {S T : Nat → Nat} {w : Option Nat} : ∀ k, pas n g F S T w true k + pas n g F S T w false k = sm (prt n g F S T w n) k
  | 0 => rfl
  | k + 1 => by
    have ih := pas_all (n := n) (g := g) (F := F) (S := S) (T := T) (w := w) k
    simp only [pas, sm] at ih ⊢
    rw [← ih]
    by_cases hc : ct (fun m => hrd n g F S T m) n < 2 * k
    · simp [hc]; omega
    · simp [hc]; omega
theorem in_step {i j X : Nat} {v : Int64} (hX : X = if j = 0 then 1 else 0) (hv : i ≠ j → v = lN (if i = 0 then 1 else 0)) : (if i = j then lN X else v) = lN (if i = 0 then 1 else 0) := by
  by_cases h : i = j
  · subst h
    rw [if_pos rfl, hX]
  · rw [if_neg h]
    exact hv h
