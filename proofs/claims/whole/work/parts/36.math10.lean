/-! seatings as permutations -/
theorem rg_ne {x : Int32} {n k : Nat} (hk : k < n) (hn : n < 2 ^ 31) (h : rg x n = none) : ¬ x = nI k := fun e => by
  rw [e, rg_nI hk hn] at h
  cases h
/-- an injective map of n into n reaches all -/
theorem inj_surj : ∀ (n : Nat) (f : Nat → Nat), (∀ i, i < n → f i < n) → (∀ i j, i < n → j < n → f i = f j → i = j) → ∀ s, s < n → ∃ i, i < n ∧ f i = s
  | 0, _, _, _, s, hs => absurd hs (Nat.not_lt_zero s)
  | n + 1, f, hf, hi, s, hs => by
    have hg1 : ∀ i, i < n → (fun i => if f i = n then f n else f i) i < n := by
      intro i hin
      show (if f i = n then f n else f i) < n
      split
      next e =>
        have h1 := hf n (by omega)
        by_cases e2 : f n = n
        · have := hi i n (by omega) (by omega) (by omega)
          omega
        · omega
      next e =>
        have := hf i (by omega)
        omega
    have hg2 : ∀ i j, i < n → j < n → (fun i => if f i = n then f n else f i) i = (fun i => if f i = n then f n else f i) j → i = j := by
      intro i j hin hjn e
      have e : (if f i = n then f n else f i) = (if f j = n then f n else f j) := e
      by_cases e1 : f i = n
      · by_cases e2 : f j = n
        · exact hi i j (by omega) (by omega) (by omega)
        · rw [if_pos e1, if_neg e2] at e
          have := hi n j (by omega) (by omega) e
          omega
      · by_cases e2 : f j = n
        · rw [if_neg e1, if_pos e2] at e
          have := hi i n (by omega) (by omega) e
          omega
        · rw [if_neg e1, if_neg e2] at e
          exact hi i j (by omega) (by omega) e
    by_cases hsn : s = n
    · by_cases hfn : f n = n
      · exact ⟨n, by omega, by omega⟩
      · have h1 := hf n (by omega)
        obtain ⟨i, hin, hie⟩ := inj_surj n _ hg1 hg2 (f n) (by omega)
        have hie : (if f i = n then f n else f i) = f n := hie
        by_cases e1 : f i = n
        · exact ⟨i, by omega, by omega⟩
        · rw [if_neg e1] at hie
          have := hi i n (by omega) (by omega) hie
          omega
    · obtain ⟨i, hin, hie⟩ := inj_surj n _ hg1 hg2 s (by omega)
      have hie : (if f i = n then f n else f i) = s := hie
      by_cases e1 : f i = n
      · rw [if_pos e1] at hie
        exact ⟨n, by omega, hie⟩
      · rw [if_neg e1] at hie
        exact ⟨i, by omega, hie⟩
/-- S and T are each the other's way back, below n -/
def Pm (n : Nat) (S T : Nat → Nat) : Prop := (∀ s, s < n → S s < n ∧ T (S s) = s) ∧ ∀ m, m < n → T m < n ∧ S (T m) = m
theorem SB.pm {r a b n : Nat} {h : am_H} {S T : Nat → Nat} (m : SB r a b h n S T) : Pm n S T := ⟨fun s hs => (m.2.2.1 s hs).2, fun k hk => (m.2.2.2 k hk).2⟩
theorem RB.pm {h : am_H} {n : Nat} {g : Bool} {F : Nat → Nat → Nat} {S T : Nat → Nat} (m : RB h n g F S T) : Pm n S T := ⟨fun s hs => (m.2.2.2.2.2.1 s hs).2, fun k hk => m.2.2.2.2.2.2 k hk⟩
theorem Pm.inj {n : Nat} {S T : Nat → Nat} (p : Pm n S T) {a b : Nat} (ha : a < n) (hb : b < n) (e : S a = S b) : a = b := by
  have h1 := (p.1 a ha).2
  have h2 := (p.1 b hb).2
  rw [← h1, ← h2, e]
/-- where S first has m below k -/
def fs (S : Nat → Nat) : Nat → Nat → Nat
  | 0, _ => 0
  | k + 1, m => if S k = m then k else fs S k m
theorem fs_ok {S : Nat → Nat} {m : Nat} : ∀ k, (∃ s, s < k ∧ S s = m) → fs S k m < k ∧ S (fs S k m) = m
  | 0, h => by obtain ⟨s, hs, _⟩ := h; omega
  | k + 1, h => by
    unfold fs
    by_cases e : S k = m
    · rw [if_pos e]; exact ⟨by omega, e⟩
    · rw [if_neg e]
      obtain ⟨s, hs, hm⟩ := h
      have hsk : s ≠ k := fun z => e (by rw [← z]; exact hm)
      have := fs_ok k ⟨s, by omega, hm⟩
      exact ⟨by omega, this.2⟩
/-- a map of n into n that reaches all has a way back -/
theorem surj_pm {n : Nat} {S : Nat → Nat} (h1 : ∀ s, s < n → S s < n) (h2 : ∀ m, m < n → ∃ s, s < n ∧ S s = m) : Pm n S (fs S n) := by
  have ht : ∀ m, m < n → fs S n m < n ∧ S (fs S n m) = m := fun m hm => fs_ok n (h2 m hm)
  refine ⟨fun s hs => ⟨h1 s hs, ?_⟩, ht⟩
  obtain ⟨m, hm, e⟩ := inj_surj n (fs S n) (fun i hi => (ht i hi).1) (fun i j hi hj e => by rw [← (ht i hi).2, ← (ht j hj).2, e]) s hs
  rw [← e, (ht m hm).2]
theorem inj_pm {n : Nat} {S : Nat → Nat} (h1 : ∀ s, s < n → S s < n) (h2 : ∀ a b, a < n → b < n → S a = S b → a = b) : Pm n S (fs S n) := surj_pm h1 (inj_surj n S h1 h2)
/-- two exchanged -/
def sw (S : Nat → Nat) (a b : Nat) : Nat → Nat := fun s => if s = a then S b else if s = b then S a else S s
def swT (S T : Nat → Nat) (a b : Nat) : Nat → Nat := fun m => if m = S a then b else if m = S b then a else T m
theorem Pm.xc {n : Nat} {S T : Nat → Nat} (p : Pm n S T) {a b : Nat} (ha : a < n) (hb : b < n) : Pm n (sw S a b) (swT S T a b) := by
  have pa := p.1 a ha
  have pb := p.1 b hb
  refine ⟨fun s hs => ?_, fun m hm => ?_⟩
  · have ps := p.1 s hs
    unfold sw swT
    by_cases e1 : s = a
    · subst e1
      rw [if_pos rfl]
      refine ⟨pb.1, ?_⟩
      by_cases e2 : S b = S s
      · rw [if_pos e2]; exact p.inj hb ha e2
      · rw [if_neg e2, if_pos rfl]
    · by_cases e2 : s = b
      · subst e2
        rw [if_neg e1, if_pos rfl, if_pos rfl]
        exact ⟨pa.1, rfl⟩
      · rw [if_neg e1, if_neg e2, if_neg (fun z => e1 (p.inj hs ha z)), if_neg (fun z => e2 (p.inj hs hb z))]
        exact ps
  · have pm := p.2 m hm
    unfold sw swT
    by_cases e1 : m = S a
    · subst e1
      rw [if_pos rfl]
      refine ⟨hb, ?_⟩
      by_cases e2 : b = a
      · rw [if_pos e2, e2]
      · rw [if_neg e2, if_pos rfl]
    · by_cases e2 : m = S b
      · subst e2
        rw [if_neg e1, if_pos rfl, if_pos rfl]
        exact ⟨ha, rfl⟩
      · rw [if_neg e1, if_neg e2]
        have n1 : T m ≠ a := fun z => e1 (by rw [← z]; exact pm.2.symm)
        have n2 : T m ≠ b := fun z => e2 (by rw [← z]; exact pm.2.symm)
        rw [if_neg n1, if_neg n2]
        exact pm
/-- the digit of v at seat s of n -/
def dgs (n v s : Nat) : Nat := v / 10 ^ (n - 1 - s) % 10
theorem dg_div {S : Nat → Nat} (hS : ∀ s, S s < 10) : ∀ k j, dg S (k + j) / 10 ^ j = dg S k
  | k, 0 => by simp
  | k, j + 1 => by
    have ih := dg_div hS k j
    rw [Nat.pow_succ, Nat.mul_comm, ← Nat.div_div_eq_div_mul, ← Nat.add_assoc]
    have : dg S (k + j + 1) / 10 = dg S (k + j) := by
      simp only [dg]
      have := hS (k + j)
      omega
    rw [this, ih]
theorem dg_cong {S S' : Nat → Nat} : ∀ k, (∀ s, s < k → S s = S' s) → dg S k = dg S' k
  | 0, _ => rfl
  | k + 1, h => by simp only [dg]; rw [dg_cong k (fun s hs => h s (by omega)), h k (by omega)]
theorem dgs_dg {S : Nat → Nat} {n s : Nat} (hS : ∀ s, s < n → S s < 10) (hs : s < n) : dgs n (dg S n) s = S s := by
  have e : dg S n = dg (fun i => S i % 10) n := dg_cong n (fun i hi => (Nat.mod_eq_of_lt (hS i hi)).symm)
  unfold dgs
  rw [e]
  have h := dg_div (S := fun i => S i % 10) (fun i => Nat.mod_lt _ (by omega)) (s + 1) (n - 1 - s)
  rw [show s + 1 + (n - 1 - s) = n by omega] at h
  rw [h]
  simp only [dg]
  have := hS s hs
  omega
theorem dg_dgs {n v : Nat} (hv : v < 10 ^ n) : ∀ k, k ≤ n → dg (dgs n v) k = v / 10 ^ (n - k)
  | 0, _ => by simp only [dg, Nat.sub_zero]; rw [Nat.div_eq_of_lt hv]
  | k + 1, hk => by
    have ih := dg_dgs hv k (by omega)
    simp only [dg, dgs]
    rw [ih, show n - 1 - k = n - (k + 1) by omega, show n - k = n - (k + 1) + 1 by omega, Nat.pow_succ, ← Nat.div_div_eq_div_mul]
    omega
theorem dg_dgs' {n v : Nat} (hv : v < 10 ^ n) : dg (dgs n v) n = v := by
  rw [dg_dgs hv n (Nat.le_refl n), Nat.sub_self]
  simp
theorem p10 {k : Nat} (h : k ≤ 7) : 10 ^ k ≤ 10000000 := Nat.pow_le_pow_right (n := 10) (by omega) h
theorem p10_0 (k : Nat) : 0 < 10 ^ k := Nat.pow_pos (by omega)
/-- the bits of the digits of v, the last first -/
def dbt (v : Nat) : Nat → Nat
  | 0 => 0
  | k + 1 => dbt v k ||| 2 ^ (v / 10 ^ k % 10)
theorem dbt_lt (v : Nat) : ∀ k, dbt v k < 1024
  | 0 => by simp [dbt]
  | k + 1 => by
    have ih := dbt_lt v k
    have h1 : 2 ^ (v / 10 ^ k % 10) < 2 ^ 10 := Nat.pow_lt_pow_right (by omega) (Nat.mod_lt _ (by omega))
    exact Nat.or_lt_two_pow (n := 10) ih h1
theorem dbt_test (v : Nat) : ∀ k i, (dbt v k).testBit i = true ↔ ∃ j, j < k ∧ v / 10 ^ j % 10 = i
  | 0, i => by simp [dbt]
  | k + 1, i => by
    simp only [dbt, Nat.testBit_or, Bool.or_eq_true, dbt_test v k i]
    constructor
    · rintro (⟨j, hj, e⟩ | h)
      · exact ⟨j, by omega, e⟩
      · refine ⟨k, by omega, ?_⟩
        by_cases e : v / 10 ^ k % 10 = i
        · exact e
        · rw [Nat.testBit_two_pow_of_ne e] at h; cases h
    · rintro ⟨j, hj, e⟩
      by_cases hjk : j = k
      · subst hjk
        right
        rw [e]
        exact Nat.testBit_two_pow_self
      · exact Or.inl ⟨j, by omega, e⟩
/-- digits that are a seating -/
def isS (n v : Nat) : Prop := n ≠ 0 ∧ v < 10 ^ n ∧ dbt v n = 2 ^ n - 1
theorem isS_pm {n v : Nat} (h : isS n v) : Pm n (dgs n v) (fs (dgs n v) n) := by
  have hb : ∀ i, (∃ j, j < n ∧ v / 10 ^ j % 10 = i) ↔ i < n := by
    intro i
    rw [← dbt_test, h.2.2, Nat.testBit_two_pow_sub_one]
    simp
  refine surj_pm (fun s hs => ?_) (fun m hm => ?_)
  · exact (hb _).mp ⟨n - 1 - s, by omega, rfl⟩
  · obtain ⟨j, hj, e⟩ := (hb m).mpr hm
    refine ⟨n - 1 - j, by omega, ?_⟩
    unfold dgs
    rw [show n - 1 - (n - 1 - j) = j by omega]
    exact e
theorem pm_isS {n : Nat} {S T : Nat → Nat} (h0 : n ≠ 0) (h7 : n ≤ 7) (p : Pm n S T) : isS n (dg S n) := by
  have hlt := dg_lt (S := S) (n := n) (fun s hs => by have := (p.1 s hs).1; omega) n (Nat.le_refl n)
  refine ⟨h0, hlt, ?_⟩
  have hd : ∀ s, s < n → dgs n (dg S n) s = S s := fun s hs => dgs_dg (fun s hs => by have := (p.1 s hs).1; omega) hs
  apply Nat.eq_of_testBit_eq
  intro i
  rw [Nat.testBit_two_pow_sub_one, Bool.eq_iff_iff, dbt_test]
  simp only [decide_eq_true_eq]
  constructor
  · rintro ⟨j, hj, e⟩
    have := hd (n - 1 - j) (by omega)
    unfold dgs at this
    rw [show n - 1 - (n - 1 - j) = j by omega, e] at this
    rw [this]
    exact (p.1 _ (by omega)).1
  · intro hi
    have ⟨h1, h2⟩ := p.2 i hi
    refine ⟨n - 1 - T i, by omega, ?_⟩
    have := hd (T i) h1
    unfold dgs at this
    rw [this, h2]
/-- an item told anew -/
def upF (F : Nat → Nat → Nat) (i m v : Nat) : Nat → Nat → Nat := fun i' m' => if i' = i ∧ m' = m then v else F i' m'
theorem upF_eq {F : Nat → Nat → Nat} {i m v : Nat} : upF F i m v i m = v := if_pos ⟨rfl, rfl⟩
theorem upF_ne {F : Nat → Nat → Nat} {i m v i' m' : Nat} (h : ¬ (i' = i ∧ m' = m)) : upF F i m v i' m' = F i' m' := if_neg h
def most (i : Nat) : Nat := if i = 0 then 1 else if i = 1 then 20 else if i = 2 then 99 else if i = 3 then 3 else if i = 4 then 7 else if i = 5 then 20 else 99
/-- no answers are kept -/
def KF (h : am_H) : Prop := (∀ w, w < 3 → am_i h 26 w = nI 0) ∧ am_i h 29 7 = nI 0
