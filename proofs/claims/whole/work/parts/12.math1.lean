/-! more rows: truths as numbers; bits -/
/-- a counter that goes down: one less than k, -1 at the end -/
def dk : Nat → Int32
  | 0 => -1
  | k + 1 => nI k
theorem dk_eq (j : Nat) : nI j + Int32.ofInt (-1) = dk j := by
  cases j with
  | zero => decide +kernel
  | succ j => exact pk_m1 j
section AQ2
variable {d : Nat} {M : am_M} {pc : Nat} {l : List (Option Value)} {st : List Value} {h : am_H} {o : am_O}
theorem q_shl1 {s : Nat} (hd : decode M.2.1 pc = .ok (.ishl, 1)) (hs : s < 31) (k : am_Sem d M (pc + 1) l (.int (nI (2 ^ s)) :: st) h o) : am_Sem d M pc l (.int (nI s) :: .int (nI 1) :: st) h o := q_shl hd (by omega) (by rw [Nat.one_mul]; exact Nat.pow_lt_pow_right (by omega) (by omega)) (by rw [Nat.one_mul]; exact k)
theorem q_i2l {a : Nat} (hd : decode M.2.1 pc = .ok (.i2l, 1)) (ha : a < 2 ^ 31) (k : am_Sem d M (pc + 1) l (.long (lN a) :: st) h o) : am_Sem d M pc l (.int (nI a) :: st) h o := am_x_pu hd rfl (by rw [nI_l ha]; exact k)
theorem q_lmul {a b : Nat} (hd : decode M.2.1 pc = .ok (.lmul, 1)) (k : am_Sem d M (pc + 1) l (.long (lN (a * b)) :: st) h o) : am_Sem d M pc l (.long (lN b) :: .long (lN a) :: st) h o := am_x_pu hd rfl (by rw [lN_mul]; exact k)
theorem q_ladd {a b : Nat} (hd : decode M.2.1 pc = .ok (.ladd, 1)) (k : am_Sem d M (pc + 1) l (.long (lN (a + b)) :: st) h o) : am_Sem d M pc l (.long (lN b) :: .long (lN a) :: st) h o := am_x_pu hd rfl (by rw [lN_add]; exact k)
theorem q_lsub {a b : Nat} (hd : decode M.2.1 pc = .ok (.lsub, 1)) (hb : b ≤ a) (k : am_Sem d M (pc + 1) l (.long (lN (a - b)) :: st) h o) : am_Sem d M pc l (.long (lN b) :: .long (lN a) :: st) h o := am_x_pu hd rfl (by rw [lN_sub hb]; exact k)
theorem q_dk {i j : Nat} (hd : decode M.2.1 pc = .ok (.iinc i (-1), 3)) (hv : l[i]? = some (some (.int (nI j)))) (hn : i < M.2.2.1) (k : am_Sem d M (pc + 3) (am_s1 l i (.int (dk j))) st h o) : am_Sem d M pc l st h o := am_x_iinc hd hv hn (by rw [dk_eq]; exact k)
theorem n_01 {a : Nat} (h : a ≤ 1) : nI a = 0 ∨ nI a = 1 := by
  rcases (show a = 0 ∨ a = 1 by omega) with rfl | rfl
  · exact Or.inl rfl
  · exact Or.inr rfl
theorem q_zrn {a : Nat} {o : am_O} (hd : decode M.2.1 pc = .ok (.ireturn, 1)) (hr : M.2.2.2 = some .boolean) (ha : a ≤ 1) (ho : (some (.int (nI a)), h) = o) : am_Sem d M pc l [.int (nI a)] h o := q_zr hd hr (n_01 ha) ho
theorem p_if_eq {P : Prop} [Decidable P] {off : Int} (tgt : Nat) (hd : decode M.2.1 pc = .ok (.ifCond .eq off, 3)) (ht : (pc : Int) + off = (tgt : Int)) (kt : ¬ P → am_Sem d M tgt l st h o) (kf : P → am_Sem d M (pc + 3) l st h o) : am_Sem d M pc l (.int (nI (if P then 1 else 0)) :: st) h o := by
  by_cases hP : P
  · exact f_if_eq hd ht (by rw [if_pos hP]; exact nI_ne0 (by omega) (by omega)) (kf hP)
  · exact t_if_eq tgt hd ht (by rw [if_neg hP]; rfl) (kt hP)
theorem p_if_ne {P : Prop} [Decidable P] {off : Int} (tgt : Nat) (hd : decode M.2.1 pc = .ok (.ifCond .ne off, 3)) (ht : (pc : Int) + off = (tgt : Int)) (kt : P → am_Sem d M tgt l st h o) (kf : ¬ P → am_Sem d M (pc + 3) l st h o) : am_Sem d M pc l (.int (nI (if P then 1 else 0)) :: st) h o := by
  by_cases hP : P
  · exact t_if_ne tgt hd ht (by rw [if_pos hP]; exact nI_ne0 (by omega) (by omega)) (kt hP)
  · exact f_if_ne hd ht (by rw [if_neg hP]; rfl) (kf hP)
theorem b2_t {P : Prop} [Decidable P] (h : P) : (if P then 1 else 0 : Nat) = 1 := if_pos h
theorem b2_f {P : Prop} [Decidable P] (h : ¬ P) : (if P then 1 else 0 : Nat) = 0 := if_neg h
theorem b2_le {P : Prop} [Decidable P] : (if P then 1 else 0 : Nat) ≤ 1 := by split <;> omega
theorem o_int {a b : Int32} {h : am_H} (e : a = b) : ((some (.int a), h) : am_O) = (some (.int b), h) := by rw [e]
theorem o_nI {a b : Nat} {h : am_H} (e : a = b) : ((some (.int (nI a)), h) : am_O) = (some (.int (nI b)), h) := by rw [e]
end AQ2
/-- the bits of those below k of which p holds -/
def bt (p : Nat → Bool) : Nat → Nat
  | 0 => 0
  | k + 1 => bt p k ||| (if p k then 2 ^ k else 0)
theorem bt_t {p : Nat → Bool} {k : Nat} (h : p k = true) : bt p (k + 1) = bt p k ||| 2 ^ k := by simp [bt, h]
theorem bt_f {p : Nat → Bool} {k : Nat} (h : p k = false) : bt p (k + 1) = bt p k := by simp [bt, h]
theorem bt_f0 {p : Nat → Bool} {k : Nat} (h : p k = false) : bt p (k + 1) = bt p k ||| 0 := by simp [bt, h]
theorem bt_lt (p : Nat → Bool) : ∀ k, bt p k < 2 ^ k
  | 0 => by simp [bt]
  | k + 1 => by
    have ih := bt_lt p k
    have h1 : (if p k then 2 ^ k else 0) < 2 ^ (k + 1) := by split <;> simp [Nat.pow_succ] <;> omega
    exact Nat.or_lt_two_pow (Nat.lt_of_lt_of_le ih (by rw [Nat.pow_succ]; omega)) h1
theorem bt_test (p : Nat → Bool) : ∀ k j, (bt p k).testBit j = (decide (j < k) && p j)
  | 0, j => by simp [bt]
  | k + 1, j => by
    simp only [bt, Nat.testBit_or, bt_test p k j]
    by_cases hj : j = k
    · subst hj
      cases p j <;> simp [Nat.testBit_two_pow_self]
    · have : (if p k then 2 ^ k else 0).testBit j = false := by
        split
        · exact Nat.testBit_two_pow_of_ne (fun z => hj z.symm)
        · simp
      rw [this]
      have e : (decide (j < k + 1)) = decide (j < k) := by
        apply decide_eq_decide.mpr
        omega
      simp [e]
theorem bt_128 (p : Nat → Bool) {k : Nat} (h : k ≤ 7) : bt p k < 128 := Nat.lt_of_lt_of_le (bt_lt p k) (Nat.pow_le_pow_right (by omega) h)
/-! the house as the class holds it: how many members, a ring, items, who sits where -/
def MB (h : am_H) (n : Nat) (g : Bool) (F : Nat → Nat → Nat) : Prop := am_i h 9 0 = nI n ∧ am_i h 9 1 = nI (if g = true then 1 else 0) ∧ n ≤ 7 ∧ (∀ i m, i < 7 → m < n → am_i h 10 (i * 7 + m) = nI (F i m) ∧ F i m ≤ 99) ∧ ∀ m, m < n → F 0 m ≤ 1 ∧ F 3 m ≤ 3 ∧ F 4 m ≤ 7 ∧ F 1 m ≤ 20 ∧ F 5 m ≤ 20
def SB (r a b : Nat) (h : am_H) (n : Nat) (S T : Nat → Nat) : Prop := am_i h r 0 = nI n ∧ n ≤ 7 ∧ (∀ s, s < n → am_i h a s = nI (S s) ∧ S s < n ∧ T (S s) = s) ∧ ∀ m, m < n → am_i h b m = nI (T m) ∧ T m < n ∧ S (T m) = m
