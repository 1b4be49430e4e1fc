/-! by one mouth one word -/
theorem mo_char {n : Nat} {g : Bool} {F : Nat → Nat → Nat} {S : Nat → Nat} {t0 : Nat} (h0 : t0 < n) : ∀ k i0 s q, i0 + k < n → s < n → St n g t0 i0 s → (∀ j t, 1 ≤ j → j ≤ i0 → St n g t0 j t → F 3 (S t) = 1) → mo n g F S k s = some q → ∃ i t, i0 < i ∧ i ≤ i0 + k ∧ St n g t0 i t ∧ t < n ∧ S t = q ∧ F 3 q ≠ 1 ∧ ∀ j t', 1 ≤ j → j < i → St n g t0 j t' → F 3 (S t') = 1
  | 0, i0, s, q, _, _, _, _, h => by simp [mo] at h
  | k + 1, i0, s, q, hk, hs, hst, hd, h => by
    cases hl : lf n g s with
    | none => rw [mo_n hl] at h; cases h
    | some t =>
      have ht := lf_lt hs hl
      have hst2 := St_next h0 (by omega) hst hl
      by_cases hy : F 3 (S t) ≠ 1
      · rw [mo_y hl hy] at h
        cases h
        exact ⟨i0 + 1, t, by omega, by omega, hst2, ht, rfl, hy, fun j t' h1 h2 h3 => hd j t' h1 (by omega) h3⟩
      · rw [mo_o hl hy] at h
        have huniq : ∀ t', St n g t0 (i0 + 1) t' → t' = t := by
          intro t' h'
          rcases h' with ⟨a1, a2⟩ | ⟨a1, a2, a3⟩ <;> rcases hst2 with ⟨b1, b2⟩ | ⟨b1, b2, b3⟩ <;> omega
        obtain ⟨i, t2, r1, r2, r3⟩ := mo_char h0 k (i0 + 1) t q (by omega) ht hst2 (fun j t' h1 h2 h3 => by
          by_cases e : j = i0 + 1
          · subst e
            rw [huniq t' h3]
            simp at hy
            exact hy
          · exact hd j t' h1 (by omega) h3) h
        exact ⟨i, t2, by omega, by omega, r3⟩
theorem mth_char {n : Nat} {g : Bool} {F : Nat → Nat → Nat} {S T : Nat → Nat} {m q : Nat} (p : Pm n S T) (hm : m < n) (h : mth n g F S T m = some q) : F 3 m ≠ 1 ∧ ∃ i t, 0 < i ∧ i < n ∧ St n g (T m) i t ∧ t < n ∧ S t = q ∧ F 3 q ≠ 1 ∧ ∀ j t', 1 ≤ j → j < i → St n g (T m) j t' → F 3 (S t') = 1 := by
  by_cases hy : F 3 m ≠ 1
  · refine ⟨hy, ?_⟩
    rw [mth_y hy] at h
    have hT := (p.2 m hm).1
    obtain ⟨i, t, r1, r2, r3⟩ := mo_char hT (n - 1) 0 (T m) q (by omega) hT (Or.inl ⟨by omega, by omega⟩) (fun j t h1 h2 _ => by omega) h
    exact ⟨i, t, r1, by omega, r3⟩
  · rw [mth_n hy] at h; cases h
theorem mth_inj {n : Nat} {g : Bool} {F : Nat → Nat → Nat} {S T : Nat → Nat} {m1 m2 q : Nat} (p : Pm n S T) (h1 : m1 < n) (h2 : m2 < n) (e1 : mth n g F S T m1 = some q) (e2 : mth n g F S T m2 = some q) : m1 = m2 := by
  obtain ⟨l1, i1, t1, a1, a2, a3, a4, a5, a6, a7⟩ := mth_char p h1 e1
  obtain ⟨l2, i2, t2, b1, b2, b3, b4, b5, b6, b7⟩ := mth_char p h2 e2
  have p1 := p.2 m1 h1
  have p2 := p.2 m2 h2
  have et : t1 = t2 := p.inj a4 b4 (by rw [a5, b5])
  subst et
  rcases Nat.lt_trichotomy i1 i2 with hlt | heq | hgt
  · exfalso
    have hj : St n g (T m2) (i2 - i1) (T m1) := by
      rcases a3 with ⟨c1, c2⟩ | ⟨c1, c2, c3⟩ <;> rcases b3 with ⟨d1, d2⟩ | ⟨d1, d2, d3⟩
      · exact Or.inl ⟨by omega, by omega⟩
      · exact Or.inr ⟨d1, by omega, by omega⟩
      · exfalso; omega
      · exact Or.inl ⟨by omega, by omega⟩
    have := b7 (i2 - i1) (T m1) (by omega) (by omega) hj
    rw [p1.2] at this
    exact l1 this
  · subst heq
    have : T m1 = T m2 := by
      rcases a3 with ⟨c1, c2⟩ | ⟨c1, c2, c3⟩ <;> rcases b3 with ⟨d1, d2⟩ | ⟨d1, d2, d3⟩ <;> omega
    rw [← p1.2, ← p2.2, this]
  · exfalso
    have hj : St n g (T m1) (i1 - i2) (T m2) := by
      rcases a3 with ⟨c1, c2⟩ | ⟨c1, c2, c3⟩ <;> rcases b3 with ⟨d1, d2⟩ | ⟨d1, d2, d3⟩
      · exact Or.inl ⟨by omega, by omega⟩
      · exfalso; omega
      · exact Or.inr ⟨c1, by omega, by omega⟩
      · exact Or.inl ⟨by omega, by omega⟩
    have := a7 (i1 - i2) (T m2) (by omega) (by omega) hj
    rw [p2.2] at this
    exact l2 this
/-- the last below k of which p holds -/
def spo (p : Nat → Bool) : Nat → Option Nat
  | 0 => none
  | k + 1 => if p k = true then some k else spo p k
theorem spo_t {p : Nat → Bool} {k : Nat} (h : p k = true) : spo p (k + 1) = some k := by simp [spo, h]
theorem spo_f {p : Nat → Bool} {k : Nat} (h : ¬ p k = true) : spo p (k + 1) = spo p k := by simp [spo, h]
theorem spo_some {p : Nat → Bool} : ∀ {k m : Nat}, spo p k = some m → m < k ∧ p m = true
  | 0, m, h => by simp [spo] at h
  | k + 1, m, h => by
    by_cases hp : p k = true
    · rw [spo_t hp] at h; cases h; exact ⟨by omega, hp⟩
    · rw [spo_f hp] at h; have := spo_some h; exact ⟨by omega, this.2⟩
theorem spo_none {p : Nat → Bool} : ∀ {k : Nat}, (∀ m, m < k → ¬ p m = true) → spo p k = none
  | 0, _ => rfl
  | k + 1, h => by rw [spo_f (h k (by omega))]; exact spo_none (fun m hm => h m (by omega))
theorem spo_uniq {p : Nat → Bool} {m : Nat} (hp : p m = true) : ∀ {k : Nat}, m < k → (∀ j, j < k → p j = true → j = m) → spo p k = some m
  | 0, h, _ => by omega
  | k + 1, h, hu => by
    by_cases hk : p k = true
    · rw [spo_t hk, hu k (by omega) hk]
    · rw [spo_f hk]
      have : m ≠ k := fun z => hk (z ▸ hp)
      exact spo_uniq hp (by omega) (fun j hj => hu j (by omega))
theorem spo_cong {p q : Nat → Bool} : ∀ {k : Nat}, (∀ m, m < k → p m = q m) → spo p k = spo q k
  | 0, _ => rfl
  | k + 1, h => by simp only [spo]; rw [h k (by omega), spo_cong (fun m hm => h m (by omega))]
def spp (n : Nat) (g : Bool) (F : Nat → Nat → Nat) (S T : Nat → Nat) (s m : Nat) : Bool := hrd n g F S T m && decide (mth n g F S T m = some (S s))
def spk (n : Nat) (g : Bool) (F : Nat → Nat → Nat) (S T : Nat → Nat) (s : Nat) : Option Nat := spo (spp n g F S T s) n
theorem spk_lt {n : Nat} {g : Bool} {F : Nat → Nat → Nat} {S T : Nat → Nat} {s m : Nat} (h : spk n g F S T s = some m) : m < n := (spo_some h).1
theorem spk_of {n : Nat} {g : Bool} {F : Nat → Nat → Nat} {S T : Nat → Nat} {s m : Nat} (p : Pm n S T) (hm : m < n) (h : spp n g F S T s m = true) : spk n g F S T s = some m := by
  refine spo_uniq h hm (fun j hj hpj => ?_)
  simp only [spp, Bool.and_eq_true, decide_eq_true_eq] at h hpj
  exact mth_inj p hj hm hpj.2 h.2
/-! votes that fit what is known -/
def agp (n : Nat) (g : Bool) (F : Nat → Nat → Nat) (S T : Nat → Nat) (ks : Nat → Nat) (ky : Nat → Bool) (v k : Nat) : Bool := match spk n g F S T (ks k) with
  | none => false
  | some m => v.testBit m == ky k
def agr (n : Nat) (g : Bool) (F : Nat → Nat → Nat) (S T : Nat → Nat) (kn : Nat) (ks : Nat → Nat) (ky : Nat → Bool) (v : Nat) : Bool := alB (agp n g F S T ks ky v) kn
theorem agp_n {n : Nat} {g : Bool} {F : Nat → Nat → Nat} {S T : Nat → Nat} {ks : Nat → Nat} {ky : Nat → Bool} {v k : Nat} (h : spk n g F S T (ks k) = none) : agp n g F S T ks ky v k = false := by simp [agp, h]
theorem agp_s {n : Nat} {g : Bool} {F : Nat → Nat → Nat} {S T : Nat → Nat} {ks : Nat → Nat} {ky : Nat → Bool} {v k m : Nat} (h : spk n g F S T (ks k) = some m) : agp n g F S T ks ky v k = (v.testBit m == ky k) := by simp [agp, h]
/-- the bits of those who must have said y -/
def mus (n : Nat) (g : Bool) (F : Nat → Nat → Nat) (S T : Nat → Nat) (ks : Nat → Nat) (ky : Nat → Bool) (y : Bool) : Nat → Nat
  | 0 => 0
  | k + 1 => mus n g F S T ks ky y k ||| (if ky k = y then 2 ^ ((spk n g F S T (ks k)).getD 0) else 0)
theorem mus_lt {n : Nat} {g : Bool} {F : Nat → Nat → Nat} {S T : Nat → Nat} {ks : Nat → Nat} {ky : Nat → Bool} {y : Bool} : ∀ k, (∀ i, i < k → (spk n g F S T (ks i)).isSome = true) → mus n g F S T ks ky y k < 2 ^ n
  | 0, _ => Nat.pow_pos (by omega)
  | k + 1, h => by
    have ih := mus_lt (ky := ky) (y := y) k (fun i hi => h i (by omega))
    have hk := h k (by omega)
    cases hq : spk n g F S T (ks k) with
    | none => rw [hq] at hk; cases hk
    | some m =>
      have hm := spk_lt hq
      have h1 : (if ky k = y then 2 ^ ((some m).getD 0) else 0) < 2 ^ n := by
        split
        · exact Nat.pow_lt_pow_right (by omega) hm
        · exact Nat.pow_pos (by omega)
      simp only [mus, hq]
      exact Nat.or_lt_two_pow ih h1
theorem mus_test {n : Nat} {g : Bool} {F : Nat → Nat → Nat} {S T : Nat → Nat} {ks : Nat → Nat} {ky : Nat → Bool} {y : Bool} : ∀ k, (∀ i, i < k → (spk n g F S T (ks i)).isSome = true) → ∀ b, (mus n g F S T ks ky y k).testBit b = true ↔ ∃ i, i < k ∧ spk n g F S T (ks i) = some b ∧ ky i = y
  | 0, _, b => by simp [mus]
  | k + 1, h, b => by
    have ih := mus_test (ky := ky) (y := y) k (fun i hi => h i (by omega)) b
    have hk := h k (by omega)
    cases hq : spk n g F S T (ks k) with
    | none => rw [hq] at hk; cases hk
    | some m =>
      simp only [mus, hq, Option.getD_some, Nat.testBit_or, Bool.or_eq_true, ih]
      constructor
      · rintro (⟨i, hi, e⟩ | e)
        · exact ⟨i, by omega, e⟩
        · by_cases hy : ky k = y
          · rw [if_pos hy] at e
            by_cases em : m = b
            · exact ⟨k, by omega, by rw [hq, em], hy⟩
            · rw [Nat.testBit_two_pow_of_ne em] at e; cases e
          · rw [if_neg hy] at e; simp at e
      · rintro ⟨i, hi, e1, e2⟩
        by_cases ek : i = k
        · subst ek
          right
          rw [hq] at e1
          cases e1
          rw [if_pos e2]
          exact Nat.testBit_two_pow_self
        · exact Or.inl ⟨i, by omega, e1, e2⟩
/-- whether v says yes for a and no for b, below n -/
def fitb (a b v n : Nat) : Bool := alB (fun i => (!a.testBit i || v.testBit i) && (!b.testBit i || !v.testBit i)) n
theorem lt_bit {a n i : Nat} (h : a < 2 ^ n) (hi : n ≤ i) : a.testBit i = false := Nat.testBit_lt_two_pow (Nat.lt_of_lt_of_le h (Nat.pow_le_pow_right (by omega) hi))
theorem fitb_iff {a b v n : Nat} (ha : a < 2 ^ n) (hb : b < 2 ^ n) : fitb a b v n = true ↔ (v &&& a = a ∧ v &&& b = 0) := by
  unfold fitb
  rw [alB_iff]
  constructor
  · intro h
    constructor
    · apply Nat.eq_of_testBit_eq
      intro i
      rw [Nat.testBit_and]
      by_cases hi : i < n
      · have := h i hi
        revert this
        cases a.testBit i <;> cases v.testBit i <;> simp
      · rw [lt_bit ha (by omega)]; simp
    · apply Nat.eq_of_testBit_eq
      intro i
      rw [Nat.testBit_and, Nat.zero_testBit]
      by_cases hi : i < n
      · have := h i hi
        revert this
        cases b.testBit i <;> cases v.testBit i <;> simp
      · rw [lt_bit hb (by omega)]; simp
  · rintro ⟨h1, h2⟩ i hi
    have e1 := congrArg (fun z => z.testBit i) h1
    have e2 := congrArg (fun z => z.testBit i) h2
    simp only [Nat.testBit_and, Nat.zero_testBit] at e1 e2
    revert e1 e2
    cases a.testBit i <;> cases b.testBit i <;> cases v.testBit i <;> simp
theorem agr_fit {n : Nat} {g : Bool} {F : Nat → Nat → Nat} {S T : Nat → Nat} {kn : Nat} {ks : Nat → Nat} {ky : Nat → Bool} {v : Nat} (h : ∀ i, i < kn → (spk n g F S T (ks i)).isSome = true) : agr n g F S T kn ks ky v = fitb (mus n g F S T ks ky true kn) (mus n g F S T ks ky false kn) v n := by
  rw [Bool.eq_iff_iff]
  unfold agr fitb
  rw [alB_iff, alB_iff]
  constructor
  · intro ha i hi
    have t1 := mus_test (ky := ky) (y := true) kn h i
    have t2 := mus_test (ky := ky) (y := false) kn h i
    by_cases c1 : (mus n g F S T ks ky true kn).testBit i = true
    · obtain ⟨k, hk, e1, e2⟩ := t1.mp c1
      have hp := ha k hk
      rw [agp_s e1, e2] at hp
      have hv : v.testBit i = true := by simpa using hp
      by_cases c2 : (mus n g F S T ks ky false kn).testBit i = true
      · obtain ⟨k2, hk2, d1, d2⟩ := t2.mp c2
        have hp2 := ha k2 hk2
        rw [agp_s d1, d2, hv] at hp2
        simp at hp2
      · simp [c1, c2, hv]
    · by_cases c2 : (mus n g F S T ks ky false kn).testBit i = true
      · obtain ⟨k2, hk2, d1, d2⟩ := t2.mp c2
        have hp2 := ha k2 hk2
        rw [agp_s d1, d2] at hp2
        have hv : v.testBit i = false := by simpa using hp2
        simp [c1, c2, hv]
      · simp [c1, c2]
  · intro ha k hk
    cases hq : spk n g F S T (ks k) with
    | none => have := h k hk; rw [hq] at this; cases this
    | some m =>
      rw [agp_s hq]
      have hm := ha m (spk_lt hq)
      cases hy : ky k with
      | true =>
        have := (mus_test (ky := ky) (y := true) kn h m).mpr ⟨k, hk, hq, hy⟩
        rw [this] at hm
        simp at hm
        simp [hm.1]
      | false =>
        have := (mus_test (ky := ky) (y := false) kn h m).mpr ⟨k, hk, hq, hy⟩
        rw [this] at hm
        simp at hm
        simp [hm.2]
theorem agr_no {n : Nat} {g : Bool} {F : Nat → Nat → Nat} {S T : Nat → Nat} {kn : Nat} {ks : Nat → Nat} {ky : Nat → Bool} {v i : Nat} (hi : i < kn) (h : spk n g F S T (ks i) = none) : agr n g F S T kn ks ky v = false := alB_f hi (agp_n h)
theorem fit_no {a b v n : Nat} (ha : a < 2 ^ n) (hb : b < 2 ^ n) (h : a &&& b ≠ 0) : fitb a b v n = false := by
  cases hq : fitb a b v n with
  | false => rfl
  | true =>
    exfalso
    apply h
    have ⟨h1, h2⟩ := (fitb_iff ha hb).mp hq
    rw [← h1, Nat.and_assoc, Nat.and_comm a b, ← Nat.and_assoc, h2, Nat.zero_and]
theorem alB_sh {p : Nat → Bool} : ∀ k, alB p (k + 1) = (p 0 && alB (fun i => p (i + 1)) k)
  | 0 => by simp [alB]
  | k + 1 => by
    have ih := alB_sh (p := p) k
    rw [alB, ih, alB, Bool.and_assoc]
theorem ct_sh {p : Nat → Bool} : ∀ k, ct p (k + 1) = (if p 0 = true then 1 else 0) + ct (fun i => p (i + 1)) k
  | 0 => by simp [ct]
  | k + 1 => by
    have ih := ct_sh (p := p) k
    rw [ct, ih, ct, Nat.add_assoc]
theorem ct_2 {p : Nat → Bool} : ∀ N, ct p (2 * N) = ct (fun w => p (2 * w)) N + ct (fun w => p (2 * w + 1)) N
  | 0 => rfl
  | N + 1 => by
    have ih := ct_2 (p := p) N
    rw [show 2 * (N + 1) = 2 * N + 1 + 1 by omega]
    simp only [ct]
    rw [ih]
    omega
theorem ct_and (p : Nat → Bool) (c : Bool) (N : Nat) : ct (fun w => c && p w) N = if c = true then ct p N else 0 := by
  cases c
  · simp only [Bool.false_and]
    induction N with
    | zero => rfl
    | succ N ih => simp only [ct]; simp at ih ⊢; exact ih
  · simp
theorem fit_ct : ∀ (n a b : Nat), a < 2 ^ n → b < 2 ^ n → a &&& b = 0 → ct (fun v => fitb a b v n) (2 ^ n) = 2 ^ (n - ct (fun i => (a ||| b).testBit i) n)
  | 0, a, b, _, _, _ => by simp [ct, fitb, alB]
  | n + 1, a, b, ha, hb, hab => by
    have ih := fit_ct n (a / 2) (b / 2) (by rw [Nat.pow_succ] at ha; omega) (by rw [Nat.pow_succ] at hb; omega) (by rw [← Nat.and_div_two, hab])
    have hbit : a.testBit 0 = true → b.testBit 0 = false := by
      intro h1
      have := congrArg (fun z => z.testBit 0) hab
      simp only [Nat.testBit_and, h1, Nat.zero_testBit, Bool.true_and] at this
      exact this
    have e1 : ∀ w, fitb a b (2 * w) (n + 1) = (!a.testBit 0 && fitb (a / 2) (b / 2) w n) := by
      intro w
      unfold fitb
      rw [alB_sh]
      congr 1
      · have : (2 * w).testBit 0 = false := by simp [Nat.testBit_zero]
        rw [this]
        simp
      · congr 1
        funext i
        rw [Nat.testBit_succ, Nat.testBit_succ, Nat.testBit_succ, show 2 * w / 2 = w by omega]
    have e2 : ∀ w, fitb a b (2 * w + 1) (n + 1) = (!b.testBit 0 && fitb (a / 2) (b / 2) w n) := by
      intro w
      unfold fitb
      rw [alB_sh]
      congr 1
      · have : (2 * w + 1).testBit 0 = true := by simp [Nat.testBit_zero]
        rw [this]
        simp
      · congr 1
        funext i
        rw [Nat.testBit_succ, Nat.testBit_succ, Nat.testBit_succ, show (2 * w + 1) / 2 = w by omega]
    have hle : ct (fun i => (a / 2 ||| b / 2).testBit i) n ≤ n := ct_le _ n
    rw [Nat.pow_succ, Nat.mul_comm, ct_2]
    simp only [e1, e2]
    rw [ct_and, ct_and, ih, ct_sh]
    have e3 : (fun i => (a ||| b).testBit (i + 1)) = fun i => (a / 2 ||| b / 2).testBit i := by
      funext i
      rw [Nat.testBit_succ, Nat.or_div_two]
    rw [e3, Nat.testBit_or]
    cases h1 : a.testBit 0 with
    | true =>
      rw [hbit h1]
      simp
      congr 1
      omega
    | false =>
      cases h2 : b.testBit 0 with
      | true =>
        simp
        congr 1
        omega
      | false =>
        simp only [Nat.testBit_or] at hle
        simp
        rw [show n + 1 - ct (fun i => (a / 2).testBit i || (b / 2).testBit i) n = n - ct (fun i => (a / 2).testBit i || (b / 2).testBit i) n + 1 by omega, Nat.pow_succ]
        omega
/-- the way of the class: who must have said yes, and no -/
abbrev mY (n : Nat) (g : Bool) (F : Nat → Nat → Nat) (S T : Nat → Nat) (kn : Nat) (ks : Nat → Nat) (ky : Nat → Bool) : Nat := mus n g F S T ks ky true kn
abbrev mN (n : Nat) (g : Bool) (F : Nat → Nat → Nat) (S T : Nat → Nat) (kn : Nat) (ks : Nat → Nat) (ky : Nat → Bool) : Nat := mus n g F S T ks ky false kn
def spB (n : Nat) (g : Bool) (F : Nat → Nat → Nat) (S T : Nat → Nat) (ks : Nat → Nat) (k : Nat) : Bool := (spk n g F S T (ks k)).isSome
/-- whether anything can fit -/
def cF (n : Nat) (g : Bool) (F : Nat → Nat → Nat) (S T : Nat → Nat) (kn : Nat) (ks : Nat → Nat) (ky : Nat → Bool) : Bool := alB (spB n g F S T ks) kn && decide (mY n g F S T kn ks ky &&& mN n g F S T kn ks ky = 0)
theorem cF_no {n : Nat} {g : Bool} {F : Nat → Nat → Nat} {S T : Nat → Nat} {kn : Nat} {ks : Nat → Nat} {ky : Nat → Bool} (h : ¬ cF n g F S T kn ks ky = true) (v : Nat) : agr n g F S T kn ks ky v = false := by
  by_cases h1 : alB (spB n g F S T ks) kn = true
  · have h2 := alB_iff.mp h1
    have h3 : mY n g F S T kn ks ky &&& mN n g F S T kn ks ky ≠ 0 := by
      intro z
      apply h
      unfold cF
      rw [h1, decide_eq_true z]
      rfl
    rw [agr_fit h2]
    exact fit_no (mus_lt kn h2) (mus_lt kn h2) h3
  · by_cases h2 : ∃ i, i < kn ∧ spk n g F S T (ks i) = none
    · obtain ⟨i, hi, e⟩ := h2
      exact agr_no hi e
    · exfalso
      apply h1
      refine alB_iff.mpr (fun i hi => ?_)
      unfold spB
      cases hq : spk n g F S T (ks i) with
      | none => exact absurd ⟨i, hi, hq⟩ h2
      | some m => rfl
theorem cF_yes {n : Nat} {g : Bool} {F : Nat → Nat → Nat} {S T : Nat → Nat} {kn : Nat} {ks : Nat → Nat} {ky : Nat → Bool} (h : cF n g F S T kn ks ky = true) : mY n g F S T kn ks ky < 2 ^ n ∧ mN n g F S T kn ks ky < 2 ^ n ∧ mY n g F S T kn ks ky &&& mN n g F S T kn ks ky = 0 ∧ ∀ v, agr n g F S T kn ks ky v = fitb (mY n g F S T kn ks ky) (mN n g F S T kn ks ky) v n := by
  unfold cF at h
  simp only [Bool.and_eq_true, decide_eq_true_eq] at h
  have h2 := alB_iff.mp h.1
  exact ⟨mus_lt kn h2, mus_lt kn h2, h.2, fun v => agr_fit h2⟩
/-- the i-th that fits, x as it is asked -/
def ftp (p : Nat → Bool) (x : Int32) (r : Nat) : Bool := p r && decide (nI (ct p r) = x)
theorem ct_mono {p : Nat → Bool} {a b : Nat} (h : a ≤ b) : ct p a ≤ ct p b := by
  induction b with
  | zero => rw [show a = 0 by omega]; exact Nat.le_refl _
  | succ b ih =>
    by_cases e : a = b + 1
    · rw [e]; exact Nat.le_refl _
    · have := ih (by omega)
      simp only [ct]
      split <;> omega
theorem ftp_uniq {p : Nat → Bool} {x : Int32} {j N : Nat} (hN : N < 2 ^ 31) (hj : j < N) (h : ftp p x j = true) : spo (ftp p x) N = some j := by
  refine spo_uniq h hj (fun i hi hp => ?_)
  simp only [ftp, Bool.and_eq_true, decide_eq_true_eq] at h hp
  have li := ct_le p i
  have lj := ct_le p j
  have e : ct p i = ct p j := (nI_eq (by omega) (by omega)).mp (hp.2.trans h.2.symm)
  rcases Nat.lt_trichotomy i j with hlt | heq | hgt
  · have h1 := ct_mono (p := p) (a := i + 1) (b := j) (by omega)
    rw [ct_t hp.1] at h1
    omega
  · exact heq
  · have h1 := ct_mono (p := p) (a := j + 1) (b := i) (by omega)
    rw [ct_t h.1] at h1
    omega
/-- what all that fit have in common -/
def sfo (p : Nat → Bool) (y : Bool) (n : Nat) : Nat → Nat
  | 0 => 2 ^ n - 1
  | k + 1 => if p k = true then sfo p y n k &&& (if y = true then k else 127 ^^^ k) else sfo p y n k
theorem sfo_lt {p : Nat → Bool} {y : Bool} {n : Nat} (hn : n ≤ 7) : ∀ k, sfo p y n k < 128
  | 0 => by have := p2_128 hn; simp only [sfo]; omega
  | k + 1 => by
    have ih := sfo_lt (p := p) (y := y) hn k
    simp only [sfo]
    split
    · exact and_128 ih
    · exact ih
theorem sfo_test {p : Nat → Bool} {y : Bool} {n : Nat} (hn : n ≤ 7) : ∀ k, k ≤ 128 → ∀ i, (sfo p y n k).testBit i = true ↔ i < n ∧ ∀ v, v < k → p v = true → v.testBit i = y
  | 0, _, i => by simp [sfo, Nat.testBit_two_pow_sub_one]
  | k + 1, hk, i => by
    have ih := sfo_test (p := p) (y := y) hn k (by omega) i
    by_cases hp : p k = true
    · simp only [sfo, hp, if_true, Nat.testBit_and, Bool.and_eq_true, ih]
      constructor
      · rintro ⟨⟨h1, h2⟩, h3⟩
        refine ⟨h1, fun v hv hpv => ?_⟩
        by_cases e : v = k
        · subst e
          cases y with
          | true => simpa using h3
          | false =>
            rw [if_neg (by decide), xor_127 (by omega)] at h3
            simp at h3
            exact h3.2
        · exact h2 v (by omega) hpv
      · rintro ⟨h1, h2⟩
        refine ⟨⟨h1, fun v hv hpv => h2 v (by omega) hpv⟩, ?_⟩
        have := h2 k (by omega) hp
        cases y with
        | true => simpa using this
        | false =>
          rw [if_neg (by decide), xor_127 (by omega), this]
          simp
          omega
    · simp only [sfo, hp, if_false]
      rw [if_neg (by decide), ih]
      constructor
      · rintro ⟨h1, h2⟩
        refine ⟨h1, fun v hv hpv => ?_⟩
        have : v ≠ k := fun z => hp (z ▸ hpv)
        exact h2 v (by omega) hpv
      · rintro ⟨h1, h2⟩
        exact ⟨h1, fun v hv hpv => h2 v (by omega) hpv⟩
/-- with a for yes and b for no, disjoint: just a, or b, is common to all -/
theorem sfo_fit {p : Nat → Bool} {y : Bool} {n a b : Nat} (hn : n ≤ 7) (ha : a < 2 ^ n) (hb : b < 2 ^ n) (hab : a &&& b = 0) (hp : ∀ v, p v = fitb a b v n) : sfo p y n (2 ^ n) = (if y = true then a else b) ∧ p a = true := by
  have hdis : ∀ i, a.testBit i = true → b.testBit i = false := by
    intro i h1
    have := congrArg (fun z => z.testBit i) hab
    simp only [Nat.testBit_and, h1, Nat.zero_testBit, Bool.true_and] at this
    exact this
  have pa : p a = true := by
    rw [hp, fitb_iff ha hb]
    exact ⟨Nat.and_self a, hab⟩
  have hc : 2 ^ n - 1 - b < 2 ^ n := by have : 0 < 2 ^ n := Nat.pow_pos (by omega); omega
  have hct : ∀ i, ((2 ^ n - 1) ^^^ b).testBit i = (decide (i < n) && !b.testBit i) := by
    intro i
    rw [Nat.testBit_xor, Nat.testBit_two_pow_sub_one]
    by_cases hi : i < n
    · simp [hi]
    · rw [lt_bit hb (by omega)]; simp [hi]
  have hcl : (2 ^ n - 1) ^^^ b < 2 ^ n := Nat.xor_lt_two_pow (by have : 0 < 2 ^ n := Nat.pow_pos (by omega); omega) hb
  have pc : p ((2 ^ n - 1) ^^^ b) = true := by
    rw [hp]
    unfold fitb
    refine alB_iff.mpr (fun i hi => ?_)
    rw [hct i]
    cases h1 : a.testBit i with
    | true => simp [hdis i h1, hi]
    | false => cases b.testBit i <;> simp [hi]
  refine ⟨?_, pa⟩
  apply Nat.eq_of_testBit_eq
  intro i
  rw [Bool.eq_iff_iff, sfo_test hn (2 ^ n) (p2_128 hn) i]
  have hfit : ∀ v, p v = true → ∀ i, i < n → (a.testBit i = true → v.testBit i = true) ∧ (b.testBit i = true → v.testBit i = false) := by
    intro v hv i hi
    rw [hp] at hv
    have := alB_iff.mp hv i hi
    revert this
    cases a.testBit i <;> cases b.testBit i <;> cases v.testBit i <;> simp
  cases y with
  | true =>
    rw [if_pos rfl]
    constructor
    · rintro ⟨h1, h2⟩
      exact h2 a ha pa
    · intro h
      have hi : i < n := by
        rcases Nat.lt_or_ge i n with q | q
        · exact q
        · rw [lt_bit ha q] at h; cases h
      exact ⟨hi, fun v _ hv => (hfit v hv i hi).1 h⟩
  | false =>
    rw [if_neg (by decide)]
    constructor
    · rintro ⟨h1, h2⟩
      have := h2 _ hcl pc
      rw [hct i] at this
      simpa [h1] using this
    · intro h
      have hi : i < n := by
        rcases Nat.lt_or_ge i n with q | q
        · exact q
        · rw [lt_bit hb q] at h; cases h
      exact ⟨hi, fun v _ hv => (hfit v hv i hi).2 h⟩
