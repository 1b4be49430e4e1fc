/-! no round is better than the hope -/
def clr (b x : Nat) : Nat := b &&& (127 - 2 ^ x)
theorem clr_t {b x : Nat} (hx : x < 7) (i : Nat) : (clr b x).testBit i = (b.testBit i && decide (i ≠ x) && decide (i < 7)) := by
  unfold clr
  rw [Nat.testBit_and]
  by_cases hi : i < 7
  · rw [clr_bit x hx i hi]; simp [hi]
  · have : (127 - 2 ^ x).testBit i = false := Nat.testBit_lt_two_pow (Nat.lt_of_lt_of_le (show 127 - 2 ^ x < 2 ^ 7 from Nat.lt_of_le_of_lt (Nat.sub_le _ _) (by decide)) (Nat.pow_le_pow_right (by omega) (by omega)))
    rw [this]; simp [hi]
theorem clr_lt {b x : Nat} : clr b x < 128 := Nat.lt_of_le_of_lt Nat.and_le_right (Nat.lt_of_le_of_lt (Nat.sub_le _ _) (by decide))
theorem b_hi {b i : Nat} (h : b < 128) (hi : ¬ i < 7) : b.testBit i = false := Nat.testBit_lt_two_pow (Nat.lt_of_lt_of_le (show b < 2 ^ 7 from h) (Nat.pow_le_pow_right (by omega) (by omega)))
theorem b_ne0 {b i : Nat} (h : b.testBit i = true) : b ≠ 0 := fun z => by rw [z, Nat.zero_testBit] at h; cases h
theorem b_eq0 {b : Nat} (h : ∀ i, b.testBit i ≠ true) : b = 0 := Nat.eq_of_testBit_eq (fun i => by rw [Nat.zero_testBit]; exact Bool.eq_false_iff.mpr (h i))
abbrev vx (F : Nat → Nat → Nat) (x : Nat) : Nat := 1000 - F 1 x
def sv (F : Nat → Nat → Nat) : List Nat → Nat
  | [] => 0
  | x :: xs => vx F x + sv F xs
/-- a way that goes by the open ones, each once, then by the first member, and again -/
def Vl (O : Nat) : Nat → List Nat → Prop
  | _, [] => True
  | b, x :: xs => if b = 0 then x = 0 ∧ Vl O O xs else x < 7 ∧ b.testBit x = true ∧ Vl O (clr b x) xs
theorem Vl_y {O b x : Nat} {xs : List Nat} (hb : b ≠ 0) : Vl O b (x :: xs) ↔ x < 7 ∧ b.testBit x = true ∧ Vl O (clr b x) xs := by
  simp only [Vl]
  rw [if_neg hb]
theorem Vl_z {O x : Nat} {xs : List Nat} : Vl O 0 (x :: xs) ↔ x = 0 ∧ Vl O O xs := by
  simp [Vl]
theorem exch {F : Nat → Nat → Nat} {O : Nat} : ∀ (xs : List Nat) (b x q : Nat), x < 7 → q < 7 → b.testBit q = true → ¬ b.testBit x = true → vx F x ≤ vx F q → Vl O b xs → ∃ ys, Vl O (clr b q ||| 2 ^ x) ys ∧ ys.length = xs.length ∧ sv F xs + vx F x ≤ sv F ys + vx F q := by
  intro xs
  induction xs with
  | nil => intro b x q hx hq h1 h2 hv _; exact ⟨[], trivial, rfl, by simp only [sv]; omega⟩
  | cons y ys0 ih =>
    intro b x q hx hq h1 h2 hv hV
    have hb0 := b_ne0 h1
    obtain ⟨hy7, hyb, hV2⟩ := (Vl_y hb0).mp hV
    have hne0 : clr b q ||| 2 ^ x ≠ 0 := b_ne0 (i := x) (by rw [Nat.testBit_or, Nat.testBit_two_pow_self]; simp)
    by_cases e : y = q
    · subst e
      refine ⟨x :: ys0, (Vl_y hne0).mpr ⟨hx, by rw [Nat.testBit_or, Nat.testBit_two_pow_self]; simp, ?_⟩, rfl, by simp only [sv]; omega⟩
      have ee : clr (clr b y ||| 2 ^ x) x = clr b y := Nat.eq_of_testBit_eq (fun i => by
        rw [clr_t hx, Nat.testBit_or, clr_t hy7, Nat.testBit_two_pow]
        by_cases ei : i = x
        · subst ei
          have : b.testBit i = false := Bool.eq_false_iff.mpr h2
          simp [this]
        · have : ¬ x = i := fun z => ei z.symm
          simp [ei, this])
      rw [ee]
      exact hV2
    · have hxy : y ≠ x := fun z => h2 (z ▸ hyb)
      obtain ⟨ys, q1, q2, q3⟩ := ih (clr b y) x q hx hq (by rw [clr_t hy7, h1]; simp; exact ⟨fun z => e z.symm, hq⟩) (by rw [clr_t hy7]; simp; intro z; exact absurd z h2) hv hV2
      refine ⟨y :: ys, (Vl_y hne0).mpr ⟨hy7, ?_, ?_⟩, by simp only [List.length_cons, q2], by simp only [sv]; omega⟩
      · rw [Nat.testBit_or, clr_t hq, hyb]; simp; exact Or.inl ⟨e, hy7⟩
      · have ee : clr (clr b q ||| 2 ^ x) y = clr (clr b y) q ||| 2 ^ x := Nat.eq_of_testBit_eq (fun i => by
          rw [clr_t hy7, Nat.testBit_or, clr_t hq, Nat.testBit_or, clr_t hq, clr_t hy7, Nat.testBit_two_pow]
          by_cases ex : x = i
          · subst ex
            have h9 : ¬ x = y := fun z => hxy z.symm
            simp [h9, hx]
          · simp [ex]
            cases b.testBit i <;> simp
            by_cases ey : i = y <;> by_cases eq : i = q <;> by_cases e7 : i < 7 <;> simp [ey, eq, e7])
        rw [ee]
        exact q1
/-- the quickest of a set -/
def qkl (F : Nat → Nat → Nat) (b : Nat) : Nat → Option Nat
  | 0 => none
  | k + 1 => if b.testBit k = true then (match qkl F b k with
    | none => some k
    | some w => if F 1 k < F 1 w then some k else some w) else qkl F b k
theorem qkl_sp {F : Nat → Nat → Nat} {b : Nat} : ∀ k, (∀ q, qkl F b k = some q → q < k ∧ b.testBit q = true ∧ ∀ x, x < k → b.testBit x = true → F 1 q ≤ F 1 x) ∧ (qkl F b k = none → ∀ x, x < k → ¬ b.testBit x = true)
  | 0 => ⟨fun q h => (nomatch h), fun _ x hx => by omega⟩
  | k + 1 => by
    have ih := qkl_sp (F := F) (b := b) k
    by_cases hb : b.testBit k = true
    · cases hq : qkl F b k with
      | none =>
        have e : qkl F b (k + 1) = some k := by simp only [qkl, hb, hq, if_true]
        have i2 := ih.2 hq
        refine ⟨fun q h => ?_, fun h => by rw [e] at h; cases h⟩
        rw [e] at h
        cases h
        exact ⟨by omega, hb, fun x hx hxb => by
          by_cases ex : x = k
          · subst ex; exact Nat.le_refl _
          · exact absurd hxb (i2 x (by omega))⟩
      | some w =>
        have i1 := ih.1 w hq
        by_cases hlt : F 1 k < F 1 w
        · have e : qkl F b (k + 1) = some k := by simp only [qkl, hb, hq, if_true, hlt]
          refine ⟨fun q h => ?_, fun h => by rw [e] at h; cases h⟩
          rw [e] at h
          cases h
          exact ⟨by omega, hb, fun x hx hxb => by
            by_cases ex : x = k
            · subst ex; exact Nat.le_refl _
            · have := i1.2.2 x (by omega) hxb
              omega⟩
        · have e : qkl F b (k + 1) = some w := by simp only [qkl, hb, hq, if_true, hlt, if_false]
          refine ⟨fun q h => ?_, fun h => by rw [e] at h; cases h⟩
          rw [e] at h
          cases h
          exact ⟨by omega, i1.2.1, fun x hx hxb => by
            by_cases ex : x = k
            · subst ex; omega
            · exact i1.2.2 x (by omega) hxb⟩
    · have e : qkl F b (k + 1) = qkl F b k := by simp only [qkl, hb]; simp
      refine ⟨fun q h => ?_, fun h x hx => ?_⟩
      · rw [e] at h
        have i1 := ih.1 q h
        exact ⟨by omega, i1.2.1, fun x hx hxb => by
          by_cases ex : x = k
          · subst ex; exact absurd hxb hb
          · exact i1.2.2 x (by omega) hxb⟩
      · rw [e] at h
        by_cases ex : x = k
        · subst ex; exact hb
        · exact ih.2 h x (by omega)
def qk (F : Nat → Nat → Nat) (n b : Nat) : Nat := (qkl F b n).getD 0
theorem qk_sp {F : Nat → Nat → Nat} {n b : Nat} (hb : b ≠ 0) (hn : ∀ i, b.testBit i = true → i < n) : qkl F b n = some (qk F n b) ∧ qk F n b < n ∧ b.testBit (qk F n b) = true ∧ ∀ x, b.testBit x = true → F 1 (qk F n b) ≤ F 1 x := by
  have h := qkl_sp (F := F) (b := b) n
  cases hq : qkl F b n with
  | none => exact absurd (b_eq0 (fun i z => h.2 hq i (hn i z) z)) hb
  | some q =>
    have e : qk F n b = q := by unfold qk; rw [hq]; rfl
    have := h.1 q hq
    rw [e]
    exact ⟨rfl, this.1, this.2.1, fun x hx => this.2.2 x (hn x hx) hx⟩
def gs (F : Nat → Nat → Nat) (n O : Nat) : Nat → Nat → Nat
  | _, 0 => 0
  | b, r + 1 => if b = 0 then vx F 0 + gs F n O O r else vx F (qk F n b) + gs F n O (clr b (qk F n b)) r
theorem gs_z {F : Nat → Nat → Nat} {n O r : Nat} : gs F n O 0 (r + 1) = vx F 0 + gs F n O O r := by simp [gs]
theorem gs_y {F : Nat → Nat → Nat} {n O b r : Nat} (hb : b ≠ 0) : gs F n O b (r + 1) = vx F (qk F n b) + gs F n O (clr b (qk F n b)) r := by simp only [gs]; rw [if_neg hb]
theorem gs_up {F : Nat → Nat → Nat} {n O : Nat} : ∀ r b, gs F n O b r ≤ gs F n O b (r + 1)
  | 0, b => Nat.zero_le _
  | r + 1, b => by
    by_cases hb : b = 0
    · subst hb
      rw [gs_z, gs_z]
      have := gs_up (F := F) (n := n) (O := O) r O
      omega
    · rw [gs_y hb, gs_y hb]
      have := gs_up (F := F) (n := n) (O := O) r (clr b (qk F n b))
      omega
theorem gs_mono {F : Nat → Nat → Nat} {n O b r : Nat} : ∀ k, gs F n O b r ≤ gs F n O b (r + k)
  | 0 => Nat.le_refl _
  | k + 1 => Nat.le_trans (gs_mono k) (gs_up (r + k) b)
theorem gs_le {F : Nat → Nat → Nat} {n O : Nat} : ∀ r b, gs F n O b r ≤ 1000 * r
  | 0, _ => Nat.le_refl _
  | r + 1, b => by
    by_cases hb : b = 0
    · subst hb
      rw [gs_z]
      have := gs_le (F := F) (n := n) (O := O) r O
      have h2 : vx F 0 ≤ 1000 := Nat.sub_le _ _
      omega
    · rw [gs_y hb]
      have := gs_le (F := F) (n := n) (O := O) r (clr b (qk F n b))
      have h2 : vx F (qk F n b) ≤ 1000 := Nat.sub_le _ _
      omega
theorem gs_ok {F : Nat → Nat → Nat} {n O : Nat} (h7 : n ≤ 7) (hO : ∀ i, O.testBit i = true → i < n) : ∀ r (xs : List Nat) (b : Nat), xs.length = r → (∀ i, b.testBit i = true → i < n) → Vl O b xs → sv F xs ≤ gs F n O b r := by
  intro r
  induction r with
  | zero =>
    intro xs b hr _ _
    rw [List.eq_nil_of_length_eq_zero hr]
    exact Nat.le_refl _
  | succ r ih =>
    intro xs b hr hb hV
    cases xs with
    | nil => cases hr
    | cons x xs =>
      simp only [List.length_cons] at hr
      by_cases hb0 : b = 0
      · subst hb0
        obtain ⟨rfl, hV2⟩ := Vl_z.mp hV
        have := ih xs O (by omega) hO hV2
        rw [gs_z]
        simp only [sv]
        omega
      · obtain ⟨hx7, hxb, hV2⟩ := (Vl_y hb0).mp hV
        obtain ⟨_, hq1, hq2, hq3⟩ := qk_sp (F := F) hb0 hb
        have hle := hq3 x hxb
        rw [gs_y hb0]
        have hcb : ∀ i, (clr b (qk F n b)).testBit i = true → i < n := fun i hi => by
          rw [clr_t (by omega)] at hi
          simp only [Bool.and_eq_true] at hi
          exact hb i hi.1.1
        by_cases e : x = qk F n b
        · rw [← e]
          have := ih xs (clr b x) (by omega) (by rw [e]; exact hcb) hV2
          simp only [sv]
          omega
        · obtain ⟨ys, y1, y2, y3⟩ := exch (F := F) xs (clr b x) x (qk F n b) hx7 (by omega) (by rw [clr_t hx7, hq2]; simp; exact ⟨fun z => e z.symm, by omega⟩) (by rw [clr_t hx7]; simp) (by simp only [vx]; omega) hV2
          have ee : clr (clr b x) (qk F n b) ||| 2 ^ x = clr b (qk F n b) := Nat.eq_of_testBit_eq (fun i => by
            rw [Nat.testBit_or, clr_t (by omega), clr_t hx7, clr_t (by omega), Nat.testBit_two_pow]
            by_cases ex : x = i
            · subst ex
              simp [hxb, e, hx7]
            · have e3 : ¬ i = x := fun z => ex z.symm
              simp only [ex, e3, ne_eq, not_false_eq_true, decide_true, decide_false, Bool.and_true, Bool.or_false]
              generalize decide (i < 7) = u
              generalize decide (¬ i = qk F n b) = v
              cases b.testBit i <;> cases u <;> cases v <;> rfl)
          rw [ee] at y1
          have := ih ys _ (by omega) hcb y1
          simp only [sv]
          omega
/-- a way without end -/
def Vp : Nat → List Nat → Prop
  | _, [] => True
  | b, x :: xs => x < 7 ∧ b.testBit x = true ∧ Vp (clr b x) xs
theorem Vp_Vl {O : Nat} : ∀ {xs : List Nat} {b : Nat}, Vp b xs → Vl O b xs
  | [], _, _ => trivial
  | x :: xs, b, h => (Vl_y (b_ne0 h.2.1)).mpr ⟨h.1, h.2.1, Vp_Vl h.2.2⟩
theorem popc_clr {b x : Nat} (hx : x < 7) (h : b.testBit x = true) : popc b = popc (clr b x) + 1 := by
  unfold popc
  have z := ct_pt (q := fun i => (clr b x).testBit i) (x := x) (b := true) (by rw [clr_t hx]; simp) 7 hx
  rw [if_pos rfl] at z
  rw [← z]
  refine ct_cong (fun i hi => ?_)
  rw [clr_t hx]
  by_cases e : i = x
  · subst e; simp [h]
  · simp [e, hi]
theorem Vp_len : ∀ {xs : List Nat} {b : Nat}, Vp b xs → xs.length ≤ popc b
  | [], _, _ => Nat.zero_le _
  | x :: xs, b, h => by
    have := Vp_len h.2.2
    rw [popc_clr h.1 h.2.1]
    simp only [List.length_cons]
    omega
/-- who is gone by -/
def vis (F : Nat → Nat → Nat) (g : Bool) (a : List Nat) : Nat → Nat → List Nat
  | 0, _ => []
  | k + 1, p => match bfo g a.length p with
    | none => []
    | some b => if swl F (sl a b) (sl a p) then [] else sl a b :: vis F g a k b
theorem rsx_vis {F : Nat → Nat → Nat} {g : Bool} {a : List Nat} : ∀ k p, rsx F g a k p = sv F (vis F g a k p) ∧ (vis F g a k p).length ≤ k
  | 0, _ => ⟨rfl, Nat.le_refl _⟩
  | k + 1, p => by
    cases h : bfo g a.length p with
    | none => rw [rsx_n h]; simp only [vis, h]; exact ⟨rfl, Nat.zero_le _⟩
    | some b =>
      have ih := rsx_vis (F := F) (g := g) (a := a) k b
      by_cases hs : swl F (sl a b) (sl a p)
      · rw [rsx_y h hs]; simp only [vis, h]; rw [if_pos hs]; exact ⟨rfl, Nat.zero_le _⟩
      · rw [rsx_o h hs]; simp only [vis, h]; rw [if_neg hs]
        exact ⟨by simp only [sv]; rw [ih.1], by simp only [List.length_cons]; omega⟩
theorem bfo_lf {g : Bool} {c p b : Nat} (hp : p < c) (h : bfo g c p = some b) : lf c g p = some b ∧ 1 < c ∧ b < c := by
  unfold bfo at h
  unfold lf
  split at h
  next z => cases h; rw [if_pos z]; exact ⟨rfl, by omega, by omega⟩
  next z =>
    split at h
    next y => cases h; rw [if_neg z, if_pos y.1]; exact ⟨rfl, y.2, by omega⟩
    next => cases h
theorem St_inj {n : Nat} {g : Bool} {t i j s : Nat} (ht : t < n) (hi : i < n) (hj : j < n) (h1 : St n g t i s) (h2 : St n g t j s) : i = j := by
  unfold St at h1 h2
  omega
theorem St_lt {n : Nat} {g : Bool} {t i s : Nat} (ht : t < n) (hi : i < n) (h : St n g t i s) : s < n := by
  unfold St at h
  omega
theorem St_ex {n t s : Nat} (ht : t < n) (hs : s < n) : ∃ i, i < n ∧ St n true t i s := by
  unfold St
  by_cases h : s ≤ t
  · exact ⟨t - s, by omega, Or.inl ⟨by omega, by omega⟩⟩
  · exact ⟨t + n - s, by omega, Or.inr ⟨rfl, by omega, by omega⟩⟩
theorem St_0 {n : Nat} {g : Bool} {t s : Nat} (h : St n g t 0 s) : s = t := by
  unfold St at h
  omega
/-- where it does not come back -/
theorem vis_p {F : Nat → Nat → Nat} {g : Bool} {a : List Nat} (hd : a.Nodup) (h7 : ∀ x ∈ a, x < 7) {p : Nat} (hp : p < a.length) (hna : g = true → ∃ s, s < a.length ∧ F 3 (sl a s) = 3) : ∀ k t q b, t < a.length → St a.length g p t q → (∀ i s, t < i → i < a.length → St a.length g p i s → F 3 (sl a s) ≠ 3 → b.testBit (sl a s) = true) → (∀ i s, 0 < i → i ≤ t → St a.length g p i s → F 3 (sl a s) ≠ 3) → Vp b (vis F g a k q) := by
  intro k
  induction k with
  | zero => intro t q b _ _ _ _; exact trivial
  | succ k ih =>
    intro t q b ht hS hb hv
    have hq : q < a.length := St_lt hp ht hS
    cases h : bfo g a.length q with
    | none => simp only [vis, h]; exact trivial
    | some r =>
      simp only [vis, h]
      by_cases hs : swl F (sl a r) (sl a q)
      · rw [if_pos hs]; exact trivial
      · rw [if_neg hs]
        obtain ⟨hlf, hc, hr⟩ := bfo_lf hq h
        have hS1 := St_next hp ht hS hlf
        have hh : F 3 (sl a r) ≠ 3 := fun z => hs (Or.inl z)
        have hv1 : ∀ i s, 0 < i → i ≤ t + 1 → St a.length g p i s → F 3 (sl a s) ≠ 3 := fun i s i1 i2 hs2 => by
          by_cases e : i = t + 1
          · subst e
            have : s = r := by unfold St at hs2 hS1; omega
            rw [this]; exact hh
          · exact hv i s i1 (by omega) hs2
        by_cases e : t + 1 < a.length
        · refine ⟨h7 _ (sl_mem hr), hb (t + 1) r (by omega) e hS1 hh, ih (t + 1) r _ e hS1 (fun i s i1 i2 hs2 hd2 => ?_) hv1⟩
          have hsl := St_lt hp i2 hs2
          rw [clr_t (h7 _ (sl_mem hr)), hb i s (by omega) i2 hs2 hd2]
          have hne : sl a s ≠ sl a r := sl_ne hd hsl hr (fun z => by
            subst z
            have := St_inj hp i2 e hs2 hS1
            omega)
          have := h7 _ (sl_mem hsl)
          rw [decide_eq_true hne, decide_eq_true this]
          rfl
        · exfalso
          have e2 : t + 1 = a.length := by omega
          cases g with
          | false => unfold St at hS1; simp at hS1; omega
          | true =>
            rw [e2] at hS1 hv1
            have hrp := St_eq hp hS1
            obtain ⟨s, hs1, hs2⟩ := hna rfl
            obtain ⟨i, hi1, hi2⟩ := St_ex hp hs1
            by_cases ei : i = 0
            · subst ei
              have := St_0 hi2
              rw [this, ← hrp] at hs2
              exact hh hs2
            · exact hv1 i s (by omega) (by omega) hi2 hs2
/-- where it comes back -/
theorem vis_v {F : Nat → Nat → Nat} {a : List Nat} (hd : a.Nodup) (h7 : ∀ x ∈ a, x < 7) {p : Nat} (hp : p < a.length) (h0 : sl a p = 0) {O : Nat} (hO : ∀ x, O.testBit x = true ↔ x ∈ a ∧ x ≠ 0) : ∀ k t q b, t < a.length → St a.length true p t q → (∀ x, b.testBit x = true ↔ ∃ i s, t < i ∧ i < a.length ∧ St a.length true p i s ∧ sl a s = x) → Vl O b (vis F true a k q) := by
  intro k
  induction k with
  | zero => intro t q b _ _ _; exact trivial
  | succ k ih =>
    intro t q b ht hS hb
    have hq : q < a.length := St_lt hp ht hS
    cases h : bfo true a.length q with
    | none => simp only [vis, h]; exact trivial
    | some r =>
      simp only [vis, h]
      by_cases hs : swl F (sl a r) (sl a q)
      · rw [if_pos hs]; exact trivial
      · rw [if_neg hs]
        obtain ⟨hlf, hc, hr⟩ := bfo_lf hq h
        have hS1 := St_next hp ht hS hlf
        by_cases e : t + 1 < a.length
        · have hbr : b.testBit (sl a r) = true := (hb _).mpr ⟨t + 1, r, by omega, e, hS1, rfl⟩
          refine (Vl_y (b_ne0 hbr)).mpr ⟨h7 _ (sl_mem hr), hbr, ih (t + 1) r _ e hS1 (fun x => ?_)⟩
          rw [clr_t (h7 _ (sl_mem hr))]
          constructor
          · intro hx
            simp only [Bool.and_eq_true, decide_eq_true_eq] at hx
            obtain ⟨i, s, i1, i2, i3, i4⟩ := (hb x).mp hx.1.1
            refine ⟨i, s, ?_, i2, i3, i4⟩
            by_cases ei : i = t + 1
            · exfalso
              subst ei
              have : s = r := by unfold St at i3 hS1; omega
              subst this
              exact hx.1.2 i4.symm
            · omega
          · rintro ⟨i, s, i1, i2, i3, i4⟩
            have hsl := St_lt hp i2 i3
            have hne : sl a s ≠ sl a r := sl_ne hd hsl hr (fun z => by
              subst z
              have := St_inj hp i2 e i3 hS1
              omega)
            have hx7 := h7 _ (sl_mem hsl)
            rw [i4] at hne hx7
            have := (hb x).mpr ⟨i, s, by omega, i2, i3, i4⟩
            rw [this, decide_eq_true hne, decide_eq_true hx7]
            rfl
        · have e2 : t + 1 = a.length := by omega
          have hb0 : b = 0 := b_eq0 (fun i z => by
            obtain ⟨j, s, j1, j2, _⟩ := (hb i).mp z
            omega)
          subst hb0
          rw [e2] at hS1
          have hrp := St_eq hp hS1
          subst hrp
          refine Vl_z.mpr ⟨h0, ih 0 r O (by omega) (Or.inl ⟨by omega, by omega⟩) (fun x => ?_)⟩
          rw [hO]
          constructor
          · rintro ⟨hx, hx0⟩
            obtain ⟨s, hs1, hs2⟩ := List.getElem_of_mem hx
            obtain ⟨i, hi1, hi2⟩ := St_ex hp hs1
            refine ⟨i, s, ?_, hi1, hi2, by rw [sl_eq hs1]; exact hs2⟩
            by_cases ei : i = 0
            · exfalso
              subst ei
              have := St_0 hi2
              subst this
              rw [sl_eq hs1, hs2] at h0
              exact hx0 h0
            · omega
          · rintro ⟨i, s, i1, i2, i3, i4⟩
            have hsl := St_lt hp i2 i3
            refine ⟨i4 ▸ sl_mem hsl, fun z => ?_⟩
            rw [z, ← h0] at i4
            have := sl_inj hd hsl hr i4
            exact St_ne i1 i2 i3 this
