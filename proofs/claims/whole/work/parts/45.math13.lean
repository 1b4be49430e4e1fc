/-! yawns: 1000000 stands for never -/
def yN (v : Nat) : Int32 := if v = 1000000 then -1 else nI v
theorem yN_n {v : Nat} (h : v = 1000000) : yN v = -1 := if_pos h
theorem yN_s {v : Nat} (h : ¬ v = 1000000) : yN v = nI v := if_neg h
def yc (f : Nat → Nat) (w : Nat) (b : Option Nat) : Nat := match b with
  | none => 1000000
  | some b => if f b = 1000000 then 1000000 else f b + w
def sus (F : Nat → Nat → Nat) (fr m : Nat) : Bool := decide (m ≠ fr) && (decide (F 3 m ≠ 1) && decide (0 < F 5 m))
def nb1 (n : Nat) (g : Bool) (S T : Nat → Nat) (m : Nat) : Option Nat := (lf n g (T m)).map S
def nb2 (n : Nat) (g : Bool) (S T : Nat → Nat) (m : Nat) : Option Nat := (rt n g (T m)).map S
def yst (n : Nat) (g : Bool) (F : Nat → Nat → Nat) (S T : Nat → Nat) (fr : Nat) (f : Nat → Nat) (m : Nat) : Nat := if sus F fr m = true then min (f m) (min (yc f (F 5 m) (nb1 n g S T m)) (yc f (F 5 m) (nb2 n g S T m))) else f m
def yd (n : Nat) (g : Bool) (F : Nat → Nat → Nat) (S T : Nat → Nat) (fr : Nat) : Nat → Nat → Nat
  | 0 => fun m => if m = fr then 0 else 1000000
  | k + 1 => fun m => yst n g F S T fr (yd n g F S T fr k) m
theorem yd_s {n : Nat} {g : Bool} {F : Nat → Nat → Nat} {S T : Nat → Nat} {fr k m : Nat} : yd n g F S T fr (k + 1) m = yst n g F S T fr (yd n g F S T fr k) m := rfl
theorem yst_le {n : Nat} {g : Bool} {F : Nat → Nat → Nat} {S T : Nat → Nat} {fr : Nat} {f : Nat → Nat} {m : Nat} : yst n g F S T fr f m ≤ f m := by
  unfold yst
  split <;> omega
theorem yd_le {n : Nat} {g : Bool} {F : Nat → Nat → Nat} {S T : Nat → Nat} {fr m : Nat} {a : Nat} : ∀ j, yd n g F S T fr (a + j) m ≤ yd n g F S T fr a m
  | 0 => Nat.le_refl _
  | j + 1 => by
    have ih := yd_le (n := n) (g := g) (F := F) (S := S) (T := T) (fr := fr) (m := m) (a := a) j
    have := yst_le (n := n) (g := g) (F := F) (S := S) (T := T) (fr := fr) (f := yd n g F S T fr (a + j)) (m := m)
    rw [← Nat.add_assoc, yd_s]
    omega
theorem nb1_lt {n : Nat} {g : Bool} {S T : Nat → Nat} {m b : Nat} (p : Pm n S T) (hm : m < n) (h : nb1 n g S T m = some b) : b < n := by
  unfold nb1 at h
  cases hl : lf n g (T m) with
  | none => rw [hl] at h; cases h
  | some t =>
    rw [hl] at h
    cases h
    exact (p.1 t (lf_lt (p.2 m hm).1 hl)).1
theorem nb2_lt {n : Nat} {g : Bool} {S T : Nat → Nat} {m b : Nat} (p : Pm n S T) (hm : m < n) (h : nb2 n g S T m = some b) : b < n := by
  unfold nb2 at h
  cases hl : rt n g (T m) with
  | none => rw [hl] at h; cases h
  | some t =>
    rw [hl] at h
    cases h
    exact (p.1 t (rt_lt (p.2 m hm).1 hl)).1
theorem yc_b {f : Nat → Nat} {w B : Nat} {b : Option Nat} {n : Nat} (hw : w ≤ 20) (hb : ∀ k, b = some k → k < n) (hf : ∀ i, i < n → f i = 1000000 ∨ f i ≤ B) : yc f w b = 1000000 ∨ yc f w b ≤ B + 20 := by
  unfold yc
  cases b with
  | none => exact Or.inl rfl
  | some k =>
    dsimp only
    have := hf k (hb k rfl)
    split
    · exact Or.inl rfl
    · right; omega
theorem yd_b {n : Nat} {g : Bool} {F : Nat → Nat → Nat} {S T : Nat → Nat} {fr : Nat} (p : Pm n S T) (hY : ∀ m, m < n → F 5 m ≤ 20) : ∀ k m, m < n → yd n g F S T fr k m = 1000000 ∨ yd n g F S T fr k m ≤ 20 * k
  | 0, m, _ => by
    simp only [yd]
    split
    · right; omega
    · left; rfl
  | k + 1, m, hm => by
    have ih := yd_b (g := g) (fr := fr) p hY k
    have h1 := yc_b (B := 20 * k) (hY m hm) (fun b hb => nb1_lt (g := g) p hm hb) ih
    have h2 := yc_b (B := 20 * k) (hY m hm) (fun b hb => nb2_lt (g := g) p hm hb) ih
    have h3 := ih m hm
    rw [yd_s]
    unfold yst
    split <;> omega
/-- who yawns earlier in the next round does so by one who yawned earlier in this -/
theorem yd_imp {n : Nat} {g : Bool} {F : Nat → Nat → Nat} {S T : Nat → Nat} {fr k m : Nat} (p : Pm n S T) (hm : m < n) (h : yd n g F S T fr (k + 1) m ≠ yd n g F S T fr k m) : ∃ b, b < n ∧ (nb1 n g S T m = some b ∨ nb2 n g S T m = some b) ∧ sus F fr m = true ∧ yd n g F S T fr k b ≠ 1000000 ∧ yd n g F S T fr (k + 1) m = yd n g F S T fr k b + F 5 m ∧ yd n g F S T fr (k + 1) m < yd n g F S T fr k m ∧ 0 < F 5 m := by
  have hle : yd n g F S T fr k m ≤ 1000000 := by
    have := yd_le (n := n) (g := g) (F := F) (S := S) (T := T) (fr := fr) (m := m) (a := 0) k
    rw [Nat.zero_add] at this
    have h0 : yd n g F S T fr 0 m ≤ 1000000 := by simp only [yd]; split <;> omega
    omega
  rw [yd_s] at h ⊢
  unfold yst at h ⊢
  by_cases hs : sus F fr m = true
  · rw [if_pos hs] at h ⊢
    have hw : 0 < F 5 m := by
      simp only [sus, Bool.and_eq_true, decide_eq_true_eq] at hs
      exact hs.2.2
    by_cases h1 : yc (yd n g F S T fr k) (F 5 m) (nb1 n g S T m) ≤ yc (yd n g F S T fr k) (F 5 m) (nb2 n g S T m)
    · have hlt : yc (yd n g F S T fr k) (F 5 m) (nb1 n g S T m) < yd n g F S T fr k m := by omega
      cases hb : nb1 n g S T m with
      | none => rw [hb] at hlt; simp only [yc] at hlt; omega
      | some b =>
        rw [hb] at hlt h1
        have hne : yd n g F S T fr k b ≠ 1000000 := by
          intro z
          simp only [yc, z, if_true] at hlt
          omega
        refine ⟨b, nb1_lt p hm hb, Or.inl rfl, hs, hne, ?_, ?_, hw⟩
        · have e : yc (yd n g F S T fr k) (F 5 m) (some b) = yd n g F S T fr k b + F 5 m := by simp only [yc]; rw [if_neg hne]
          omega
        · omega
    · have hlt : yc (yd n g F S T fr k) (F 5 m) (nb2 n g S T m) < yd n g F S T fr k m := by omega
      cases hb : nb2 n g S T m with
      | none => rw [hb] at hlt; simp only [yc] at hlt; omega
      | some b =>
        rw [hb] at hlt h1
        have hne : yd n g F S T fr k b ≠ 1000000 := by
          intro z
          simp only [yc, z, if_true] at hlt
          omega
        refine ⟨b, nb2_lt p hm hb, Or.inr rfl, hs, hne, ?_, ?_, hw⟩
        · have e : yc (yd n g F S T fr k) (F 5 m) (some b) = yd n g F S T fr k b + F 5 m := by simp only [yc]; rw [if_neg hne]
          omega
        · omega
  · rw [if_neg hs] at h
    exact absurd rfl h
theorem yc_ub {n : Nat} {g : Bool} {F : Nat → Nat → Nat} {S T : Nat → Nat} {fr m b : Nat} {f : Nat → Nat} (hs : sus F fr m = true) (hb : nb1 n g S T m = some b ∨ nb2 n g S T m = some b) (hne : f b ≠ 1000000) : yst n g F S T fr f m ≤ f b + F 5 m := by
  unfold yst
  rw [if_pos hs]
  have e : yc f (F 5 m) (some b) = f b + F 5 m := by simp only [yc]; rw [if_neg hne]
  rcases hb with hb | hb <;> rw [hb, e] <;> omega
theorem yd_chain {n : Nat} {g : Bool} {F : Nat → Nat → Nat} {S T : Nat → Nat} {fr : Nat} (p : Pm n S T) : ∀ k m, m < n → yd n g F S T fr (k + 1) m ≠ yd n g F S T fr k m → ∃ c t : Nat → Nat, c (k + 1) = m ∧ (∀ j, j ≤ k + 1 → c j < n ∧ yd n g F S T fr j (c j) = t j) ∧ ∀ j, j ≤ k → t j < t (j + 1)
  | 0, m, hm, h => by
    obtain ⟨b, hb, _, _, hne, he, _, hw⟩ := yd_imp p hm h
    refine ⟨fun j => if j = 0 then b else m, fun j => if j = 0 then yd n g F S T fr 0 b else yd n g F S T fr 1 m, rfl, fun j hj => ?_, fun j hj => ?_⟩
    · rcases (show j = 0 ∨ j = 1 by omega) with rfl | rfl
      · exact ⟨hb, rfl⟩
      · exact ⟨hm, rfl⟩
    · have : j = 0 := by omega
      subst this
      show yd n g F S T fr 0 b < yd n g F S T fr 1 m
      have he2 : yd n g F S T fr 1 m = yd n g F S T fr 0 b + F 5 m := he
      omega
  | k + 1, m, hm, h => by
    obtain ⟨b, hb, hn, hs, hne, he, hlt, hw⟩ := yd_imp p hm h
    have hb2 : yd n g F S T fr (k + 1) b ≠ yd n g F S T fr k b := by
      intro z
      have h1 : yd n g F S T fr (k + 1) m ≤ yd n g F S T fr k b + F 5 m := by
        rw [yd_s]
        exact yc_ub hs hn (by rw [← z]; exact hne)
      omega
    obtain ⟨c, t, h1, h2, h3⟩ := yd_chain p k b hb hb2
    refine ⟨up1 c (k + 2) m, up1 t (k + 2) (yd n g F S T fr (k + 2) m), up1_eq, fun j hj => ?_, fun j hj => ?_⟩
    · by_cases e : j = k + 2
      · subst e
        rw [up1_eq, up1_eq]
        exact ⟨hm, rfl⟩
      · rw [up1_ne e, up1_ne e]
        exact h2 j (by omega)
    · by_cases e : j = k + 1
      · subst e
        rw [up1_ne (by omega), up1_eq]
        have := (h2 (k + 1) (by omega)).2
        rw [h1] at this
        have he2 : yd n g F S T fr (k + 2) m = yd n g F S T fr (k + 1) b + F 5 m := he
        omega
      · rw [up1_ne (by omega), up1_ne (by omega)]
        exact h3 j (by omega)
theorem yd_fix {n : Nat} {g : Bool} {F : Nat → Nat → Nat} {S T : Nat → Nat} {fr m : Nat} (p : Pm n S T) (hm : m < n) : yd n g F S T fr (n + 1) m = yd n g F S T fr n m := by
  by_cases h : yd n g F S T fr (n + 1) m = yd n g F S T fr n m
  · exact h
  · exfalso
    obtain ⟨c, t, h1, h2, h3⟩ := yd_chain p n m hm h
    have hmono : ∀ a d, a + d + 1 ≤ n + 1 → t a < t (a + d + 1) := by
      intro a d
      induction d with
      | zero => intro h; exact h3 a (by omega)
      | succ d ih =>
        intro h
        have := ih (by omega)
        have := h3 (a + d + 1) (by omega)
        rw [show a + (d + 1) + 1 = a + d + 1 + 1 by omega]
        omega
    have hne : ∀ i j, i < j → j ≤ n + 1 → c i ≠ c j := by
      intro i j hij hj e
      have a1 := hmono i (j - i - 1) (by omega)
      rw [show i + (j - i - 1) + 1 = j by omega] at a1
      have a2 := (h2 i (by omega)).2
      have a3 := (h2 j hj).2
      have a4 := yd_le (n := n) (g := g) (F := F) (S := S) (T := T) (fr := fr) (m := c j) (a := i) (j - i)
      rw [show i + (j - i) = j by omega, a3, ← e, a2] at a4
      omega
    obtain ⟨i, hi, e⟩ := inj_surj n c (fun i hi => (h2 i (by omega)).1) (fun i j hi hj e => by
      rcases Nat.lt_trichotomy i j with q | q | q
      · exact absurd e (hne i j q (by omega))
      · exact q
      · exact absurd e.symm (hne j i q (by omega))) (c n) (h2 n (by omega)).1
    exact hne i n hi (by omega) e
/-- what a row of minutes must not go below -/
theorem yd_low {n : Nat} {g : Bool} {F : Nat → Nat → Nat} {S T : Nat → Nat} {fr m : Nat} (p : Pm n S T) (hm : m < n) (hs : sus F fr m = true) : yd n g F S T fr n m ≤ yc (yd n g F S T fr n) (F 5 m) (nb1 n g S T m) ∧ yd n g F S T fr n m ≤ yc (yd n g F S T fr n) (F 5 m) (nb2 n g S T m) := by
  have h := yd_fix (g := g) (F := F) (fr := fr) p hm
  rw [yd_s] at h
  unfold yst at h
  rw [if_pos hs] at h
  omega
theorem yc_mono {f f' : Nat → Nat} {w : Nat} {b : Option Nat} {n : Nat} (hb : ∀ k, b = some k → k < n) (hl : ∀ i, i < n → f' i ≤ 1000000) (h : ∀ i, i < n → f i ≤ f' i) (hw : ∀ i, i < n → f i = 1000000 ∨ f i + w ≤ 1000000) : yc f w b ≤ yc f' w b := by
  cases b with
  | none => exact Nat.le_refl _
  | some k =>
    have h1 := h k (hb k rfl)
    have h2 := hl k (hb k rfl)
    have h3 := hw k (hb k rfl)
    simp only [yc]
    by_cases e : f k = 1000000
    · rw [if_pos e, if_pos (by omega)]
      exact Nat.le_refl _
    · rw [if_neg e]
      by_cases e2 : f' k = 1000000
      · rw [if_pos e2]
        omega
      · rw [if_neg e2]
        omega
theorem lf_rt {n : Nat} {g : Bool} {s l : Nat} (hs : s < n) (h : lf n g s = some l) : rt n g l = some s := by
  unfold lf at h
  unfold rt
  split at h
  · cases h
    rw [if_pos (by omega)]
    congr 1
    omega
  · split at h
    · cases h
      rw [if_neg (by omega)]
      rename_i hg
      rw [if_pos hg]
      congr 1
      omega
    · cases h
theorem rt_lf {n : Nat} {g : Bool} {s l : Nat} (hs : s < n) (h : rt n g s = some l) : lf n g l = some s := by
  unfold rt at h
  unfold lf
  split at h
  · cases h
    rw [if_pos (by omega)]
    congr 1
  · split at h
    · cases h
      rename_i hg
      rw [if_neg (by omega), if_pos hg]
      congr 1
      omega
    · cases h
/-- minutes as they lie in a row -/
def YA (a : Nat) (h : am_H) (n : Nat) (f : Nat → Nat) : Prop := ∀ i, i < n → am_i h a i = yN (f i)
/-- minutes between the bounds of round k -/
def Yb (n : Nat) (g : Bool) (F : Nat → Nat → Nat) (S T : Nat → Nat) (fr k B : Nat) (f : Nat → Nat) : Prop := (∀ i, i < n → f i ≤ yd n g F S T fr k i) ∧ (∀ i, i < n → yd n g F S T fr n i ≤ f i) ∧ ∀ i, i < n → f i = 1000000 ∨ f i ≤ B
theorem Yb.rl {n : Nat} {g : Bool} {F : Nat → Nat → Nat} {S T : Nat → Nat} {fr k B : Nat} {f : Nat → Nat} {m : Nat} {b : Option Nat} (p : Pm n S T) (hY : ∀ m, m < n → F 5 m ≤ 20) (hn : n ≤ 7) (y : Yb n g F S T fr k B f) (hm : m < n) (hs : sus F fr m = true) (hb : nb1 n g S T m = b ∨ nb2 n g S T m = b) (hB : B ≤ 100000) : Yb n g F S T fr k (B + 20) (up1 f m (min (f m) (yc f (F 5 m) b))) := by
  have hbn : ∀ q, b = some q → q < n := fun q hq => by
    rcases hb with hb | hb
    · exact nb1_lt p hm (hb.trans hq)
    · exact nb2_lt p hm (hb.trans hq)
  obtain ⟨y1, y2, y3⟩ := y
  have y6 := yd_b (g := g) (F := F) (fr := fr) p hY n
  refine ⟨fun i hi => ?_, fun i hi => ?_, fun i hi => ?_⟩
  · by_cases e : i = m
    · subst e
      rw [up1_eq]
      have := y1 i hi
      omega
    · rw [up1_ne e]; exact y1 i hi
  · by_cases e : i = m
    · subst e
      rw [up1_eq]
      have h1 := y2 i hi
      have h2 := yd_low (g := g) (fr := fr) p hi hs
      have h3 : yd n g F S T fr n i ≤ yc (yd n g F S T fr n) (F 5 i) b := by
        rcases hb with hb | hb
        · rw [← hb]; exact h2.1
        · rw [← hb]; exact h2.2
      have h4 := yc_mono (w := F 5 i) hbn (fun q hq => by have := y3 q hq; omega) y2 (fun q hq => by have h5 := y6 q hq; have h6 := hY i hi; omega)
      omega
    · rw [up1_ne e]; exact y2 i hi
  · by_cases e : i = m
    · subst e
      rw [up1_eq]
      have h1 := yc_b (hY i hi) hbn y3
      have h2 := y3 i hi
      omega
    · rw [up1_ne e]
      have := y3 i hi
      omega
theorem Yb.wk {n : Nat} {g : Bool} {F : Nat → Nat → Nat} {S T : Nat → Nat} {fr k B B' : Nat} {f : Nat → Nat} (y : Yb n g F S T fr k B f) (h : B ≤ B') : Yb n g F S T fr k B' f := ⟨y.1, y.2.1, fun i hi => by have := y.2.2 i hi; omega⟩
/-- a candidate taken is no more than what the round before offers -/
theorem Yb.cand {n : Nat} {g : Bool} {F : Nat → Nat → Nat} {S T : Nat → Nat} {fr k B : Nat} {f : Nat → Nat} {m : Nat} {b : Option Nat} (p : Pm n S T) (hY : ∀ m, m < n → F 5 m ≤ 20) (hk : k ≤ 8) (y : Yb n g F S T fr k B f) (hm : m < n) (hbn : ∀ q, b = some q → q < n) (hB : B ≤ 100000) : yc f (F 5 m) b ≤ yc (yd n g F S T fr k) (F 5 m) b := by
  have y6 := yd_b (g := g) (F := F) (fr := fr) p hY k
  refine yc_mono (w := F 5 m) hbn (fun q hq => by have := y6 q hq; omega) y.1 (fun q hq => by have h5 := y.2.2 q hq; have h6 := hY m hm; omega)
/-- between the bounds of the last round there is but one row -/
theorem Yb.fin {n : Nat} {g : Bool} {F : Nat → Nat → Nat} {S T : Nat → Nat} {fr B : Nat} {f : Nat → Nat} (y : Yb n g F S T fr n B f) : ∀ i, i < n → f i = yd n g F S T fr n i := fun i hi => Nat.le_antisymm (y.1 i hi) (y.2.1 i hi)
theorem Yb.start {n : Nat} {g : Bool} {F : Nat → Nat → Nat} {S T : Nat → Nat} {fr : Nat} : Yb n g F S T fr 0 0 (fun m => if m = fr then 0 else 1000000) := by
  refine ⟨fun i _ => Nat.le_refl _, fun i _ => ?_, fun i _ => ?_⟩
  · have := yd_le (n := n) (g := g) (F := F) (S := S) (T := T) (fr := fr) (m := i) (a := 0) n
    rw [Nat.zero_add] at this
    exact this
  · dsimp only
    split
    · right; omega
    · left; rfl
