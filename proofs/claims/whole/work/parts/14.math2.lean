/-! -1 as none; ranges; frames -/
def oN : Option Nat → Int32
  | none => -1
  | some k => nI k
theorem nI_m1 {a : Nat} (h : a < 2 ^ 31) : ¬ nI a = -1 := by
  intro z
  have h1 := congrArg Int32.toInt z
  rw [nI_toInt h] at h1
  have h2 : (-1 : Int32).toInt = -1 := by decide +kernel
  rw [h2] at h1
  omega
theorem m1_neg : (-1 : Int32) < 0 := by decide +kernel
section AQ3
variable {d : Nat} {M : am_M} {pc : Nat} {l : List (Option Value)} {st : List Value} {h : am_H} {o : am_O}
theorem m_ic_eq {x : Option Nat} {off : Int} (tgt : Nat) (hd : decode M.2.1 pc = .ok (.if_icmp .eq off, 3)) (ht : (pc : Int) + off = (tgt : Int)) (hx : ∀ k, x = some k → k < 2 ^ 31) (kt : x = none → am_Sem d M tgt l st h o) (kf : ∀ k, x = some k → am_Sem d M (pc + 3) l st h o) : am_Sem d M pc l (.int (-1) :: .int (oN x) :: st) h o := by
  cases x with
  | none => exact t_ic_eq tgt hd ht rfl (kt rfl)
  | some k => exact f_ic_eq hd ht (nI_m1 (hx k rfl)) (kf k rfl)
theorem m_ic_ne {x : Option Nat} {off : Int} (tgt : Nat) (hd : decode M.2.1 pc = .ok (.if_icmp .ne off, 3)) (ht : (pc : Int) + off = (tgt : Int)) (hx : ∀ k, x = some k → k < 2 ^ 31) (kt : ∀ k, x = some k → am_Sem d M tgt l st h o) (kf : x = none → am_Sem d M (pc + 3) l st h o) : am_Sem d M pc l (.int (-1) :: .int (oN x) :: st) h o := by
  cases x with
  | none => exact f_ic_ne hd ht rfl (kf rfl)
  | some k => exact t_ic_ne tgt hd ht (nI_m1 (hx k rfl)) (kt k rfl)
end AQ3
/-- an int as a number below n -/
def rg (x : Int32) (n : Nat) : Option Nat := if 0 ≤ x.toInt ∧ x.toInt < n then some x.toInt.toNat else none
theorem rg_some {x : Int32} {n k : Nat} (hn : n < 2 ^ 31) (h : rg x n = some k) : x = nI k ∧ k < n := by
  unfold rg at h
  split at h
  next hc =>
    cases h
    refine ⟨?_, by omega⟩
    apply Int32.toInt_inj.mp
    rw [nI_toInt (by omega)]
    omega
  next => cases h
theorem rg_none {x : Int32} {n : Nat} (hn : n < 2 ^ 31) (h : rg x n = none) : x < 0 ∨ (¬ x < 0 ∧ nI n ≤ x) := by
  unfold rg at h
  split at h
  next => cases h
  next hc =>
    rw [Int32.lt_iff_toInt_lt, Int32.le_iff_toInt_le, nI_toInt hn]
    have h0 : (0 : Int32).toInt = 0 := by decide +kernel
    rw [h0]
    omega
theorem rg_nI {k n : Nat} (hk : k < n) (hn : n < 2 ^ 31) : rg (nI k) n = some k := by
  unfold rg
  rw [nI_toInt (by omega), if_pos (by omega)]
  simp
/-- since h nothing but the cells of A has changed in h', and no cell is new -/
def Fr (A : List Nat) (h h' : am_H) : Prop := h'.1 = h.1 ∧ h'.2.2.2 = h.2.2.2 ∧ (∀ r, r ∉ A → am_i h' r = am_i h r) ∧ ∀ r, r ∉ A → am_l h' r = am_l h r
theorem Fr.rf {A : List Nat} {h : am_H} : Fr A h h := ⟨rfl, rfl, fun _ _ => rfl, fun _ _ => rfl⟩
theorem Fr.tr {A : List Nat} {h h1 h2 : am_H} (a : Fr A h h1) (b : Fr A h1 h2) : Fr A h h2 := ⟨b.1.trans a.1, b.2.1.trans a.2.1, fun r hr => (b.2.2.1 r hr).trans (a.2.2.1 r hr), fun r hr => (b.2.2.2 r hr).trans (a.2.2.2 r hr)⟩
theorem Fr.mono {A B : List Nat} {h h1 : am_H} (a : Fr A h h1) (hs : ∀ r ∈ A, r ∈ B) : Fr B h h1 := ⟨a.1, a.2.1, fun r hr => a.2.2.1 r (fun z => hr (hs r z)), fun r hr => a.2.2.2 r (fun z => hr (hs r z))⟩
theorem Fr.wI {A : List Nat} {h : am_H} {r j : Nat} {v : Int32} (hr : r ∈ A) : Fr A h (am_wI h r j v) := ⟨rfl, rfl, fun r' h' => am_up_ne (fun z => h' (z ▸ hr)), fun _ _ => rfl⟩
theorem Fr.wL {A : List Nat} {h : am_H} {r j : Nat} {v : Int64} (hr : r ∈ A) : Fr A h (am_wL h r j v) := ⟨rfl, rfl, fun _ _ => rfl, fun r' h' => am_up_ne (fun z => h' (z ▸ hr))⟩
theorem Fr.rI {A : List Nat} {h : am_H} {r : Nat} {g : Nat → Int32} (hr : r ∈ A) : Fr A h (am_rI h r g) := ⟨rfl, rfl, fun r' h' => am_ro_ne (fun z => h' (z ▸ hr)), fun _ _ => rfl⟩
theorem Fr.rL {A : List Nat} {h : am_H} {r : Nat} {g : Nat → Int64} (hr : r ∈ A) : Fr A h (am_rL h r g) := ⟨rfl, rfl, fun _ _ => rfl, fun r' h' => am_ro_ne (fun z => h' (z ▸ hr))⟩
theorem Fr.Wd {A : List Nat} {h h' : am_H} (a : Fr A h h') (hW : Wd h) : Wd h' := by
  refine ⟨fun r hr => ?_, fun q hq => ?_⟩
  · show h'.1 r = _
    rw [a.1]
    exact hW.1 r hr
  · show h'.2.2.2.1 q.1 q.2.1 = _
    rw [a.2.1]
    exact hW.2 q hq
theorem Fr.i {A : List Nat} {h h' : am_H} (a : Fr A h h') {r : Nat} (hr : r ∉ A) : am_i h' r = am_i h r := a.2.2.1 r hr
theorem Fr.l {A : List Nat} {h h' : am_H} (a : Fr A h h') {r : Nat} (hr : r ∉ A) : am_l h' r = am_l h r := a.2.2.2 r hr
theorem MB.fr {A : List Nat} {h h' : am_H} {n : Nat} {g : Bool} {F : Nat → Nat → Nat} (m : MB h n g F) (a : Fr A h h') (h9 : 9 ∉ A) (h10 : 10 ∉ A) : MB h' n g F := by
  unfold MB at m ⊢
  rw [a.i h9, a.i h10]
  exact m
theorem SB.fr {A : List Nat} {h h' : am_H} {r x y n : Nat} {S T : Nat → Nat} (m : SB r x y h n S T) (a : Fr A h h') (h1 : r ∉ A) (h2 : x ∉ A) (h3 : y ∉ A) : SB r x y h' n S T := by
  unfold SB at m ⊢
  rw [a.i h1, a.i h2, a.i h3]
  exact m
theorem wI_eq {h : am_H} {r j : Nat} {v : Int32} (k : Nat) : am_i (am_wI h r j v) r k = if k = j then v else am_i h r k := am_up_eq k
theorem wI_ne {h : am_H} {r j : Nat} {v : Int32} {r' : Nat} (e : r' ≠ r) : am_i (am_wI h r j v) r' = am_i h r' := am_up_ne e
theorem wL_eq {h : am_H} {r j : Nat} {v : Int64} (k : Nat) : am_l (am_wL h r j v) r k = if k = j then v else am_l h r k := am_up_eq k
theorem wL_ne {h : am_H} {r j : Nat} {v : Int64} {r' : Nat} (e : r' ≠ r) : am_l (am_wL h r j v) r' = am_l h r' := am_up_ne e
/-- the seat to the left -/
def lf (n : Nat) (g : Bool) (s : Nat) : Option Nat := if 0 < s then some (s - 1) else if g = true then some (n - 1) else none
def rt (n : Nat) (g : Bool) (s : Nat) : Option Nat := if s + 1 < n then some (s + 1) else if g = true then some 0 else none
theorem lf_lt {n : Nat} {g : Bool} {s t : Nat} (hs : s < n) (h : lf n g s = some t) : t < n := by
  unfold lf at h
  split at h
  · cases h; omega
  · split at h <;> cases h
    omega
theorem rt_lt {n : Nat} {g : Bool} {s t : Nat} (hs : s < n) (h : rt n g s = some t) : t < n := by
  unfold rt at h
  split at h
  · cases h; omega
  · split at h <;> cases h
    omega
/-- the digits of the seats below k -/
def dg (S : Nat → Nat) : Nat → Nat
  | 0 => 0
  | k + 1 => dg S k * 10 + S k
theorem dg_lt {S : Nat → Nat} {n : Nat} (hS : ∀ s, s < n → S s < 10) : ∀ k, k ≤ n → dg S k < 10 ^ k
  | 0, _ => by simp [dg]
  | k + 1, h => by
    have ih := dg_lt hS k (by omega)
    have := hS k (by omega)
    simp only [dg, Nat.pow_succ]
    omega
/-- the class's truth of a flag on the stack -/
theorem b2_bool (g : Bool) : (if g = true then 1 else 0 : Nat) ≤ 1 := by split <;> omega
