/-! whole numbers below 0; all seatings; the best -/
def zI (a : Int) : Int32 := Int32.ofInt a
theorem zI_toInt {a : Int} (h1 : -2 ^ 31 ≤ a) (h2 : a < 2 ^ 31) : (zI a).toInt = a := Int32.toInt_ofInt_of_le h1 h2
theorem zI_self (x : Int32) : zI x.toInt = x := Int32.ofInt_toInt x
theorem zI_add (a b : Int) : zI a + zI b = zI (a + b) := (Int32.ofInt_add a b).symm
theorem zI_sub (a b : Int) : zI a - zI b = zI (a - b) := (Int32.ofInt_sub a b).symm
theorem zI_neg (a : Int) : -zI a = zI (-a) := (Int32.ofInt_neg a).symm
theorem zI_n {k : Nat} (h : k < 2 ^ 31) : zI (k : Int) = nI k := Int32.toInt_inj.mp (by rw [zI_toInt (by omega) (by omega), nI_toInt h])
theorem zI_lt {a b : Int} (a1 : -2 ^ 31 ≤ a) (a2 : a < 2 ^ 31) (b1 : -2 ^ 31 ≤ b) (b2 : b < 2 ^ 31) : zI a < zI b ↔ a < b := by rw [Int32.lt_iff_toInt_lt, zI_toInt a1 a2, zI_toInt b1 b2]
theorem zI_le {a b : Int} (a1 : -2 ^ 31 ≤ a) (a2 : a < 2 ^ 31) (b1 : -2 ^ 31 ≤ b) (b2 : b < 2 ^ 31) : zI a ≤ zI b ↔ a ≤ b := by rw [Int32.le_iff_toInt_le, zI_toInt a1 a2, zI_toInt b1 b2]
/-- candidates j, j + 1, .. that do not sit yet -/
def lvm (f : Nat → List (List Nat)) (pre : List Nat) : Nat → Nat → List (List Nat)
  | 0, _ => []
  | q + 1, j => (if j ∈ pre then [] else f j) ++ lvm f pre q (j + 1)
/-- all ways to fill k seats behind pre, in rising order -/
def lvx (n : Nat) : Nat → List Nat → List (List Nat)
  | 0, pre => [pre]
  | k + 1, pre => lvm (fun m => lvx n k (pre ++ [m])) pre n 0
theorem lvm_mem {f : Nat → List (List Nat)} {pre l : List Nat} : ∀ {q j : Nat}, l ∈ lvm f pre q j → ∃ m, j ≤ m ∧ m < j + q ∧ m ∉ pre ∧ l ∈ f m
  | 0, j, h => by simp [lvm] at h
  | q + 1, j, h => by
    simp only [lvm, List.mem_append] at h
    rcases h with h | h
    · by_cases e : j ∈ pre
      · rw [if_pos e] at h; simp at h
      · rw [if_neg e] at h
        exact ⟨j, by omega, by omega, e, h⟩
    · obtain ⟨m, h1, h2, h3, h4⟩ := lvm_mem h
      exact ⟨m, by omega, by omega, h3, h4⟩
theorem lvx_mem {n : Nat} : ∀ {k : Nat} {pre l : List Nat}, l ∈ lvx n k pre → pre.Nodup → (∀ x ∈ pre, x < n) → l.Nodup ∧ (∀ x ∈ l, x < n) ∧ l.length = pre.length + k ∧ ∃ suf, l = pre ++ suf
  | 0, pre, l, h, h1, h2 => by
    simp only [lvx, List.mem_singleton] at h
    subst h
    exact ⟨h1, h2, rfl, [], by simp⟩
  | k + 1, pre, l, h, h1, h2 => by
    simp only [lvx] at h
    obtain ⟨m, _, hm, hn, hl⟩ := lvm_mem h
    have hnd : (pre ++ [m]).Nodup := by
      rw [List.nodup_append]
      refine ⟨h1, by simp, fun a ha b hb => ?_⟩
      rw [List.mem_singleton.mp hb]
      exact fun z => hn (z ▸ ha)
    have hlt : ∀ x ∈ pre ++ [m], x < n := fun x hx => by
      rcases List.mem_append.mp hx with z | z
      · exact h2 x z
      · rw [List.mem_singleton.mp z]; omega
    obtain ⟨a1, a2, a3, suf, a4⟩ := lvx_mem hl hnd hlt
    refine ⟨a1, a2, ?_, m :: suf, ?_⟩
    · rw [a3]; simp only [List.length_append, List.length_cons, List.length_nil]; omega
    · rw [a4]; simp
/-- a seating as a list -/
abbrev sl (l : List Nat) : Nat → Nat := fun s => l.getD s 0
theorem sl_eq {l : List Nat} {s : Nat} (h : s < l.length) : sl l s = l[s] := by simp [sl, List.getD_eq_getElem?_getD, h]
theorem sl_mem {l : List Nat} {s : Nat} (h : s < l.length) : sl l s ∈ l := by rw [sl_eq h]; exact List.getElem_mem h
theorem sl_pm {n : Nat} {l : List Nat} (h1 : l.Nodup) (h2 : ∀ x ∈ l, x < n) (h3 : l.length = n) : Pm n (sl l) (fs (sl l) n) := inj_pm (fun s hs => h2 _ (sl_mem (by omega))) (fun a b ha hb e => by
  rw [sl_eq (by omega), sl_eq (by omega)] at e
  exact (List.getElem_inj h1).mp e)
theorem dg_app {pre : List Nat} {m : Nat} : dg (sl (pre ++ [m])) (pre.length + 1) = dg (sl pre) pre.length * 10 + m := by
  show dg (sl (pre ++ [m])) pre.length * 10 + sl (pre ++ [m]) pre.length = _
  rw [dg_cong pre.length (S' := sl pre) (fun s hs => by simp only [sl, List.getD_eq_getElem?_getD]; rw [List.getElem?_append_left hs])]
  simp [sl, List.getD_eq_getElem?_getD]
/-- the better of what was found and of a seating -/
def jd (v : List Nat → Int) (st : Option (Int × List Nat)) (l : List Nat) : Option (Int × List Nat) := match st with
  | none => some (v l, l)
  | some b => if b.1 < v l then some (v l, l) else some b
theorem jd_n {v : List Nat → Int} {l : List Nat} : jd v none l = some (v l, l) := rfl
theorem jd_y {v : List Nat → Int} {l : List Nat} {b : Int × List Nat} (h : b.1 < v l) : jd v (some b) l = some (v l, l) := if_pos h
theorem jd_o {v : List Nat → Int} {l : List Nat} {b : Int × List Nat} (h : ¬ b.1 < v l) : jd v (some b) l = some b := if_neg h
def jdl (v : List Nat → Int) (st : Option (Int × List Nat)) (L : List (List Nat)) : Option (Int × List Nat) := L.foldl (jd v) st
theorem jdl_app {v : List Nat → Int} {st : Option (Int × List Nat)} {L M : List (List Nat)} : jdl v st (L ++ M) = jdl v (jdl v st L) M := List.foldl_append
theorem jdl_cut {v : List Nat → Int} {b : Int × List Nat} : ∀ {L : List (List Nat)}, (∀ l ∈ L, v l ≤ b.1) → jdl v (some b) L = some b
  | [], _ => rfl
  | l :: L, h => by
    have h1 := h l (by simp)
    show jdl v (jd v (some b) l) L = some b
    rw [jd_o (by omega)]
    exact jdl_cut (fun x hx => h x (by simp [hx]))
theorem jdl_cong {v w : List Nat → Int} : ∀ {L : List (List Nat)} {st : Option (Int × List Nat)}, (∀ l ∈ L, v l = w l) → jdl v st L = jdl w st L
  | [], _, _ => rfl
  | l :: L, st, h => by
    have h1 : jd v st l = jd w st l := by unfold jd; rw [h l (by simp)]
    show jdl v (jd v st l) L = jdl w (jd w st l) L
    rw [h1]
    exact jdl_cong (fun x hx => h x (by simp [hx]))
theorem jdl_some {v : List Nat → Int} : ∀ {L : List (List Nat)} {st : Option (Int × List Nat)} {b : Int × List Nat}, jdl v st L = some b → (∃ l ∈ L, b = (v l, l)) ∨ st = some b
  | [], st, b, h => Or.inr h
  | l :: L, st, b, h => by
    rcases jdl_some (L := L) (st := jd v st l) h with ⟨x, hx, e⟩ | e
    · exact Or.inl ⟨x, by simp [hx], e⟩
    · unfold jd at e
      split at e
      · cases e; exact Or.inl ⟨l, by simp, rfl⟩
      · split at e
        · cases e; exact Or.inl ⟨l, by simp, rfl⟩
        · exact Or.inr e
theorem lvx_len : ∀ n, n ≤ 7 → (lvx n n []).length ≤ 5040 := by decide +kernel
theorem lvx_ne {n : Nat} : ∀ {k : Nat} {pre : List Nat}, pre.Nodup → (∀ x ∈ pre, x < n) → pre.length + k = n → lvx n k pre ≠ []
  | 0, pre, _, _, _ => by simp [lvx]
  | k + 1, pre, h1, h2, h3 => by
    -- someone does not sit yet
    have hex : ∃ m, m < n ∧ m ∉ pre := by
      apply Classical.byContradiction
      intro hno
      have hall : ∀ m, m < n → m ∈ pre := fun m hm => Classical.byContradiction (fun z => hno ⟨m, hm, z⟩)
      have hsub : List.range n ⊆ pre := fun m hm => hall m (List.mem_range.mp hm)
      have := List.Nodup.length_le_of_subset List.nodup_range hsub
      rw [List.length_range] at this
      omega
    obtain ⟨m, hm, hn⟩ := hex
    have hin : ∀ q j, j ≤ m → m < j + q → ∀ l, l ∈ lvx n k (pre ++ [m]) → l ∈ lvm (fun m => lvx n k (pre ++ [m])) pre q j := by
      intro q
      induction q with
      | zero => intro j h1 h2; omega
      | succ q ih =>
        intro j hj1 hj2 l hl
        simp only [lvm, List.mem_append]
        by_cases e : j = m
        · subst e
          rw [if_neg hn]
          exact Or.inl hl
        · exact Or.inr (ih (j + 1) (by omega) (by omega) l hl)
    have hnd : (pre ++ [m]).Nodup := by
      rw [List.nodup_append]
      refine ⟨h1, by simp, fun a ha b hb => ?_⟩
      rw [List.mem_singleton.mp hb]
      exact fun z => hn (z ▸ ha)
    have hlt : ∀ x ∈ pre ++ [m], x < n := fun x hx => by
      rcases List.mem_append.mp hx with z | z
      · exact h2 x z
      · rw [List.mem_singleton.mp z]; omega
    have ih := lvx_ne (k := k) hnd hlt (by simp only [List.length_append, List.length_cons, List.length_nil]; omega)
    obtain ⟨l, hl⟩ := List.exists_mem_of_ne_nil _ ih
    intro he
    have := hin n 0 (by omega) (by omega) l hl
    simp only [lvx] at he
    rw [he] at this
    simp at this
