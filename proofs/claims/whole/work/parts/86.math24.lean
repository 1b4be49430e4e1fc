/-! changes of seats: seatings as lists, who is beside whom, what is reached -/
def PL (n : Nat) (l : List Nat) : Prop := l.Nodup ∧ (∀ x ∈ l, x < n) ∧ l.length = n
def lS (n : Nat) (S : Nat → Nat) : List Nat := (List.range n).map S
theorem lS_len {n : Nat} {S : Nat → Nat} : (lS n S).length = n := by simp [lS]
theorem lS_sl {n : Nat} {S : Nat → Nat} {s : Nat} (hs : s < n) : sl (lS n S) s = S s := by
  rw [sl_eq (by rw [lS_len]; exact hs)]
  simp [lS]
theorem lS_ext {n : Nat} {l l' : List Nat} (h1 : l.length = n) (h2 : l'.length = n) (h : ∀ s, s < n → sl l s = sl l' s) : l = l' := by
  apply List.ext_getElem (by omega)
  intro i hi hi'
  have := h i (by omega)
  rwa [sl_eq hi, sl_eq hi'] at this
theorem lS_cong {n : Nat} {S S' : Nat → Nat} (h : ∀ s, s < n → S s = S' s) : lS n S = lS n S' := lS_ext lS_len lS_len (fun s hs => by rw [lS_sl hs, lS_sl hs]; exact h s hs)
theorem lS_self {n : Nat} {l : List Nat} (h : l.length = n) : lS n (sl l) = l := lS_ext lS_len h (fun s hs => lS_sl hs)
theorem lS_PL {n : Nat} {S T : Nat → Nat} (p : Pm n S T) : PL n (lS n S) := by
  refine ⟨?_, fun x hx => ?_, lS_len⟩
  · unfold lS
    rw [List.nodup_iff_pairwise_ne, List.pairwise_map]
    refine List.Pairwise.imp_of_mem (R := fun a b => a ≠ b) (fun {a b} ha hb hab z => hab (p.inj (List.mem_range.mp ha) (List.mem_range.mp hb) z)) ?_
    exact List.nodup_range
  · unfold lS at hx
    obtain ⟨s, hs, rfl⟩ := List.mem_map.mp hx
    exact (p.1 s (List.mem_range.mp hs)).1
theorem PL.pm {n : Nat} {l : List Nat} (h : PL n l) : Pm n (sl l) (fs (sl l) n) := sl_pm h.1 h.2.1 h.2.2
theorem dgl_lS {n : Nat} {S : Nat → Nat} : dgl n (lS n S) = dg S n := dg_cong n (fun s hs => lS_sl hs)
def nbl (n : Nat) (l : List Nat) (a b : Nat) : List Nat := lS n (sw (sl l) a b)
theorem nbl_PL {n : Nat} {l : List Nat} {a b : Nat} (h : PL n l) (ha : a < n) (hb : b < n) : PL n (nbl n l a b) := lS_PL (h.pm.xc ha hb)
theorem sw_c (S : Nat → Nat) (a b : Nat) : sw S a b = sw S b a := by
  funext s
  unfold sw
  by_cases h1 : s = a
  · by_cases h2 : s = b
    · subst h1; subst h2; rfl
    · rw [if_pos h1, if_neg h2, if_pos h1]
  · by_cases h2 : s = b
    · rw [if_neg h1, if_pos h2, if_pos h2]
    · rw [if_neg h1, if_neg h2, if_neg h2, if_neg h1]
theorem sw_sw (S : Nat → Nat) (a b : Nat) : sw (sw S a b) a b = S := by
  funext s
  unfold sw
  by_cases h1 : s = a
  · subst h1
    rw [if_pos rfl]
    by_cases h2 : b = s
    · subst h2; rw [if_pos rfl]
    · rw [if_neg h2, if_pos rfl]
  · by_cases h2 : s = b
    · subst h2
      rw [if_neg h1, if_pos rfl, if_pos rfl]
    · rw [if_neg h1, if_neg h2, if_neg h1, if_neg h2]
def nb (n : Nat) (g : Bool) (l l' : List Nat) : Prop := ∃ s t, s < n ∧ lf n g s = some t ∧ l' = nbl n l s t
theorem nb_PL {n : Nat} {g : Bool} {l l' : List Nat} (h : PL n l) (b : nb n g l l') : PL n l' := by
  obtain ⟨s, t, h1, h2, rfl⟩ := b
  exact nbl_PL h h1 (lf_lt h1 h2)
theorem nb_rt {n : Nat} {g : Bool} {l l' : List Nat} : nb n g l l' ↔ ∃ s t, s < n ∧ rt n g s = some t ∧ l' = nbl n l s t := by
  constructor
  · rintro ⟨s, t, h1, h2, rfl⟩
    have ht := lf_lt h1 h2
    refine ⟨t, s, ht, ?_, by unfold nbl; rw [sw_c]⟩
    unfold lf at h2
    unfold rt
    split at h2
    · cases h2
      rw [if_pos (by omega)]
      congr 1
      omega
    · split at h2
      · next hg => cases h2; rw [if_neg (by omega), if_pos hg]; congr 1; omega
      · cases h2
  · rintro ⟨s, t, h1, h2, rfl⟩
    have ht := rt_lt h1 h2
    refine ⟨t, s, ht, ?_, by unfold nbl; rw [sw_c]⟩
    unfold rt at h2
    unfold lf
    split at h2
    · cases h2
      rw [if_pos (by omega)]
      rfl
    · split at h2
      · next hg => cases h2; rw [if_neg (by omega), if_pos hg]; congr 1; omega
      · cases h2
/-- what is reached by at most d exchanges -/
def Rc (n : Nat) (g : Bool) (l0 : List Nat) : Nat → List Nat → Prop
  | 0, l => l = l0
  | d + 1, l => Rc n g l0 d l ∨ ∃ l', Rc n g l0 d l' ∧ nb n g l' l
theorem Rc_PL {n : Nat} {g : Bool} {l0 : List Nat} (h0 : PL n l0) : ∀ {d : Nat} {l : List Nat}, Rc n g l0 d l → PL n l
  | 0, l, h => by rw [show l = l0 from h]; exact h0
  | d + 1, l, h => by
    rcases h with h | ⟨l', h, hb⟩
    · exact Rc_PL h0 h
    · exact nb_PL (Rc_PL h0 h) hb
theorem Rc_up {n : Nat} {g : Bool} {l0 : List Nat} {d : Nat} {l : List Nat} (h : Rc n g l0 d l) : ∀ k, Rc n g l0 (d + k) l
  | 0 => h
  | k + 1 => Or.inl (Rc_up h k)
theorem Rc_mono {n : Nat} {g : Bool} {l0 : List Nat} {d e : Nat} {l : List Nat} (h : Rc n g l0 d l) (he : d ≤ e) : Rc n g l0 e l := by
  have := Rc_up h (e - d)
  rwa [show d + (e - d) = e by omega] at this
/-- nothing more is reached -/
theorem Rc_st {n : Nat} {g : Bool} {l0 : List Nat} {d : Nat} (hs : ∀ l, Rc n g l0 (d + 1) l → Rc n g l0 d l) : ∀ k l, Rc n g l0 (d + k) l → Rc n g l0 d l
  | 0, l, h => h
  | k + 1, l, h => by
    rcases h with h | ⟨l', h, hb⟩
    · exact Rc_st hs k l h
    · exact hs l (Or.inr ⟨l', Rc_st hs k l' h, hb⟩)
def good (n : Nat) (g : Bool) (F : Nat → Nat → Nat) (l : List Nat) : Prop := alh n g F (sl l) (fs (sl l) n) = true
/-- the fewest exchanges and the least seating -/
def Ans (n : Nat) (g : Bool) (F : Nat → Nat → Nat) (l0 : List Nat) (o : Option (Nat × Nat)) : Prop := match o with
  | none => ∀ d l, Rc n g l0 d l → ¬ good n g F l
  | some (d, t) => (∀ l, Rc n g l0 d l → good n g F l → t ≤ dgl n l) ∧ (∃ l, Rc n g l0 d l ∧ good n g F l ∧ dgl n l = t) ∧ ∀ e, e < d → ∀ l, Rc n g l0 e l → ¬ good n g F l
theorem Ans_uq {n : Nat} {g : Bool} {F : Nat → Nat → Nat} {l0 : List Nat} {o o' : Option (Nat × Nat)} (h : Ans n g F l0 o) (h' : Ans n g F l0 o') : o = o' := by
  match o, o', h, h' with
  | none, none, _, _ => rfl
  | none, some (d, t), h, h' =>
    obtain ⟨_, ⟨l, l1, l2, _⟩, _⟩ := h'
    exact absurd l2 (h d l l1)
  | some (d, t), none, h, h' =>
    obtain ⟨_, ⟨l, l1, l2, _⟩, _⟩ := h
    exact absurd l2 (h' d l l1)
  | some (d, t), some (d', t'), h, h' =>
    obtain ⟨a1, ⟨l, l1, l2, l3⟩, a3⟩ := h
    obtain ⟨b1, ⟨m, m1, m2, m3⟩, b3⟩ := h'
    have e : d = d' := by
      rcases Nat.lt_trichotomy d d' with z | z | z
      · exact absurd l2 (b3 d z l l1)
      · exact z
      · exact absurd m2 (a3 d' z m m1)
    subst e
    have q1 := a1 m m1 m2
    have q2 := b1 l l1 l2
    have : t = t' := by omega
    rw [this]
/-! seatings in rising order -/
theorem lvm_in {f : Nat → List (List Nat)} {pre : List Nat} {m : Nat} (hn : m ∉ pre) {l : List Nat} (hl : l ∈ f m) : ∀ q j, j ≤ m → m < j + q → l ∈ lvm f pre q j := by
  intro q
  induction q with
  | zero => intro j h1 h2; omega
  | succ q ih =>
    intro j hj1 hj2
    simp only [lvm, List.mem_append]
    by_cases e : j = m
    · subst e
      rw [if_neg hn]
      exact Or.inl hl
    · exact Or.inr (ih (j + 1) (by omega) (by omega))
theorem lvx_in {n : Nat} : ∀ (suf pre : List Nat), (pre ++ suf).Nodup → (∀ x ∈ pre ++ suf, x < n) → pre ++ suf ∈ lvx n suf.length pre
  | [], pre, _, _ => by simp [lvx]
  | m :: suf, pre, hd, hl => by
    have e : pre ++ m :: suf = (pre ++ [m]) ++ suf := by simp
    have ih := lvx_in (n := n) suf (pre ++ [m]) (by rw [← e]; exact hd) (by rw [← e]; exact hl)
    rw [← e] at ih
    have hm : m ∉ pre := fun z => by
      rw [List.nodup_append] at hd
      exact hd.2.2 m z m (by simp) rfl
    show _ ∈ lvm (fun m => lvx n suf.length (pre ++ [m])) pre n 0
    exact lvm_in hm ih n 0 (by omega) (by have := hl m (by simp); omega)
theorem PL_in {n : Nat} {l : List Nat} (h : PL n l) : l ∈ lvx n n [] := by
  have := lvx_in (n := n) l [] (by simpa using h.1) (by simpa using h.2.1)
  rwa [h.2.2] at this
theorem in_PL {n : Nat} {l : List Nat} (h : l ∈ lvx n n []) : PL n l := by
  obtain ⟨h1, h2, h3, _⟩ := lvx_mem h List.nodup_nil (fun x hx => by cases hx)
  exact ⟨h1, h2, by rw [h3]; simp⟩
theorem dg_bd {S : Nat → Nat} {j : Nat} : ∀ r, (∀ s, s < j + r → S s < 10) → dg S j * 10 ^ r ≤ dg S (j + r) ∧ dg S (j + r) < (dg S j + 1) * 10 ^ r
  | 0, _ => by simp
  | r + 1, hS => by
    have ih := dg_bd (S := S) (j := j) r (fun s hs => hS s (by omega))
    have h1 := hS (j + r) (by omega)
    show dg S j * 10 ^ (r + 1) ≤ dg S (j + r) * 10 + S (j + r) ∧ dg S (j + r) * 10 + S (j + r) < (dg S j + 1) * 10 ^ (r + 1)
    rw [Nat.pow_succ, ← Nat.mul_assoc, ← Nat.mul_assoc]
    omega
theorem lvm_pw {R : List Nat → List Nat → Prop} {f : Nat → List (List Nat)} {pre : List Nat} (h1 : ∀ m, m ∉ pre → (f m).Pairwise R) : ∀ q j, (∀ m m', j ≤ m → m < m' → m' < j + q → m ∉ pre → m' ∉ pre → ∀ l ∈ f m, ∀ l' ∈ f m', R l l') → (lvm f pre q j).Pairwise R := by
  intro q
  induction q with
  | zero => intro j _; exact List.Pairwise.nil
  | succ q ih =>
    intro j h2
    simp only [lvm]
    rw [List.pairwise_append]
    refine ⟨?_, ih (j + 1) (fun m m' a1 a2 a3 => h2 m m' (by omega) a2 (by omega)), fun l hl l' hl' => ?_⟩
    · split
      · exact List.Pairwise.nil
      · next e => exact h1 j e
    · split at hl
      · cases hl
      · next e =>
        obtain ⟨m', m1, m2, m3, m4⟩ := lvm_mem hl'
        exact h2 j m' (by omega) (by omega) (by omega) e m3 l hl l' m4
theorem lvx_pw {n : Nat} (h7 : n ≤ 7) : ∀ k (pre : List Nat), pre.Nodup → (∀ x ∈ pre, x < n) → pre.length + k = n → (lvx n k pre).Pairwise (fun a b => dgl n a < dgl n b) := by
  intro k
  induction k with
  | zero => intro pre _ _ _; exact List.pairwise_singleton _ _
  | succ k ih =>
    intro pre h1 h2 h3
    have hnd : ∀ m, m ∉ pre → (pre ++ [m]).Nodup := fun m hm => by
      rw [List.nodup_append]
      refine ⟨h1, by simp, fun a ha b hb => ?_⟩
      rw [List.mem_singleton.mp hb]
      exact fun z => hm (z ▸ ha)
    show (lvm (fun m => lvx n k (pre ++ [m])) pre n 0).Pairwise _
    have hlt : ∀ m, m < n → ∀ x ∈ pre ++ [m], x < n := fun m hm x hx => by
      rcases List.mem_append.mp hx with z | z
      · exact h2 x z
      · rw [List.mem_singleton.mp z]; exact hm
    have key : ∀ m, m < n → m ∉ pre → ∀ l ∈ lvx n k (pre ++ [m]), (dg (sl pre) pre.length * 10 + m) * 10 ^ k ≤ dgl n l ∧ dgl n l < (dg (sl pre) pre.length * 10 + m + 1) * 10 ^ k := fun m hm hn l hl => by
      obtain ⟨a1, a2, a3, suf, rfl⟩ := lvx_mem hl (hnd m hn) (hlt m hm)
      have z := dg_bd (S := sl (pre ++ [m] ++ suf)) (j := pre.length + 1) k (fun s hs => by
        have := a2 _ (sl_mem (l := pre ++ [m] ++ suf) (s := s) (by rw [a3]; simp; omega))
        omega)
      have e1 : dg (sl (pre ++ [m] ++ suf)) (pre.length + 1) = dg (sl pre) pre.length * 10 + m := by
        rw [← dg_app]
        exact dg_cong _ (fun s hs => sl_app (by simp; omega))
      rw [e1, show pre.length + 1 + k = n by omega] at z
      exact z
    have hf : ∀ m, m < n → m ∉ pre → (lvx n k (pre ++ [m])).Pairwise (fun a b => dgl n a < dgl n b) := fun m hm hn => ih (pre ++ [m]) (hnd m hn) (hlt m hm) (by simp; omega)
    -- members at or above n do not occur: treat them apart
    have gen : ∀ q j, j + q = n → (lvm (fun m => lvx n k (pre ++ [m])) pre q j).Pairwise (fun a b => dgl n a < dgl n b) := by
      intro q
      induction q with
      | zero => intro j _; exact List.Pairwise.nil
      | succ q iq =>
        intro j hj
        simp only [lvm]
        rw [List.pairwise_append]
        refine ⟨?_, iq (j + 1) (by omega), fun l hl l' hl' => ?_⟩
        · split
          · exact List.Pairwise.nil
          · next e => exact hf j (by omega) e
        · split at hl
          · cases hl
          · next e =>
            obtain ⟨m', m1, m2, m3, m4⟩ := lvm_mem hl'
            have k1 := key j (by omega) e l hl
            have k2 := key m' (by omega) m3 l' m4
            have : (dg (sl pre) pre.length * 10 + j + 1) * 10 ^ k ≤ (dg (sl pre) pre.length * 10 + m') * 10 ^ k := Nat.mul_le_mul_right _ (by omega)
            omega
    exact gen n 0 (by omega)
abbrev LX (n : Nat) : List (List Nat) := lvx n n []
theorem LX_lt {n : Nat} (h7 : n ≤ 7) {i j : Nat} (hj : j < (LX n).length) (hij : i < j) : dgl n ((LX n).getD i []) < dgl n ((LX n).getD j []) := by
  have := List.pairwise_iff_getElem.mp (lvx_pw h7 n [] List.nodup_nil (fun x hx => by cases hx) (by simp)) i j (Nat.lt_trans hij hj) hj hij
  rw [List.getD_eq_getElem?_getD, List.getD_eq_getElem?_getD, List.getElem?_eq_getElem hj, List.getElem?_eq_getElem (Nat.lt_trans hij hj)]
  exact this
theorem LX_PL {n : Nat} {i : Nat} (hi : i < (LX n).length) : PL n ((LX n).getD i []) := by
  rw [List.getD_eq_getElem?_getD, List.getElem?_eq_getElem hi]
  exact in_PL (List.getElem_mem hi)
theorem LX_ix {n : Nat} {l : List Nat} (h : PL n l) : ∃ i, i < (LX n).length ∧ (LX n).getD i [] = l := by
  obtain ⟨i, hi, he⟩ := List.getElem_of_mem (PL_in h)
  exact ⟨i, hi, by rw [List.getD_eq_getElem?_getD, List.getElem?_eq_getElem hi]; exact he⟩
theorem dgl_inj {n : Nat} (h7 : n ≤ 7) {l l' : List Nat} (h : PL n l) (h' : PL n l') (e : dgl n l = dgl n l') : l = l' := by
  obtain ⟨i, hi, rfl⟩ := LX_ix h
  obtain ⟨j, hj, rfl⟩ := LX_ix h'
  rcases Nat.lt_trichotomy i j with z | z | z
  · have := LX_lt h7 hj z; omega
  · rw [z]
  · have := LX_lt h7 hi z; omega
/-! ranks -/
theorem ct_lt {p q : Nat → Bool} {x : Nat} : ∀ k, (∀ i, i < k → p i = true → q i = true) → x < k → ¬ p x = true → q x = true → ct p k < ct q k
  | 0, _, h, _, _ => by omega
  | k + 1, hpq, hx, h1, h2 => by
    have hle : ∀ k, (∀ i, i < k → p i = true → q i = true) → ct p k ≤ ct q k := by
      intro k
      induction k with
      | zero => intro _; exact Nat.le_refl _
      | succ k ih =>
        intro h
        have := ih (fun i hi => h i (by omega))
        by_cases hp : p k = true
        · rw [ct_t hp, ct_t (h k (by omega) hp)]; omega
        · rw [ct_f hp]
          by_cases hq : q k = true
          · rw [ct_t hq]; omega
          · rw [ct_f hq]; exact this
    by_cases e : x = k
    · subst e
      rw [ct_f h1, ct_t h2]
      have := hle x (fun i hi => hpq i (by omega))
      omega
    · have ih := ct_lt k (fun i hi => hpq i (by omega)) (by omega) h1 h2
      by_cases hp : p k = true
      · rw [ct_t hp, ct_t (hpq k (by omega) hp)]; omega
      · rw [ct_f hp]
        by_cases hq : q k = true
        · rw [ct_t hq]; omega
        · rw [ct_f hq]; exact ih
theorem low_bit : ∀ m, m < 7 → ∀ i, i < 7 → (2 ^ m - 1).testBit i = decide (i < m) := by decide +kernel
theorem popc_low {f m m' : Nat} (hm : m < m') (h7 : m' < 7) (h : f.testBit m = true) : popc (f &&& (2 ^ m - 1)) < popc (f &&& (2 ^ m' - 1)) := by
  unfold popc
  refine ct_lt (x := m) 7 (fun i hi z => ?_) (by omega) ?_ ?_
  · rw [Nat.testBit_and, low_bit m (by omega) i hi] at z
    rw [Nat.testBit_and, low_bit m' h7 i hi]
    simp only [Bool.and_eq_true, decide_eq_true_eq] at z ⊢
    exact ⟨z.1, by omega⟩
  · rw [Nat.testBit_and, low_bit m (by omega) m (by omega)]
    simp
  · rw [Nat.testBit_and, low_bit m' h7 m (by omega), h]
    simp [hm]
theorem popc_low' {f m : Nat} (h7 : m < 7) (h : f.testBit m = true) : popc (f &&& (2 ^ m - 1)) < popc f := by
  unfold popc
  refine ct_lt (x := m) 7 (fun i hi z => ?_) h7 ?_ h
  · rw [Nat.testBit_and] at z
    simp only [Bool.and_eq_true] at z
    exact z.1
  · rw [Nat.testBit_and, low_bit m h7 m h7]
    simp
/-- rank and who is free, k seats read -/
def rkf (n : Nat) (S : Nat → Nat) : Nat → Nat × Nat
  | 0 => (0, 2 ^ n - 1)
  | k + 1 => ((rkf n S k).1 * (n - k) + popc ((rkf n S k).2 &&& (2 ^ (S k) - 1)), clr (rkf n S k).2 (S k))
theorem rkf_cong {n : Nat} {S S' : Nat → Nat} : ∀ k, (∀ s, s < k → S s = S' s) → rkf n S k = rkf n S' k
  | 0, _ => rfl
  | k + 1, h => by
    simp only [rkf]
    rw [rkf_cong k (fun s hs => h s (by omega)), h k (by omega)]
theorem popc_all : ∀ n, n ≤ 7 → popc (2 ^ n - 1) = n := by decide +kernel
theorem rkf_ub {n : Nat} (h7 : n ≤ 7) {l : List Nat} (h : PL n l) : ∀ k, k ≤ n → UB n (l.take k) (rkf n (sl l) k).2 ∧ popc (rkf n (sl l) k).2 = n - k
  | 0, _ => by
    rw [List.take_zero]
    exact ⟨UB.nil, popc_all n h7⟩
  | k + 1, hk => by
    have ih := rkf_ub h7 h k (by omega)
    have hm := h.2.1 _ (sl_mem (l := l) (s := k) (by have := h.2.2; omega))
    have hn : sl l k ∉ l.take k := fun z => by
      obtain ⟨i, hi, he⟩ := List.getElem_of_mem z
      rw [List.getElem_take] at he
      rw [List.length_take] at hi
      have hi2 : i < l.length := by omega
      have := sl_inj h.1 (i := i) (j := k) hi2 (by have := h.2.2; omega) (by rw [sl_eq hi2]; exact he)
      omega
    have hb : (rkf n (sl l) k).2.testBit (sl l k) = true := by rw [ih.1.2 _ hm]; exact decide_eq_true hn
    refine ⟨?_, ?_⟩
    · rw [take_s (by have := h.2.2; omega)]
      exact ih.1.put h7 hm
    · show popc (clr (rkf n (sl l) k).2 (sl l k)) = n - (k + 1)
      have := popc_clr (by omega) hb
      omega
def rkp (n : Nat) : Nat → Nat
  | 0 => 1
  | k + 1 => rkp n k * (n - k)
theorem rkf_c {n : Nat} (h7 : n ≤ 7) {l : List Nat} (h : PL n l) {k : Nat} (hk : k < n) : popc ((rkf n (sl l) k).2 &&& (2 ^ (sl l k) - 1)) < n - k ∧ (rkf n (sl l) k).2.testBit (sl l k) = true ∧ sl l k < 7 := by
  have ih := rkf_ub h7 h k (by omega)
  have hm := h.2.1 _ (sl_mem (l := l) (s := k) (by have := h.2.2; omega))
  have hn : sl l k ∉ l.take k := fun z => by
    obtain ⟨i, hi, he⟩ := List.getElem_of_mem z
    rw [List.getElem_take] at he
    rw [List.length_take] at hi
    have hi2 : i < l.length := by omega
    have := sl_inj h.1 (i := i) (j := k) hi2 (by have := h.2.2; omega) (by rw [sl_eq hi2]; exact he)
    omega
  have hb : (rkf n (sl l) k).2.testBit (sl l k) = true := by rw [ih.1.2 _ hm]; exact decide_eq_true hn
  have := popc_low' (by omega) hb
  exact ⟨by omega, hb, by omega⟩
theorem rkf_lt {n : Nat} (h7 : n ≤ 7) {l : List Nat} (h : PL n l) : ∀ k, k ≤ n → (rkf n (sl l) k).1 < rkp n k
  | 0, _ => by simp [rkf, rkp]
  | k + 1, hk => by
    have ih := rkf_lt h7 h k (by omega)
    have c := (rkf_c h7 h (show k < n by omega)).1
    show (rkf n (sl l) k).1 * (n - k) + popc ((rkf n (sl l) k).2 &&& (2 ^ (sl l k) - 1)) < rkp n k * (n - k)
    have : ((rkf n (sl l) k).1 + 1) * (n - k) ≤ rkp n k * (n - k) := Nat.mul_le_mul_right _ ih
    rw [Nat.add_mul, Nat.one_mul] at this
    omega
theorem rkp_le : ∀ n, n ≤ 7 → ∀ k, k ≤ n → rkp n k ≤ 5040 := by decide +kernel
abbrev rk (n : Nat) (l : List Nat) : Nat := (rkf n (sl l) n).1
theorem rk_lt {n : Nat} (h7 : n ≤ 7) {l : List Nat} (h : PL n l) : rk n l < 5040 := Nat.lt_of_lt_of_le (rkf_lt h7 h n (Nat.le_refl _)) (rkp_le n h7 n (Nat.le_refl _))
theorem rkf_inj {n : Nat} (h7 : n ≤ 7) {l l' : List Nat} (h : PL n l) (h' : PL n l') : ∀ k, k ≤ n → (rkf n (sl l) k).1 = (rkf n (sl l') k).1 → (rkf n (sl l) k).2 = (rkf n (sl l') k).2 ∧ ∀ s, s < k → sl l s = sl l' s
  | 0, _, _ => ⟨rfl, fun s hs => by omega⟩
  | k + 1, hk, e => by
    have c := rkf_c h7 h (show k < n by omega)
    have c' := rkf_c h7 h' (show k < n by omega)
    have e1 : (rkf n (sl l) k).1 * (n - k) + popc ((rkf n (sl l) k).2 &&& (2 ^ (sl l k) - 1)) = (rkf n (sl l') k).1 * (n - k) + popc ((rkf n (sl l') k).2 &&& (2 ^ (sl l' k) - 1)) := e
    have hd : (rkf n (sl l) k).1 = (rkf n (sl l') k).1 := by
      have z : ((rkf n (sl l) k).1 * (n - k) + popc ((rkf n (sl l) k).2 &&& (2 ^ (sl l k) - 1))) / (n - k) = ((rkf n (sl l') k).1 * (n - k) + popc ((rkf n (sl l') k).2 &&& (2 ^ (sl l' k) - 1))) / (n - k) := by rw [e1]
      rw [Nat.mul_comm (rkf n (sl l) k).1, Nat.mul_add_div (by omega), Nat.div_eq_of_lt c.1, Nat.mul_comm (rkf n (sl l') k).1, Nat.mul_add_div (by omega), Nat.div_eq_of_lt c'.1] at z
      omega
    have ih := rkf_inj h7 h h' k (by omega) hd
    rw [hd] at e1
    have hc : popc ((rkf n (sl l) k).2 &&& (2 ^ (sl l k) - 1)) = popc ((rkf n (sl l') k).2 &&& (2 ^ (sl l' k) - 1)) := by omega
    rw [← ih.1] at hc c'
    have hs : sl l k = sl l' k := by
      rcases Nat.lt_trichotomy (sl l k) (sl l' k) with z | z | z
      · have := popc_low z c'.2.2 c.2.1; omega
      · exact z
      · have := popc_low z c.2.2 c'.2.1; omega
    refine ⟨?_, fun s hs2 => ?_⟩
    · show clr (rkf n (sl l) k).2 (sl l k) = clr (rkf n (sl l') k).2 (sl l' k)
      rw [ih.1, hs]
    · by_cases e2 : s = k
      · rw [e2]; exact hs
      · exact ih.2 s (by omega)
theorem rk_inj {n : Nat} (h7 : n ≤ 7) {l l' : List Nat} (h : PL n l) (h' : PL n l') (e : rk n l = rk n l') : l = l' := lS_ext h.2.2 h'.2.2 (rkf_inj h7 h h' n (Nat.le_refl _) e).2
/-- no more than all of them -/
theorem nd_len {n : Nat} (h7 : n ≤ 7) {R : List (List Nat)} (h1 : R.Nodup) (h2 : ∀ l ∈ R, PL n l) : R.length ≤ 5040 := by
  have := List.Nodup.length_le_of_subset h1 (fun l hl => PL_in (h2 l hl))
  exact Nat.le_trans this (lvx_len n h7)
