/-! bounds of worths; mouths in the order of the living -/
def Bd (v : Int32) : Prop := -1000000 ≤ v.toInt ∧ v.toInt ≤ 1000000
theorem bnd_bd (v : Int64) : Bd (bnd v) := by
  unfold bnd
  split
  next => exact ⟨by decide +kernel, by decide +kernel⟩
  next h1 =>
    split
    next => exact ⟨by decide +kernel, by decide +kernel⟩
    next h2 =>
      rw [Int64.lt_iff_toInt_lt] at h1 h2
      have e1 : (1000000 : Int64).toInt = 1000000 := by decide +kernel
      have e2 : (-1000000 : Int64).toInt = -1000000 := by decide +kernel
      rw [e1] at h1
      rw [e2] at h2
      have e3 : v.toInt32.toInt = v.toInt := by
        rw [Int64.toInt_toInt32]
        apply Int.bmod_eq_of_le <;> omega
      unfold Bd
      rw [e3]
      omega
theorem Bd01 {v : Int32} (h : v = 0 ∨ v = 1) : Bd v := by
  rcases h with rfl | rfl
  · exact ⟨by decide +kernel, by decide +kernel⟩
  · exact ⟨by decide +kernel, by decide +kernel⟩
theorem Bdn {k : Nat} (h : k ≤ 1000000) : Bd (nI k) := by
  unfold Bd
  rw [nI_toInt (by omega)]
  omega
theorem opv_bd {o : Nat} {x y : Int32} (h1 : 2 ≤ o) (h2 : o ≤ 5) : Bd (opv o x y) := by
  unfold opv
  split
  · exact bnd_bd _
  · split
    · exact bnd_bd _
    · split
      · exact bnd_bd _
      · split
        · split
          · exact Bd01 (Or.inl rfl)
          · exact bnd_bd _
        · exfalso; omega
theorem tokE_bd {H : Nat} {ws : Nat → Int32} (hws : ∀ j, j < 6 → Bd (ws j)) {t : Nat × Nat} {ty ty' : List Bool} {st : List Int32} (h : tyt H t ty = some ty') (hv : vt ty st) (hb : ∀ v ∈ st, Bd v) : ∀ v ∈ tokE ws t st, Bd v := by
  have hv' := tokE_vt (ws := ws) h hv
  rcases tyt_c h with ⟨e, _, h3, rfl⟩ | ⟨e, _, h3, rfl⟩ | ⟨e, s, rfl, rfl⟩ | ⟨e1, e2, s, rfl, rfl⟩ | ⟨e1, e2, s, rfl, rfl⟩ | ⟨e1, e2, s, rfl, rfl⟩
  · unfold tokE
    rw [if_pos e]
    intro v hm
    rcases List.mem_cons.mp hm with rfl | hm
    · exact Bdn (by omega)
    · exact hb v hm
  · unfold tokE
    rw [if_neg (by omega), if_pos e]
    intro v hm
    rcases List.mem_cons.mp hm with rfl | hm
    · exact hws _ h3
    · exact hb v hm
  · obtain ⟨v, r, rfl, h1, h2⟩ := vt1 hv
    unfold tokE at hv' ⊢
    rw [if_neg (by omega), if_neg (by omega), if_pos e] at hv' ⊢
    intro v hm
    rcases List.mem_cons.mp hm with rfl | hm
    · exact Bd01 (hv'.1 rfl)
    · exact hb v (List.mem_cons_of_mem _ hm)
  · obtain ⟨y, r, rfl, h1, h2⟩ := vt1 hv
    obtain ⟨x, r, rfl, h3, h4⟩ := vt1 h2
    rw [tokE_o (by omega) (by omega)]
    intro v hm
    rcases List.mem_cons.mp hm with rfl | hm
    · exact opv_bd e1 e2
    · exact hb v (List.mem_cons_of_mem _ (List.mem_cons_of_mem _ hm))
  · obtain ⟨y, r, rfl, h1, h2⟩ := vt1 hv
    obtain ⟨x, r, rfl, h3, h4⟩ := vt1 h2
    rw [tokE_o (by omega) (by omega)] at hv' ⊢
    intro v hm
    rcases List.mem_cons.mp hm with rfl | hm
    · exact Bd01 (hv'.1 rfl)
    · exact hb v (List.mem_cons_of_mem _ (List.mem_cons_of_mem _ hm))
  · obtain ⟨y, r, rfl, h1, h2⟩ := vt1 hv
    obtain ⟨x, r, rfl, h3, h4⟩ := vt1 h2
    rw [tokE_o (by omega) (by omega)] at hv' ⊢
    intro v hm
    rcases List.mem_cons.mp hm with rfl | hm
    · exact Bd01 (hv'.1 rfl)
    · exact hb v (List.mem_cons_of_mem _ (List.mem_cons_of_mem _ hm))
theorem run_bd {H : Nat} {ws : Nat → Int32} (hws : ∀ j, j < 6 → Bd (ws j)) : ∀ {ts : Tks} {ty ty' : List Bool} {st : List Int32}, tyc H ts ty = some ty' → vt ty st → (∀ v ∈ st, Bd v) → ∀ v ∈ run ws ts st, Bd v
  | [], ty, ty', st, h, hv, hb => hb
  | t :: r, ty, ty', st, h, hv, hb => by
    simp only [tyc] at h
    cases hq : tyt H t ty with
    | none => rw [hq] at h; cases h
    | some s => rw [hq] at h; exact run_bd hws (ts := r) h (tokE_vt hq hv) (tokE_bd hws hq hv hb)
theorem wth_bd {ws : Nat → Int32} (hws : ∀ j, j < 6 → Bd (ws j)) : ∀ {M : List (Tks × Tks)}, (∀ c ∈ M, ClT c) → Bd (wth ws M)
  | [], _ => Bd01 (Or.inl rfl)
  | c :: r, h => by
    have hc := h c List.mem_cons_self
    have hr := wth_bd hws (M := r) (fun d hd => h d (List.mem_cons_of_mem _ hd))
    have h2 : Bd ((run ws c.2 []).headD 0) := by
      obtain ⟨v, hv⟩ := run_1 (ws := ws) hc.2
      have := run_bd hws hc.2 (st := []) trivial (fun v hv => by simp at hv)
      rw [hv] at this ⊢
      exact this v (by simp)
    simp only [wth]
    split
    · exact h2
    · split
      · exact hr
      · exact h2
/-- items of members are small -/
def FS (n : Nat) (F : Nat → Nat → Nat) : Prop := ∀ i m, i < 7 → m < n → F i m ≤ 99
/-- manners that hold are well made -/
def HT (hm : Option (List (Tks × Tks))) : Prop := ∀ M, hm = some M → ∀ c ∈ M, ClT c
theorem pwt_bd {hm : Option (List (Tks × Tks))} (hT : HT hm) {n : Nat} {F : Nat → Nat → Nat} (hF : FS n F) {a b s : Nat} (ha : a < n) (hb : b < n) (hs : s < 7) : Bd (pwt hm F a b s) := by
  unfold pwt
  split
  next => exact Bdn (by split <;> omega)
  next M =>
    refine wth_bd (fun j hj => ?_) (hT M rfl)
    have q1 := hF 0 a (by omega) ha
    have q2 := hF 0 b (by omega) hb
    have q3 := hF 1 a (by omega) ha
    have q4 := hF 2 a (by omega) ha
    unfold wsv
    split
    · exact Bdn (by omega)
    · split
      · exact Bdn (by omega)
      · split
        · exact Bdn (by omega)
        · split
          · exact Bdn (by unfold slp; split <;> omega)
          · split
            · exact Bdn (by split <;> omega)
            · exact Bdn (by omega)
theorem pI_bd {hm : Option (List (Tks × Tks))} (hT : HT hm) {n : Nat} {F : Nat → Nat → Nat} (hF : FS n F) {a b s : Nat} (ha : a < n) (hb : b < n) (hs : s < 7) : -1000000 ≤ pI hm F a b s ∧ pI hm F a b s ≤ 1000000 := pwt_bd hT hF ha hb hs
theorem gn_bd {hm : Option (List (Tks × Tks))} (hT : HT hm) {n : Nat} {g : Bool} {F : Nat → Nat → Nat} (hF : FS n F) {w : Nat} : ∀ l i, (∀ x ∈ l, x < n) → i < l.length → i < 7 → -1000000 ≤ gn hm g F w l i ∧ gn hm g F w l i ≤ 1000000 := by
  intro l i hl hi h7
  unfold gn
  split
  · split
    · omega
    · have := pI_bd hT hF (hl _ (sl_mem (s := i - 1) (by omega))) (hl _ (sl_mem hi)) h7
      omega
  · split
    · omega
    · split
      · split
        · have := rs_le (F := F) (g := g) (a := al F (l.take i) ++ [sl l i])
          omega
        · omega
      · split <;> omega
theorem la_bd {hm : Option (List (Tks × Tks))} (hT : HT hm) {n : Nat} (h0 : 0 < n) {g : Bool} {F : Nat → Nat → Nat} (hF : FS n F) {w : Nat} : ∀ l, (∀ x ∈ l, x < n) → l.length = n → -1000000 ≤ la hm n g F w l ∧ la hm n g F w l ≤ 1000000 := by
  intro l hl hn
  unfold la
  split
  · omega
  · split
    · have := rs_le (F := F) (g := g) (a := al F l)
      omega
    · split
      · have := pI_bd hT hF (hl _ (sl_mem (s := n - 1) (by omega))) (hl _ (sl_mem (s := 0) (by omega))) (s := 0) (by omega)
        omega
      · split
        · omega
        · split <;> omega
/-! mouths -/
theorem mo_dn {n : Nat} {g : Bool} {F : Nat → Nat → Nat} {l : List Nat} : ∀ j t, j ≤ t → t ≤ l.length → mo n g F (sl l) j t = (al F ((l.take t).drop (t - j))).getLast? := by
  intro j
  induction j with
  | zero =>
    intro t _ ht
    have e : (l.take t).drop (t - 0) = [] := List.drop_eq_nil_of_le (by rw [List.length_take]; omega)
    rw [e]
    rfl
  | succ j ih =>
    intro t hj ht
    obtain ⟨t, rfl⟩ : ∃ u, t = u + 1 := ⟨t - 1, by omega⟩
    have hl : lf n g (t + 1) = some t := by simp [lf]
    have e1 : l.take (t + 1) = l.take t ++ [sl l t] := by
      rw [sl_eq (by omega)]
      exact List.take_succ_eq_append_getElem (by omega)
    have e2 : (l.take (t + 1)).drop (t + 1 - (j + 1)) = (l.take t).drop (t - j) ++ [sl l t] := by
      rw [e1, show t + 1 - (j + 1) = t - j by omega]
      exact List.drop_append_of_le_length (by rw [List.length_take]; omega)
    rw [e2, al_app]
    by_cases hy : F 3 (sl l t) ≠ 1
    · rw [mo_y hl hy, if_neg hy]
      simp
    · rw [mo_o hl hy, if_pos (by omega)]
      exact ih t (by omega) (by omega)
theorem mo_up {n : Nat} {g : Bool} {F : Nat → Nat → Nat} {l : List Nat} : ∀ s k, s ≤ k → s ≤ l.length → mo n g F (sl l) k s = ((al F (l.take s)).getLast?).or (mo n g F (sl l) (k - s) 0) := by
  intro s
  induction s with
  | zero => intro k _ _; rw [List.take_zero]; rfl
  | succ s ih =>
    intro k hk hs
    obtain ⟨k, rfl⟩ : ∃ u, k = u + 1 := ⟨k - 1, by omega⟩
    have hl : lf n g (s + 1) = some s := by simp [lf]
    have e1 : l.take (s + 1) = l.take s ++ [sl l s] := by
      rw [sl_eq (by omega)]
      exact List.take_succ_eq_append_getElem (by omega)
    rw [e1, al_app]
    by_cases hy : F 3 (sl l s) ≠ 1
    · rw [mo_y hl hy, if_neg hy]
      simp
    · rw [mo_o hl hy, if_pos (by omega), show k + 1 - (s + 1) = k - s by omega]
      exact ih k (by omega) (by omega)
theorem mo_wr {n : Nat} {F : Nat → Nat → Nat} {S : Nat → Nat} (h0 : 0 < n) : ∀ j, mo n true F S j 0 = mo n true F S j n
  | 0 => rfl
  | j + 1 => by
    have h1 : lf n true 0 = some (n - 1) := by simp [lf]
    have h2 : lf n true n = some (n - 1) := by simp [lf, h0]
    simp only [mo, h1, h2]
theorem mo_rw {n : Nat} {F : Nat → Nat → Nat} {S : Nat → Nat} : ∀ j, mo n false F S j 0 = none
  | 0 => rfl
  | j + 1 => by simp [mo, lf]
/-- the mouth of the one on seat s: the last of the living ahead of it, else, in a ring, the last of those behind it -/
theorem mo_l {g : Bool} {F : Nat → Nat → Nat} {l : List Nat} {s : Nat} (hs : s < l.length) : mo l.length g F (sl l) (l.length - 1) s = ((al F (l.take s)).getLast?).or (if g = true then (al F (l.drop (s + 1))).getLast? else none) := by
  rw [mo_up s (l.length - 1) (by omega) (by omega)]
  cases g with
  | true =>
    rw [mo_wr (by omega), mo_dn _ _ (by omega) (Nat.le_refl _), List.take_length, show l.length - (l.length - 1 - s) = s + 1 by omega, if_pos rfl]
  | false => rw [mo_rw, if_neg (by decide)]
theorem gl_i {a : List Nat} : a.getLast? = if 0 < a.length then some (sl a (a.length - 1)) else none := by
  rw [List.getLast?_eq_getElem?]
  by_cases h : 0 < a.length
  · rw [if_pos h, sl_eq (by omega)]
    exact List.getElem?_eq_getElem (by omega)
  · rw [if_neg h]
    exact List.getElem?_eq_none (by omega)
theorem al_cut {F : Nat → Nat → Nat} {l : List Nat} {s : Nat} (hs : s < l.length) (hy : F 3 (sl l s) ≠ 1) : al F l = al F (l.take s) ++ sl l s :: al F (l.drop (s + 1)) := by
  have e : l = l.take s ++ sl l s :: l.drop (s + 1) := by
    rw [sl_eq hs, List.getElem_cons_drop]
    exact (List.take_append_drop s l).symm
  conv => lhs; rw [e]
  unfold al
  rw [List.filter_append, List.filter_cons_of_pos (by simpa using hy)]
theorem sl_r {a b : List Nat} {i : Nat} : sl (a ++ b) (a.length + i) = sl b i := by
  simp only [sl, List.getD_eq_getElem?_getD]
  rw [List.getElem?_append_right (by omega), Nat.add_sub_cancel_left]
theorem sl_c {x : Nat} {b : List Nat} {i : Nat} : sl (x :: b) (i + 1) = sl b i := by simp [sl]
/-- the mouth, by places among the living -/
theorem mth_al {n : Nat} {g : Bool} {F : Nat → Nat → Nat} {l : List Nat} {T : Nat → Nat} (hn : l.length = n) {s : Nat} (hs : s < n) (hy : F 3 (sl l s) ≠ 1) (hT : T (sl l s) = s) : mth n g F (sl l) T (sl l s) = (bfo g (al F l).length (al F (l.take s)).length).map (sl (al F l)) := by
  subst hn
  rw [mth_y hy, hT, mo_l hs, gl_i, gl_i, al_cut hs hy]
  by_cases hA : 0 < (al F (l.take s)).length
  · have e : bfo g (al F (l.take s) ++ sl l s :: al F (l.drop (s + 1))).length (al F (l.take s)).length = some ((al F (l.take s)).length - 1) := if_pos hA
    rw [if_pos hA, e, Option.some_or, Option.map_some, sl_app (by omega)]
  · have hA0 : al F (l.take s) = [] := List.eq_nil_of_length_eq_zero (by omega)
    rw [if_neg hA, hA0]
    simp only [List.nil_append, List.length_cons, List.length_nil, Option.none_or]
    cases g with
    | false =>
      rw [if_neg (by decide)]
      rfl
    | true =>
      rw [if_pos rfl]
      by_cases hB : 0 < (al F (l.drop (s + 1))).length
      · rw [if_pos hB]
        have e : bfo true ((al F (l.drop (s + 1))).length + 1) 0 = some ((al F (l.drop (s + 1))).length + 1 - 1) := by
          unfold bfo
          rw [if_neg (by omega), if_pos ⟨rfl, by omega⟩]
        rw [e, Option.map_some]
        congr 1
        rw [show (al F (l.drop (s + 1))).length + 1 - 1 = ((al F (l.drop (s + 1))).length - 1) + 1 by omega, sl_c]
      · rw [if_neg hB]
        have e : bfo true ((al F (l.drop (s + 1))).length + 1) 0 = none := by
          unfold bfo
          rw [if_neg (by omega), if_neg (fun z => by have := z.2; omega)]
        rw [e]
        rfl
