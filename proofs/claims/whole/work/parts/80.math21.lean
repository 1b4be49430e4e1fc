/-! the whole of a seating as the class adds it up is what is wished -/
theorem ct_pt {q : Nat → Bool} {x : Nat} {b : Bool} (hq : q x = false) : ∀ n, x < n → ct (fun m => q m || (decide (m = x) && b)) n = ct q n + (if b = true then 1 else 0) := by
  intro n
  induction n with
  | zero => intro h; omega
  | succ n ih =>
    intro hx
    by_cases e : x = n
    · subst e
      have e1 : ct (fun m => q m || (decide (m = x) && b)) x = ct q x := ct_cong (fun i hi => by
        have : decide (i = x) = false := by simp; omega
        simp [this])
      rw [ct_f (p := q) (by rw [hq]; simp)]
      cases b with
      | true => rw [ct_t (by simp), e1]; rfl
      | false => rw [ct_f (by simp [hq]), e1]; rfl
    · have := ih (by omega)
      have e2 : decide (n = x) = false := by simp; omega
      by_cases hn : q n = true
      · rw [ct_t (by simp [hn]), ct_t hn, this]; omega
      · rw [ct_f (by simp [hn, e2]), ct_f hn, this]
def lct (p : Nat → Bool) (l : List Nat) : Nat := (l.filter p).length
theorem lct_mem {p : Nat → Bool} {n : Nat} : ∀ {l : List Nat}, l.Nodup → (∀ x ∈ l, x < n) → lct p l = ct (fun m => decide (m ∈ l) && p m) n
  | [], _, _ => by
    have : ∀ n, ct (fun m => decide (m ∈ ([] : List Nat)) && p m) n = 0 := by
      intro n
      induction n with
      | zero => rfl
      | succ n ih => rw [ct_f (by simp), ih]
    rw [this]
    rfl
  | x :: l, hd, hl => by
    have hd' := List.nodup_cons.mp hd
    have ih := lct_mem (p := p) (n := n) hd'.2 (fun y hy => hl y (List.mem_cons_of_mem _ hy))
    have h1 := ct_pt (q := fun m => decide (m ∈ l) && p m) (x := x) (b := p x) (by simp [hd'.1]) n (hl x List.mem_cons_self)
    have h2 : ct (fun m => decide (m ∈ x :: l) && p m) n = ct (fun m => (decide (m ∈ l) && p m) || (decide (m = x) && p x)) n := ct_cong (fun i hi => by
      by_cases e : i = x
      · subst e; simp
      · simp [e])
    rw [h2, h1, ← ih]
    unfold lct
    cases hp : p x with
    | true => simp [List.filter_cons_of_pos hp]
    | false => rw [List.filter_cons_of_neg (by simp [hp])]; simp
theorem lct_sl {p : Nat → Bool} {l : List Nat} : ∀ k, k ≤ l.length → lct p (l.take k) = ct (fun s => p (sl l s)) k
  | 0, _ => by rw [List.take_zero]; rfl
  | k + 1, h => by
    have ih := lct_sl (p := p) (l := l) k (by omega)
    have e1 : l.take (k + 1) = l.take k ++ [sl l k] := by
      rw [sl_eq (by omega)]
      exact List.take_succ_eq_append_getElem (by omega)
    rw [e1]
    unfold lct at ih ⊢
    rw [List.filter_append, List.length_append, ih]
    by_cases hp : p (sl l k) = true
    · rw [ct_t (p := fun s => p (sl l s)) (k := k) hp, List.filter_cons_of_pos hp]; rfl
    · rw [ct_f (p := fun s => p (sl l s)) (k := k) hp, List.filter_cons_of_neg hp]; rfl
/-- counted by members or by seats -/
theorem ct_seats {p : Nat → Bool} {n : Nat} {l : List Nat} (h1 : l.Nodup) (h2 : ∀ x ∈ l, x < n) (h3 : l.length = n) : ct p n = ct (fun s => p (sl l s)) n := by
  have e1 := lct_mem (p := p) h1 h2
  have e2 := lct_sl (p := p) (l := l) n (by omega)
  rw [← h3, List.take_length, h3] at e2
  rw [← e2, e1]
  refine ct_cong (fun i hi => ?_)
  have q := (sl_pm h1 h2 h3).2 i hi
  have : i ∈ l := by
    have z := sl_mem (l := l) (s := fs (sl l) n i) (by omega)
    rw [q.2] at z
    exact z
  simp [this]
theorem take_s {l : List Nat} {k : Nat} (h : k < l.length) : l.take (k + 1) = l.take k ++ [sl l k] := by
  rw [sl_eq h]
  exact List.take_succ_eq_append_getElem h
theorem sl_m {a b : List Nat} {x : Nat} : sl (a ++ x :: b) a.length = x := by simp [sl, List.getD_eq_getElem?_getD]
theorem sl_inj {l : List Nat} (h : l.Nodup) {i j : Nat} (hi : i < l.length) (hj : j < l.length) (e : sl l i = sl l j) : i = j := by
  rw [sl_eq hi, sl_eq hj] at e
  exact (List.getElem_inj h).mp e
/-! wish 1 -/
theorem hrd_al {n : Nat} {g : Bool} {F : Nat → Nat → Nat} {l : List Nat} {T : Nat → Nat} (hn : l.length = n) {s : Nat} (hs : s < n) (hy : F 3 (sl l s) ≠ 1) (hT : T (sl l s) = s) : hrd n g F (sl l) T (sl l s) = match bfo g (al F l).length (al F (l.take s)).length with
    | none => false
    | some b => decide (¬ swl F (sl (al F l) b) (sl l s)) := by
  have := mth_al (g := g) hn hs hy hT
  cases hb : bfo g (al F l).length (al F (l.take s)).length with
  | none => rw [hb] at this; exact hrd_n this
  | some b => rw [hb] at this; exact hrd_s this
theorem w1_lp {hm : Option (List (Tks × Tks))} {n : Nat} {g : Bool} {F : Nat → Nat → Nat} {l : List Nat} (hp : Pm n (sl l) (fs (sl l) n)) (hn : l.length = n) : ∀ k, k ≤ n → ((ct (fun s => hrd n g F (sl l) (fs (sl l) n) (sl l s)) k : Nat) : Int) = psm (gn hm g F 1 l) k + (if 0 < (al F (l.take k)).length then la hm n g F 1 l else 0)
  | 0, _ => by simp [ct, psm, al]
  | k + 1, hk => by
    have ih := w1_lp (hm := hm) (g := g) (F := F) hp hn k (by omega)
    have hT := (hp.1 k (by omega)).2
    have e1 := take_s (l := l) (k := k) (by omega)
    rw [e1, al_app]
    simp only [psm]
    by_cases hy : F 3 (sl l k) = 1
    · have hg0 : gn hm g F 1 l k = 0 := by unfold gn; rw [if_neg (by decide), if_pos hy]
      have hh : hrd n g F (sl l) (fs (sl l) n) (sl l k) = false := hrd_n (mth_n (by simpa using hy))
      rw [if_pos hy, ct_f (by rw [hh]; decide), ih, hg0]
      omega
    · have hh := hrd_al (g := g) hn (show k < n by omega) hy hT
      rw [if_neg hy]
      have hlen : 0 < (al F (l.take k) ++ [sl l k]).length := by simp
      rw [if_pos hlen]
      have hcut := al_cut (F := F) (l := l) (s := k) (by omega) hy
      by_cases hA : 0 < (al F (l.take k)).length
      · rw [if_pos hA] at ih
        have hb : bfo g (al F l).length (al F (l.take k)).length = some ((al F (l.take k)).length - 1) := if_pos hA
        rw [hb] at hh
        have hs : sl (al F l) ((al F (l.take k)).length - 1) = sl (al F (l.take k)) ((al F (l.take k)).length - 1) := by
          rw [hcut]
          exact sl_app (by omega)
        simp only [hs] at hh
        by_cases hw : swl F (sl (al F (l.take k)) ((al F (l.take k)).length - 1)) (sl l k)
        · have hg0 : gn hm g F 1 l k = 0 := by
            unfold gn
            rw [if_neg (by decide), if_neg hy, if_neg (by decide), if_neg (fun z => z.2 hw)]
          have hf : hrd n g F (sl l) (fs (sl l) n) (sl l k) = false := by rw [hh]; simp only [hw, not_true, decide_false]
          rw [ct_f (by rw [hf]; decide), ih, hg0]
          omega
        · have hg1 : gn hm g F 1 l k = 1 := by
            unfold gn
            rw [if_neg (by decide), if_neg hy, if_neg (by decide), if_pos ⟨hA, hw⟩]
          have hf : hrd n g F (sl l) (fs (sl l) n) (sl l k) = true := by rw [hh]; simp only [hw, not_false_eq_true, decide_true]
          rw [ct_t (p := fun s => hrd n g F (sl l) (fs (sl l) n) (sl l s)) (k := k) hf, Int.natCast_add, ih, hg1]
          omega
      · rw [if_neg hA] at ih
        have hA0 : al F (l.take k) = [] := List.eq_nil_of_length_eq_zero (by omega)
        have hg0 : gn hm g F 1 l k = 0 := by
          unfold gn
          rw [if_neg (by decide), if_neg hy, if_neg (by decide), if_neg (fun z => hA z.1)]
        have h00 : sl (al F l) 0 = sl l k := by rw [hcut, hA0]; rfl
        rw [hA0] at hh
        rw [hg0]
        cases g with
        | false =>
          have hb : bfo false (al F l).length ([] : List Nat).length = none := by unfold bfo; simp
          rw [hb] at hh
          have hl0 : la hm n false F 1 l = 0 := if_pos rfl
          rw [ct_f (by rw [hh]; simp), ih, hl0]
          omega
        | true =>
          by_cases hc : 1 < (al F l).length
          · have hb : bfo true (al F l).length ([] : List Nat).length = some ((al F l).length - 1) := by
              unfold bfo
              rw [if_neg (by simp), if_pos ⟨rfl, hc⟩]
            rw [hb] at hh
            by_cases hw : swl F (sl (al F l) ((al F l).length - 1)) (sl l k)
            · have hf : hrd n true F (sl l) (fs (sl l) n) (sl l k) = false := by rw [hh]; simp only [hw, not_true, decide_false]
              have hl0 : la hm n true F 1 l = 0 := by
                unfold la
                rw [if_neg (by decide), if_neg (by decide), if_neg (by decide), if_neg (by omega), if_pos (by rw [h00]; exact hw)]
              rw [ct_f (by rw [hf]; decide), ih, hl0]
              omega
            · have hf : hrd n true F (sl l) (fs (sl l) n) (sl l k) = true := by rw [hh]; simp only [hw, not_false_eq_true, decide_true]
              have hl0 : la hm n true F 1 l = 1 := by
                unfold la
                rw [if_neg (by decide), if_neg (by decide), if_neg (by decide), if_neg (by omega), if_neg (by rw [h00]; exact hw)]
              rw [ct_t (p := fun s => hrd n true F (sl l) (fs (sl l) n) (sl l s)) (k := k) hf, Int.natCast_add, ih, hl0]
              omega
          · have hb : bfo true (al F l).length ([] : List Nat).length = none := by
              unfold bfo
              rw [if_neg (by simp), if_neg (fun z => hc z.2)]
            rw [hb] at hh
            have hl0 : la hm n true F 1 l = 0 := by
              unfold la
              rw [if_neg (by decide), if_neg (by decide), if_neg (by decide), if_pos (by omega)]
            rw [ct_f (by rw [hh]; simp), ih, hl0]
            omega
theorem tot_1 {hm : Option (List (Tks × Tks))} {n : Nat} {g : Bool} {F : Nat → Nat → Nat} {l : List Nat} (h1 : l.Nodup) (h2 : ∀ x ∈ l, x < n) (h3 : l.length = n) (h7 : n ≤ 7) : tot hm n g F 1 l = bstv hm n g F 1 l := by
  have hp := sl_pm h1 h2 h3
  have e := w1_lp (hm := hm) (g := g) (F := F) hp h3 n (Nat.le_refl _)
  have e2 : l.take n = l := by rw [← h3]; exact List.take_length
  rw [e2, ← ct_seats (p := fun m => hrd n g F (sl l) (fs (sl l) n) m) h1 h2 h3] at e
  have hla : (if 0 < (al F l).length then la hm n g F 1 l else 0) = la hm n g F 1 l := by
    split
    · rfl
    · next hz =>
      unfold la
      split
      · rfl
      · rw [if_neg (by decide), if_neg (by decide), if_pos (by omega)]
  rw [hla] at e
  have hc := ct_le (fun m => hrd n g F (sl l) (fs (sl l) n) m) n
  unfold tot bstv wsh
  rw [if_neg (by decide), if_pos rfl, nI_toInt (by omega), e]
/-! wish 0 -/
theorem w0_lp {hm : Option (List (Tks × Tks))} {n : Nat} {g : Bool} {F : Nat → Nat → Nat} {l : List Nat} : ∀ k, k ≤ n → -(ils hm n g F (sl l) k) = zI (psm (gn hm g F 0 l) k + (if 0 < k then la hm n g F 0 l else 0))
  | 0, _ => by
    show -(nI 0) = zI 0
    decide +kernel
  | k + 1, hk => by
    have ih := w0_lp (hm := hm) (n := n) (g := g) (F := F) (l := l) k (by omega)
    simp only [psm]
    rw [if_pos (by omega)]
    by_cases hk0 : k = 0
    · subst hk0
      have hg0 : gn hm g F 0 l 0 = 0 := by unfold gn; rw [if_pos rfl, if_pos rfl]
      rw [hg0]
      cases g with
      | false =>
        rw [ils_n (by simp [lf]), ih]
        simp [psm, la]
      | true =>
        have hl : lf n true 0 = some (n - 1) := by simp [lf]
        have hla : la hm n true F 0 l = -(pI hm F (sl l (n - 1)) (sl l 0) 0) := by
          unfold la
          rw [if_neg (by decide), if_neg (by decide), if_pos rfl]
        rw [ils_s hl, Int32.neg_add, Int32.sub_eq_add_neg, neg_pI, ih, zI_add, hla]
        simp [psm]
    · have hl : lf n g k = some (k - 1) := by unfold lf; rw [if_pos (by omega)]
      have hg : gn hm g F 0 l k = -(pI hm F (sl l (k - 1)) (sl l k) k) := by unfold gn; rw [if_pos rfl, if_neg hk0]
      rw [ils_s hl, Int32.neg_add, Int32.sub_eq_add_neg, neg_pI, ih, zI_add, hg, if_pos (by omega)]
      congr 1
      omega
theorem tot_bd {hm : Option (List (Tks × Tks))} (hT : HT hm) {n : Nat} {g : Bool} {F : Nat → Nat → Nat} (hF : FS n F) {w : Nat} {l : List Nat} (h0 : 0 < n) (h7 : n ≤ 7) (h2 : ∀ x ∈ l, x < n) (h3 : l.length = n) : -8000000 ≤ tot hm n g F w l ∧ tot hm n g F w l ≤ 8000000 := by
  have a := psm_bd (f := gn hm g F w l) (c := 1000000) (k := n) (fun i hi => gn_bd hT hF l i h2 (by omega) (by omega))
  have b := la_bd hT h0 (g := g) hF (w := w) l h2 h3
  unfold tot
  omega
theorem tot_0 {hm : Option (List (Tks × Tks))} (hT : HT hm) {n : Nat} {g : Bool} {F : Nat → Nat → Nat} (hF : FS n F) {l : List Nat} (h0 : 0 < n) (h7 : n ≤ 7) (h2 : ∀ x ∈ l, x < n) (h3 : l.length = n) : tot hm n g F 0 l = bstv hm n g F 0 l := by
  have b := tot_bd hT (g := g) hF (w := 0) h0 h7 h2 h3
  have e := w0_lp (hm := hm) (g := g) (F := F) (l := l) n (Nat.le_refl _)
  rw [if_pos h0] at e
  have e2 : -(ils hm n g F (sl l) n) = zI (tot hm n g F 0 l) := e
  unfold bstv wsh
  rw [if_pos rfl, e2, zI_toInt (by omega) (by omega)]
/-! wish 2 -/
theorem fnd_eq {a : List Nat} {p : Nat} (h0 : sl a p = 0) : ∀ k, p < k → (∀ i, p < i → i < k → sl a i ≠ 0) → fnd a k = some p
  | 0, h, _ => by omega
  | k + 1, h, hn => by
    simp only [fnd]
    by_cases e : k = p
    · subst e; rw [if_pos h0]
    · rw [if_neg (hn k (by omega) (by omega))]
      exact fnd_eq h0 k (by omega) (fun i h1 h2 => hn i h1 (by omega))
theorem fnd_none {a : List Nat} : ∀ k, (∀ i, i < k → sl a i ≠ 0) → fnd a k = none
  | 0, _ => rfl
  | k + 1, hn => by
    simp only [fnd]
    rw [if_neg (hn k (by omega))]
    exact fnd_none k (fun i hi => hn i (by omega))
theorem rsx_pre {F : Nat → Nat → Nat} {a b : List Nat} : ∀ k p, p < a.length → rsx F false (a ++ b) k p = rsx F false a k p
  | 0, _, _ => rfl
  | k + 1, p, hp => by
    by_cases h0 : 0 < p
    · have e : ∀ c, bfo false c p = some (p - 1) := fun c => if_pos h0
      have ih := rsx_pre (F := F) (a := a) (b := b) k (p - 1) (by omega)
      have s1 : sl (a ++ b) (p - 1) = sl a (p - 1) := sl_app (by omega)
      have s2 : sl (a ++ b) p = sl a p := sl_app hp
      by_cases hs : swl F (sl a (p - 1)) (sl a p)
      · rw [rsx_y (e _) (by rw [s1, s2]; exact hs), rsx_y (e _) hs]
      · rw [rsx_o (e _) (by rw [s1, s2]; exact hs), rsx_o (e _) hs, ih, s1]
    · have e : ∀ c, bfo false c p = none := fun c => by unfold bfo; rw [if_neg h0, if_neg (fun z => by have := z.1; cases this)]
      rw [rsx_n (e _), rsx_n (e _)]
/-- steps and minutes of the round are those of the living -/
theorem rd_al {n : Nat} {g : Bool} {F : Nat → Nat → Nat} {l : List Nat} (hF : ∀ m, m < n → F 1 m ≤ 20) (h1 : l.Nodup) (h2 : ∀ x ∈ l, x < n) (h3 : l.length = n) : ∀ r k m mi pa s, k + r = 7 → rd n g F (sl l) (fs (sl l) n) 0 k = some (m, mi, pa) → mi ≤ 20 * k → s < n → sl l s = m → F 3 m ≠ 1 → 1000 * (rdm (rd n g F (sl l) (fs (sl l) n) 0) 7).1 = 1000 * k - mi + rsx F g (al F l) r (al F (l.take s)).length + (rdm (rd n g F (sl l) (fs (sl l) n) 0) 7).2 ∧ (rdm (rd n g F (sl l) (fs (sl l) n) 0) 7).2 ≤ 140 ∧ (rdm (rd n g F (sl l) (fs (sl l) n) 0) 7).1 ≤ 7 := by
  have hp := sl_pm h1 h2 h3
  have hff : ∀ k, rd n g F (sl l) (fs (sl l) n) 0 k = none → ∀ j, rd n g F (sl l) (fs (sl l) n) 0 (k + j) = none := by
    intro k hk j
    induction j with
    | zero => exact hk
    | succ j ih => show rd n g F (sl l) (fs (sl l) n) 0 (k + j + 1) = none; simp only [rd, ih]
  have hends : ∀ k m mi pa, k ≤ 7 → rd n g F (sl l) (fs (sl l) n) 0 k = some (m, mi, pa) → rd n g F (sl l) (fs (sl l) n) 0 (k + 1) = none ∨ k = 7 → rdm (rd n g F (sl l) (fs (sl l) n) 0) 7 = (k, mi) := by
    intro k m mi pa hk h h'
    have z := rdm_eq hff h (fun z => by subst z; simp only [rd] at h; cases h; rfl) (7 - k) (by rcases h' with h' | h'; exact Or.inl h'; exact Or.inr (by omega))
    rwa [show k + (7 - k) = 7 by omega] at z
  intro r
  induction r with
  | zero =>
    intro k m mi pa s hk h hmi hs hsm hy
    have hk7 : k = 7 := by omega
    rw [hends k m mi pa (by omega) h (Or.inr hk7)]
    simp only [rsx]
    omega
  | succ r ih =>
    intro k m mi pa s hk h hmi hs hsm hy
    subst hsm
    have hT := (hp.1 s hs).2
    have hmt := mth_al (g := g) h3 hs hy hT
    have hcut := al_cut (F := F) (l := l) (s := s) (by omega) hy
    have hps : sl (al F l) (al F (l.take s)).length = sl l s := by
      rw [hcut]
      exact sl_m
    cases hb : bfo g (al F l).length (al F (l.take s)).length with
    | none =>
      rw [hb] at hmt
      have hh := hrd_n hmt
      have hn1 := rd_n h (by rw [hh]; decide)
      rw [hends k _ mi pa (by omega) h (Or.inl hn1), rsx_n hb]
      omega
    | some b =>
      rw [hb, Option.map_some] at hmt
      have hh := hrd_s hmt
      by_cases hw : swl F (sl (al F l) b) (sl l s)
      · have hn1 := rd_n h (by rw [hh]; simp only [hw, not_true, decide_false]; decide)
        rw [hends k _ mi pa (by omega) h (Or.inl hn1), rsx_y hb (by rw [hps]; exact hw)]
        omega
      · have hbl : b < (al F l).length := by
          unfold bfo at hb
          have hpl : (al F (l.take s)).length < (al F l).length := by rw [hcut]; simp
          split at hb
          · cases hb; omega
          · split at hb
            · next hz => cases hb; omega
            · cases hb
        have hmem := sl_mem (l := al F l) hbl
        have hq := al_mem hmem
        have hqn := h2 _ hq.1
        have hdl := hF _ hqn
        have hy1 := rd_y h (by rw [hh]; simp only [hw, not_false_eq_true, decide_true]) hmt
        have hsb := hp.2 _ hqn
        have hpos : (al F (l.take (fs (sl l) n (sl (al F l) b)))).length = b := by
          have hc2 := al_cut (F := F) (l := l) (s := fs (sl l) n (sl (al F l) b)) (by omega) (by rw [hsb.2]; exact hq.2)
          have hnd : (al F l).Nodup := h1.filter _
          have hlt2 : (al F (l.take (fs (sl l) n (sl (al F l) b)))).length < (al F l).length := by
            have z := congrArg List.length hc2
            simp only [List.length_append, List.length_cons] at z
            omega
          have e3 : sl (al F l) (al F (l.take (fs (sl l) n (sl (al F l) b)))).length = sl (al F l) b := by
            have z := sl_m (a := al F (l.take (fs (sl l) n (sl (al F l) b)))) (b := al F (l.drop (fs (sl l) n (sl (al F l) b) + 1))) (x := sl l (fs (sl l) n (sl (al F l) b)))
            rw [← hc2] at z
            exact z.trans hsb.2
          exact sl_inj hnd hlt2 hbl e3
        have ih2 := ih (k + 1) _ _ _ (fs (sl l) n (sl (al F l) b)) (by omega) hy1 (by omega) hsb.1 hsb.2 hq.2
        rw [hpos] at ih2
        rw [rsx_o hb (by rw [hps]; exact hw)]
        omega
theorem psm_z {f : Nat → Int} : ∀ {k : Nat}, (∀ i, i < k → f i = 0) → psm f k = 0
  | 0, _ => rfl
  | k + 1, h => by simp only [psm]; rw [psm_z (fun i hi => h i (by omega)), h k (by omega)]; rfl
theorem psm_1 {f : Nat → Int} {s : Nat} : ∀ {k : Nat}, s < k → (∀ i, i < k → i ≠ s → f i = 0) → psm f k = f s
  | 0, h, _ => by omega
  | k + 1, h, hz => by
    simp only [psm]
    by_cases e : k = s
    · subst e
      rw [psm_z (fun i hi => hz i (by omega) (by omega))]
      omega
    · rw [psm_1 (by omega) (fun i hi hn => hz i (by omega) hn), hz k (by omega) e]
      omega
theorem rs_p {F : Nat → Nat → Nat} {g : Bool} {a : List Nat} (hd : a.Nodup) {p : Nat} (hp : p < a.length) (h0 : sl a p = 0) : rs F g a = rsx F g a 7 p := by
  unfold rs
  rw [fnd_eq h0 a.length hp (fun i h1 h2 z => by
    rw [sl_eq hp] at h0
    rw [sl_eq h2, ← h0] at z
    have := (List.getElem_inj hd).mp z
    omega)]
theorem rs_0 {F : Nat → Nat → Nat} {g : Bool} {a : List Nat} (h : 0 ∉ a) : rs F g a = 0 := by
  unfold rs
  rw [fnd_none a.length (fun i hi z => h (z ▸ sl_mem hi))]
theorem tot_2 {hm : Option (List (Tks × Tks))} {n : Nat} {g : Bool} {F : Nat → Nat → Nat} {l : List Nat} (hF : ∀ m, m < n → F 1 m ≤ 20) (h0n : 0 < n) (h1 : l.Nodup) (h2 : ∀ x ∈ l, x < n) (h3 : l.length = n) : tot hm n g F 2 l = bstv hm n g F 2 l := by
  have hp := sl_pm h1 h2 h3
  have hs0 := hp.2 0 h0n
  have hgz : ∀ i, i < n → i ≠ fs (sl l) n 0 → gn hm g F 2 l i = 0 := fun i hi hne => by
    unfold gn
    rw [if_neg (by decide)]
    split
    · rfl
    · rw [if_pos rfl, if_neg (fun z => hne (hp.inj hi hs0.1 (by rw [z.1, hs0.2])))]
  have hsum := psm_1 hs0.1 hgz
  unfold tot
  rw [hsum]
  by_cases hy : F 3 0 = 1
  · have hr : ∀ a, 0 ∉ a → rs F g a = 0 := fun a ha => rs_0 ha
    have hna : 0 ∉ al F l := fun z => (al_mem z).2 hy
    have hg0 : gn hm g F 2 l (fs (sl l) n 0) = 0 := by
      unfold gn
      rw [if_neg (by decide), if_pos (by rw [hs0.2]; exact hy)]
    have hla : la hm n g F 2 l = 0 := by
      unfold la
      split
      · rfl
      · rw [if_pos rfl, hr _ hna]; rfl
    have hmt : mth n g F (sl l) (fs (sl l) n) 0 = none := mth_n (by simpa using hy)
    have hrn : rd n g F (sl l) (fs (sl l) n) 0 1 = none := rd_n (m := 0) (mi := 0) (pa := 1) rfl (by rw [hrd_n hmt]; decide)
    have hff : ∀ k, rd n g F (sl l) (fs (sl l) n) 0 k = none → ∀ j, rd n g F (sl l) (fs (sl l) n) 0 (k + j) = none := by
      intro k hk j
      induction j with
      | zero => exact hk
      | succ j ih => show rd n g F (sl l) (fs (sl l) n) 0 (k + j + 1) = none; simp only [rd, ih]
    have hrm := rdm_eq hff (k := 0) (m := 0) (mi := 0) (pa := 1) rfl (fun _ => rfl) 7 (Or.inl hrn)
    unfold bstv wsh
    rw [if_neg (by decide), if_neg (by decide)]
    rw [show 0 + 7 = 7 from rfl] at hrm
    rw [hrm, hg0, hla]
    decide +kernel
  · have hcut := al_cut (F := F) (l := l) (s := fs (sl l) n 0) (by omega) (by rw [hs0.2]; exact hy)
    rw [hs0.2] at hcut
    have hmain := rd_al (g := g) hF h1 h2 h3 7 0 0 0 1 (fs (sl l) n 0) rfl rfl (by omega) hs0.1 hs0.2 hy
    have hnd : (al F l).Nodup := h1.filter _
    have hpl : (al F (l.take (fs (sl l) n 0))).length < (al F l).length := by
      have z := congrArg List.length hcut
      simp only [List.length_append, List.length_cons] at z
      omega
    have hp0 : sl (al F l) (al F (l.take (fs (sl l) n 0))).length = 0 := by
      have z := sl_m (a := al F (l.take (fs (sl l) n 0))) (b := al F (l.drop (fs (sl l) n 0 + 1))) (x := 0)
      rw [← hcut] at z
      exact z
    have hval : bstv hm n g F 2 l = (rsx F g (al F l) 7 (al F (l.take (fs (sl l) n 0))).length : Int) := by
      unfold bstv wsh
      rw [if_neg (by decide), if_neg (by decide), pk_sub (by omega), nI_toInt (by omega)]
      omega
    rw [hval]
    cases g with
    | true =>
      have hg0 : gn hm true F 2 l (fs (sl l) n 0) = 0 := by
        unfold gn
        rw [if_neg (by decide)]
        split
        · rfl
        · rw [if_pos rfl, if_neg (fun z => by have := z.2; cases this)]
      have hla : la hm n true F 2 l = (rs F true (al F l) : Int) := by
        unfold la
        rw [if_neg (by decide), if_pos rfl]
      rw [hg0, hla, rs_p hnd hpl hp0]
      omega
    | false =>
      have hg0 : gn hm false F 2 l (fs (sl l) n 0) = (rs F false (al F (l.take (fs (sl l) n 0)) ++ [0]) : Int) := by
        unfold gn
        rw [hs0.2, if_neg (by decide), if_neg hy, if_pos rfl, if_pos ⟨rfl, rfl⟩]
      have hla : la hm n false F 2 l = 0 := if_pos rfl
      have hsp : al F l = (al F (l.take (fs (sl l) n 0)) ++ [0]) ++ al F (l.drop (fs (sl l) n 0 + 1)) := by
        conv => lhs; rw [hcut]
        simp
      have hnd2 : (al F (l.take (fs (sl l) n 0)) ++ [0]).Nodup := by
        rw [hsp] at hnd
        exact (List.nodup_append.mp hnd).1
      rw [hg0, hla, rs_p hnd2 (p := (al F (l.take (fs (sl l) n 0))).length) (by simp) sl_last]
      have z := rsx_pre (F := F) (a := al F (l.take (fs (sl l) n 0)) ++ [0]) (b := al F (l.drop (fs (sl l) n 0 + 1))) 7 (al F (l.take (fs (sl l) n 0))).length (by simp)
      rw [← hsp] at z
      rw [z]
      omega
theorem tot_w {hm : Option (List (Tks × Tks))} (hT : HT hm) {n : Nat} {g : Bool} {F : Nat → Nat → Nat} (hF : FS n F) (hF1 : ∀ m, m < n → F 1 m ≤ 20) {w : Nat} (hw : w < 3) {l : List Nat} (h0 : 0 < n) (h7 : n ≤ 7) (h1 : l.Nodup) (h2 : ∀ x ∈ l, x < n) (h3 : l.length = n) : tot hm n g F w l = bstv hm n g F w l := by
  rcases (show w = 0 ∨ w = 1 ∨ w = 2 by omega) with rfl | rfl | rfl
  · exact tot_0 hT hF h0 h7 h2 h3
  · exact tot_1 h1 h2 h3 h7
  · exact tot_2 hF1 h0 h1 h2 h3
