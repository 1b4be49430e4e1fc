/-! hopes are sound -/
def mnI (st : Option Int) (v : Int) : Option Int := some (match st with
  | none => v
  | some x => min x v)
def lsr (f : Nat → Int) (a : Nat) : Nat → Option Int → Option Int
  | 0, st => st
  | k + 1, st => if a = k then lsr f a k st else mnI (lsr f a k st) (f k)
def lsl (f : Nat → Nat → Int) (n : Nat) : Nat → Option Int
  | 0 => none
  | k + 1 => lsr (f k) k n (lsl f n k)
theorem mnI_le {st : Option Int} {v m : Int} (h : mnI st v = some m) : m ≤ v ∧ ∀ x, st = some x → m ≤ x := by
  unfold mnI at h
  cases st with
  | none => cases h; exact ⟨Int.le_refl _, fun x hx => by cases hx⟩
  | some y => cases h; exact ⟨Int.min_le_right _ _, fun x hx => by cases hx; exact Int.min_le_left _ _⟩
theorem lsr_le {f : Nat → Int} {a : Nat} {st : Option Int} : ∀ {k : Nat} {m : Int}, lsr f a k st = some m → (∀ x, st = some x → m ≤ x) ∧ ∀ b, b < k → a ≠ b → m ≤ f b
  | 0, m, h => ⟨fun x hx => by simp only [lsr] at h; rw [hx] at h; cases h; exact Int.le_refl _, fun b hb => by omega⟩
  | k + 1, m, h => by
    simp only [lsr] at h
    split at h
    next e =>
      have := lsr_le h
      exact ⟨this.1, fun b hb hn => this.2 b (by omega) hn⟩
    next e =>
      have q := mnI_le h
      cases hq : lsr f a k st with
      | none =>
        refine ⟨fun x hx => ?_, fun b hb hn => ?_⟩
        · exfalso
          have hh : ∀ k, lsr f a k (some x) ≠ none := by
            intro k
            induction k with
            | zero => simp [lsr]
            | succ k ih => simp only [lsr]; split; exact ih; simp [mnI]
          rw [hx] at hq
          exact hh k hq
        · by_cases e2 : b = k
          · subst e2; exact q.1
          · exfalso
            have hh : ∀ k, b < k → lsr f a k st ≠ none := by
              intro k
              induction k with
              | zero => intro z; omega
              | succ k ih =>
                intro z
                simp only [lsr]
                split
                · next e3 => exact ih (by omega)
                · simp [mnI]
            exact hh k (by omega) hq
      | some y =>
        have := lsr_le hq
        have q2 := q.2 y hq
        refine ⟨fun x hx => Int.le_trans q2 (this.1 x hx), fun b hb hn => ?_⟩
        by_cases e2 : b = k
        · subst e2; exact q.1
        · exact Int.le_trans q2 (this.2 b (by omega) hn)
theorem lsr_some {f : Nat → Int} {a : Nat} {x : Int} : ∀ k, ∃ m, lsr f a k (some x) = some m
  | 0 => ⟨x, rfl⟩
  | k + 1 => by
    simp only [lsr]
    split
    · exact lsr_some k
    · exact ⟨_, rfl⟩
theorem lsl_le {f : Nat → Nat → Int} {n : Nat} : ∀ {k : Nat} {m : Int}, lsl f n k = some m → ∀ a b, a < k → b < n → a ≠ b → m ≤ f a b
  | 0, m, h => by cases h
  | k + 1, m, h => by
    intro a b ha hb hn
    simp only [lsl] at h
    have q := lsr_le h
    by_cases e : a = k
    · subst e; exact q.2 b hb hn
    · cases hq : lsl f n k with
      | none =>
        exfalso
        have hh : ∀ k, a < k → lsl f n k ≠ none := by
          intro k
          induction k with
          | zero => intro z; omega
          | succ k ih =>
            intro z hz
            simp only [lsl] at hz
            by_cases e2 : a = k
            · subst e2
              have hh2 : ∀ j st, b < j → lsr (f a) a j st ≠ none := by
                intro j st
                induction j with
                | zero => intro z; omega
                | succ j ih2 =>
                  intro z
                  simp only [lsr]
                  split
                  · next e3 => exact ih2 (by omega)
                  · simp [mnI]
              exact hh2 n _ hb hz
            · cases hq2 : lsl f n k with
              | none => exact ih (by omega) hq2
              | some y =>
                rw [hq2] at hz
                obtain ⟨m2, hm2⟩ := lsr_some (f := f k) (a := k) (x := y) n
                rw [hm2] at hz
                cases hz
        exact hh k (by omega) hq
      | some y => exact Int.le_trans (q.1 y hq) (lsl_le hq a b (by omega) hb hn)
theorem lsr_bd {f : Nat → Int} {a : Nat} {st : Option Int} {n : Nat} (hs : ∀ x, st = some x → -1000000 ≤ x ∧ x ≤ 1000000) (hf : ∀ b, b < n → -1000000 ≤ f b ∧ f b ≤ 1000000) : ∀ {k : Nat} {m : Int}, k ≤ n → lsr f a k st = some m → -1000000 ≤ m ∧ m ≤ 1000000
  | 0, m, _, h => hs m h
  | k + 1, m, hk, h => by
    simp only [lsr] at h
    split at h
    · exact lsr_bd hs hf (by omega) h
    · have h2 := hf k (by omega)
      unfold mnI at h
      cases hq : lsr f a k st with
      | none => rw [hq] at h; cases h; exact h2
      | some y =>
        have := lsr_bd hs hf (k := k) (by omega) hq
        rw [hq] at h
        cases h
        show -1000000 ≤ min y (f k) ∧ min y (f k) ≤ 1000000
        omega
theorem lsl_bd {f : Nat → Nat → Int} {n : Nat} (hf : ∀ a b, a < n → b < n → -1000000 ≤ f a b ∧ f a b ≤ 1000000) : ∀ {k : Nat} {m : Int}, k ≤ n → lsl f n k = some m → -1000000 ≤ m ∧ m ≤ 1000000
  | 0, m, _, h => by cases h
  | k + 1, m, hk, h => by
    simp only [lsl] at h
    exact lsr_bd (fun x hx => lsl_bd hf (by omega) hx) (fun b hb => hf k b (by omega) hb) (Nat.le_refl _) h
/-- the least worth on a seat -/
def mnS (hm : Option (List (Tks × Tks))) (F : Nat → Nat → Nat) (n s : Nat) : Int := (lsl (fun a b => pI hm F a b s) n n).getD 0
theorem lsl_y {f : Nat → Nat → Int} {n : Nat} (h2 : 2 ≤ n) : ∃ m, lsl f n n = some m := by
  have hh : ∀ k, 0 < k → ∃ m, lsl f n k = some m := by
    intro k
    induction k with
    | zero => intro h; omega
    | succ k ih =>
      intro _
      simp only [lsl]
      by_cases e : k = 0
      · subst e
        have hh2 : ∀ j st, 1 < j → ∃ m, lsr (f 0) 0 j st = some m := by
          intro j st
          induction j with
          | zero => intro z; omega
          | succ j ih2 =>
            intro z
            simp only [lsr]
            rw [if_neg (by omega)]
            exact ⟨_, rfl⟩
        exact hh2 n _ (by omega)
      · obtain ⟨m, hm⟩ := ih (by omega)
        rw [hm]
        exact lsr_some n
  exact hh n (by omega)
theorem mnS_le {hm : Option (List (Tks × Tks))} {F : Nat → Nat → Nat} {n s a b : Nat} (ha : a < n) (hb : b < n) (hn : a ≠ b) : mnS hm F n s ≤ pI hm F a b s := by
  obtain ⟨m, hq⟩ := lsl_y (f := fun a b => pI hm F a b s) (n := n) (by omega)
  unfold mnS
  rw [hq]
  exact lsl_le hq a b ha hb hn
theorem mnS_bd {hm : Option (List (Tks × Tks))} (hT : HT hm) {n : Nat} {F : Nat → Nat → Nat} (hF : FS n F) {s : Nat} (hs : s < 7) (h2 : 2 ≤ n) : -1000000 ≤ mnS hm F n s ∧ mnS hm F n s ≤ 1000000 := by
  obtain ⟨m, hq⟩ := lsl_y (f := fun a b => pI hm F a b s) (n := n) h2
  unfold mnS
  rw [hq]
  exact lsl_bd (fun a b ha hb => pI_bd hT hF ha hb hs) (Nat.le_refl _) hq
/-- the least of the last k seats -/
def lfd (m : Nat → Int) (n : Nat) : Nat → Int
  | 0 => 0
  | k + 1 => lfd m n k + (if 0 < n - 1 - k then m (n - 1 - k) else 0)
def lfs (hm : Option (List (Tks × Tks))) (n : Nat) (g : Bool) (F : Nat → Nat → Nat) (s : Nat) : Int := lfd (mnS hm F n) n (n - s) + (if g = true then mnS hm F n 0 else 0)
theorem lfd_bd {m : Nat → Int} {n : Nat} (hb : ∀ s, s < n → -1000000 ≤ m s ∧ m s ≤ 1000000) : ∀ k, k ≤ n → -(1000000 * (k : Int)) ≤ lfd m n k ∧ lfd m n k ≤ 1000000 * (k : Int)
  | 0, _ => by simp [lfd]
  | k + 1, hk => by
    have ih := lfd_bd hb k (by omega)
    have := hb (n - 1 - k) (by omega)
    simp only [lfd]
    split <;> omega
theorem lfs_bd {hm : Option (List (Tks × Tks))} (hT : HT hm) {n : Nat} {g : Bool} {F : Nat → Nat → Nat} (hF : FS n F) (h2 : 2 ≤ n) (h7 : n ≤ 7) (s : Nat) : -8000000 ≤ lfs hm n g F s ∧ lfs hm n g F s ≤ 8000000 := by
  have a := lfd_bd (m := mnS hm F n) (n := n) (fun s hs => mnS_bd hT hF (by omega) h2) (n - s) (by omega)
  have b := mnS_bd hT hF (s := 0) (by omega) h2
  unfold lfs
  split <;> omega
theorem sl_ne {l : List Nat} (h : l.Nodup) {i j : Nat} (hi : i < l.length) (hj : j < l.length) (hn : i ≠ j) : sl l i ≠ sl l j := fun z => by
  rw [sl_eq hi, sl_eq hj] at z
  exact hn ((List.getElem_inj h).mp z)
theorem hk0 {hm : Option (List (Tks × Tks))} {n : Nat} {g : Bool} {F : Nat → Nat → Nat} {l : List Nat} (h1 : l.Nodup) (h2 : ∀ x ∈ l, x < n) (h3 : l.length = n) : ∀ k, k ≤ n → psm (gn hm g F 0 l) n ≤ psm (gn hm g F 0 l) (n - k) - lfd (mnS hm F n) n k
  | 0, _ => by simp [lfd]
  | k + 1, hk => by
    have ih := hk0 (hm := hm) (g := g) (F := F) h1 h2 h3 k (by omega)
    rw [show n - k = (n - 1 - k) + 1 by omega] at ih
    simp only [psm] at ih
    rw [show n - (k + 1) = n - 1 - k by omega]
    simp only [lfd]
    by_cases e : n - 1 - k = 0
    · have hg : gn hm g F 0 l (n - 1 - k) = 0 := by unfold gn; rw [if_pos rfl, if_pos e]
      rw [hg] at ih
      rw [if_neg (by omega)]
      omega
    · have hg : gn hm g F 0 l (n - 1 - k) = -(pI hm F (sl l (n - 1 - k - 1)) (sl l (n - 1 - k)) (n - 1 - k)) := by unfold gn; rw [if_pos rfl, if_neg e]
      have hle := mnS_le (hm := hm) (F := F) (s := n - 1 - k) (h2 _ (sl_mem (l := l) (s := n - 1 - k - 1) (by omega))) (h2 _ (sl_mem (l := l) (s := n - 1 - k) (by omega))) (sl_ne h1 (by omega) (by omega) (by omega))
      rw [hg] at ih
      rw [if_pos (by omega)]
      omega
theorem hk1 {hm : Option (List (Tks × Tks))} {n : Nat} {g : Bool} {F : Nat → Nat → Nat} {l : List Nat} (h3 : l.length = n) : ∀ k, k ≤ n → psm (gn hm g F 1 l) n ≤ psm (gn hm g F 1 l) (n - k) + ((al F l).length : Int) - ((al F (l.take (n - k))).length : Int)
  | 0, _ => by
    have : l.take (n - 0) = l := by rw [Nat.sub_zero, ← h3]; exact List.take_length
    rw [this]
    simp
  | k + 1, hk => by
    have ih := hk1 (hm := hm) (g := g) (F := F) h3 k (by omega)
    rw [show n - k = (n - 1 - k) + 1 by omega] at ih
    simp only [psm] at ih
    rw [show n - (k + 1) = n - 1 - k by omega]
    rw [take_s (l := l) (k := n - 1 - k) (by omega), al_app] at ih
    by_cases hy : F 3 (sl l (n - 1 - k)) = 1
    · have hg : gn hm g F 1 l (n - 1 - k) = 0 := by unfold gn; rw [if_neg (by decide), if_pos hy]
      rw [hg, if_pos hy] at ih
      omega
    · have hg : gn hm g F 1 l (n - 1 - k) ≤ 1 := by
        unfold gn
        rw [if_neg (by decide), if_neg hy, if_neg (by decide)]
        split <;> omega
      rw [if_neg hy, List.length_append] at ih
      simp only [List.length_cons, List.length_nil] at ih
      omega
theorem al_ct {n : Nat} {F : Nat → Nat → Nat} {l : List Nat} (h1 : l.Nodup) (h2 : ∀ x ∈ l, x < n) (h3 : l.length = n) : (al F l).length = ct (fun m => decide (F 3 m ≠ 1)) n := by
  have z := lct_sl (p := fun m => decide (F 3 m ≠ 1)) (l := l) n (by omega)
  have y := ct_seats (p := fun m => decide (F 3 m ≠ 1)) h1 h2 h3
  have e2 : l.take n = l := by rw [← h3]; exact List.take_length
  rw [e2] at z
  rw [y, ← z]
  rfl
theorem psm_tail {f : Nat → Int} {j : Nat} : ∀ {k : Nat}, (∀ i, j ≤ i → i < j + k → f i = 0) → psm f (j + k) = psm f j
  | 0, _ => rfl
  | k + 1, h => by
    show psm f (j + k) + f (j + k) = _
    rw [psm_tail (k := k) (fun i h1 h2 => h i h1 (by omega)), h (j + k) (by omega) (by omega)]
    omega
/-- hopes are sound, if no round is better than mr -/
theorem hok_w {hm : Option (List (Tks × Tks))} {n : Nat} {g : Bool} {F : Nat → Nat → Nat} {mr w : Nat} (h2n : 2 ≤ n) (hw : w < 3) (hmr : w = 2 → ∀ l : List Nat, l.Nodup → (∀ x ∈ l, x < n) → l.length = n → (g = true → rs F true (al F l) ≤ mr) ∧ (g = false → ∀ i, i < n → sl l i = 0 → F 3 0 ≠ 1 → rs F false (al F (l.take i) ++ [0]) ≤ mr)) : ∀ k pre l, pre.Nodup → (∀ x ∈ pre, x < n) → pre.length + k = n → l ∈ lvx n k pre → tot hm n g F w l ≤ psm (gn hm g F w pre) pre.length + hp g F (lfs hm n g F) (ct (fun m => decide (F 3 m ≠ 1)) n) mr w pre := by
  intro k pre l hp1 hp2 hp3 hl
  obtain ⟨h1, h2, h3, suf, rfl⟩ := lvx_mem hl hp1 hp2
  have h3n : (pre ++ suf).length = n := by omega
  have hpl : psm (gn hm g F w (pre ++ suf)) pre.length = psm (gn hm g F w pre) pre.length := psm_app
  have hnk : n - k = pre.length := by omega
  have htk : (pre ++ suf).take pre.length = pre := by simp
  unfold tot
  rcases (show w = 0 ∨ w = 1 ∨ w = 2 by omega) with rfl | rfl | rfl
  · have a := hk0 (hm := hm) (g := g) (F := F) h1 h2 h3n k (by omega)
    rw [hnk, hpl] at a
    have e : hp g F (lfs hm n g F) (ct (fun m => decide (F 3 m ≠ 1)) n) mr 0 pre = -(lfs hm n g F pre.length) := if_pos rfl
    have hla : la hm n g F 0 (pre ++ suf) ≤ -(if g = true then mnS hm F n 0 else 0) := by
      unfold la
      cases g with
      | false => simp
      | true =>
        rw [if_neg (by decide), if_neg (by decide), if_pos rfl, if_pos rfl]
        have := mnS_le (hm := hm) (F := F) (s := 0) (h2 _ (sl_mem (l := pre ++ suf) (s := n - 1) (by omega))) (h2 _ (sl_mem (l := pre ++ suf) (s := 0) (by omega))) (sl_ne h1 (by omega) (by omega) (by omega))
        omega
    rw [e]
    unfold lfs
    rw [show n - pre.length = k by omega]
    omega
  · have a := hk1 (hm := hm) (g := g) (F := F) h3n k (by omega)
    rw [hnk, hpl, htk, al_ct h1 h2 h3n] at a
    have e : hp g F (lfs hm n g F) (ct (fun m => decide (F 3 m ≠ 1)) n) mr 1 pre = (ct (fun m => decide (F 3 m ≠ 1)) n : Int) - ((al F pre).length : Int) + (if g = true then 1 else 0) := by
      unfold hp
      rw [if_neg (by decide), if_pos rfl]
    have hla : la hm n g F 1 (pre ++ suf) ≤ (if g = true then 1 else 0) := by
      unfold la
      cases g with
      | false => simp
      | true =>
        rw [if_neg (by decide), if_neg (by decide), if_neg (by decide), if_pos rfl]
        split
        · omega
        · split <;> omega
    rw [e]
    omega
  · have hm2 := hmr rfl (pre ++ suf) h1 h2 h3n
    cases g with
    | true =>
      have hg0 : ∀ (l : List Nat) (i : Nat), gn hm true F 2 l i = 0 := fun l i => by
        unfold gn
        rw [if_neg (by decide)]
        split
        · rfl
        · rw [if_pos rfl, if_neg (fun z => by have := z.2; cases this)]
      rw [psm_z (fun i _ => hg0 _ i), psm_z (fun i _ => hg0 _ i)]
      have hla : la hm n true F 2 (pre ++ suf) = (rs F true (al F (pre ++ suf)) : Int) := by
        unfold la
        rw [if_neg (by decide), if_pos rfl]
      have e : hp true F (lfs hm n true F) (ct (fun m => decide (F 3 m ≠ 1)) n) mr 2 pre = (mr : Int) := by
        unfold hp
        rw [if_neg (by decide), if_neg (by decide), if_neg (fun z => by have := z.1; cases this)]
      have := hm2.1 rfl
      rw [hla, e]
      omega
    | false =>
      have hla : la hm n false F 2 (pre ++ suf) = 0 := if_pos rfl
      have hpm := sl_pm h1 h2 h3n
      have hs0 := hpm.2 0 (by omega)
      have hgz : ∀ i, i < n → i ≠ fs (sl (pre ++ suf)) n 0 → gn hm false F 2 (pre ++ suf) i = 0 := fun i hi hne => by
        unfold gn
        rw [if_neg (by decide)]
        split
        · rfl
        · rw [if_pos rfl, if_neg (fun z => hne (hpm.inj hi hs0.1 (by rw [z.1, hs0.2])))]
      rw [hla]
      by_cases h0 : 0 ∈ pre
      · have e : hp false F (lfs hm n false F) (ct (fun m => decide (F 3 m ≠ 1)) n) mr 2 pre = 0 := by
          unfold hp
          rw [if_neg (by decide), if_neg (by decide), if_pos ⟨rfl, h0⟩]
        obtain ⟨i0, hi0, hi1⟩ := List.getElem_of_mem h0
        have hz : sl (pre ++ suf) i0 = 0 := by rw [sl_app hi0, sl_eq hi0]; exact hi1
        have hfs : fs (sl (pre ++ suf)) n 0 = i0 := hpm.inj hs0.1 (by omega) (by rw [hs0.2, hz])
        have ht := psm_tail (f := gn hm false F 2 (pre ++ suf)) (j := pre.length) (k := k) (fun i q1 q2 => hgz i (by omega) (by omega))
        rw [hp3] at ht
        rw [ht, hpl, e]
        omega
      · have e : hp false F (lfs hm n false F) (ct (fun m => decide (F 3 m ≠ 1)) n) mr 2 pre = (mr : Int) := by
          unfold hp
          rw [if_neg (by decide), if_neg (by decide), if_neg (fun z => h0 z.2)]
        have hz : psm (gn hm false F 2 pre) pre.length = 0 := by
          rw [← hpl]
          refine psm_z (fun i hi => hgz i (by omega) (fun z => h0 ?_))
          have hs1 := hs0.2
          rw [← z, sl_app hi] at hs1
          rw [← hs1]
          exact sl_mem hi
        rw [psm_1 hs0.1 hgz, hz, e]
        by_cases hy : F 3 0 = 1
        · have hg0 : gn hm false F 2 (pre ++ suf) (fs (sl (pre ++ suf)) n 0) = 0 := by
            unfold gn
            rw [if_neg (by decide), if_pos (by rw [hs0.2]; exact hy)]
          rw [hg0]
          omega
        · have hg0 : gn hm false F 2 (pre ++ suf) (fs (sl (pre ++ suf)) n 0) = (rs F false (al F ((pre ++ suf).take (fs (sl (pre ++ suf)) n 0)) ++ [0]) : Int) := by
            unfold gn
            rw [hs0.2, if_neg (by decide), if_neg hy, if_pos rfl, if_pos ⟨rfl, rfl⟩]
          have := hm2.2 rfl _ hs0.1 hs0.2 hy
          rw [hg0]
          omega
