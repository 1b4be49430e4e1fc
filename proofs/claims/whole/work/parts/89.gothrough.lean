/-! where there is no order of the living, no seating is good -/
theorem al_pos {n : Nat} {F : Nat → Nat → Nat} {l : List Nat} (h : PL n l) {b : Nat} (hb : b < (al F l).length) : fs (sl l) n (sl (al F l) b) < n ∧ sl l (fs (sl l) n (sl (al F l) b)) = sl (al F l) b ∧ (al F (l.take (fs (sl l) n (sl (al F l) b)))).length = b ∧ F 3 (sl (al F l) b) ≠ 1 := by
  obtain ⟨h1, h2, h3⟩ := h
  have hp := sl_pm h1 h2 h3
  have hq := al_mem (sl_mem hb)
  have hsb := hp.2 _ (h2 _ hq.1)
  refine ⟨hsb.1, hsb.2, ?_, hq.2⟩
  have hc2 := al_cut (F := F) (l := l) (s := fs (sl l) n (sl (al F l) b)) (by omega) (by rw [hsb.2]; exact hq.2)
  have hlt2 : (al F (l.take (fs (sl l) n (sl (al F l) b)))).length < (al F l).length := by
    have z := congrArg List.length hc2
    simp only [List.length_append, List.length_cons] at z
    omega
  have e3 : sl (al F l) (al F (l.take (fs (sl l) n (sl (al F l) b)))).length = sl (al F l) b := by
    have z := sl_m (a := al F (l.take (fs (sl l) n (sl (al F l) b)))) (b := al F (l.drop (fs (sl l) n (sl (al F l) b) + 1))) (x := sl l (fs (sl l) n (sl (al F l) b)))
    rw [← hc2] at z
    exact z.trans hsb.2
  exact sl_inj (al_nd h1) hlt2 hb e3
theorem good_al {n : Nat} {g : Bool} {F : Nat → Nat → Nat} {l : List Nat} (h : PL n l) (hg : good n g F l) {i : Nat} (hi : i < (al F l).length) : (∀ b, bfo g (al F l).length i = some b → ¬ swl F (sl (al F l) b) (sl (al F l) i)) ∧ (g = true → bfo g (al F l).length i ≠ none) := by
  obtain ⟨p1, p2, p3, p4⟩ := al_pos h hi
  have hm := mth_al (g := g) (F := F) (T := fs (sl l) n) h.2.2 p1 (by rw [p2]; exact p4) (h.pm.1 _ p1).2
  rw [p2, p3] at hm
  have ha := alB_iff.mp hg (sl (al F l) i) (h.2.1 _ (al_mem (sl_mem hi)).1)
  unfold alp at ha
  refine ⟨fun b hb => ?_, fun hgt hn => ?_⟩
  · rw [hb, Option.map_some] at hm
    rw [hm] at ha
    exact of_decide_eq_true ha
  · rw [hn, Option.map_none] at hm
    rw [hm, hgt] at ha
    simp only [Bool.true_and, Bool.not_eq_true', decide_eq_false_iff_not] at ha
    exact ha p4
theorem cbo_ok {n : Nat} {g : Bool} {F : Nat → Nat → Nat} {l : List Nat} (h7 : n ≤ 7) (h : PL n l) (hg : good n g F l) : ∀ j i b, i + j = (al F l).length → 0 < (al F l).length → b < 128 → (∀ x, b.testBit x = true ↔ ∃ k, i ≤ k ∧ k < (al F l).length ∧ sl (al F l) k = x) → cbo n g F j b (if i = 0 then none else some (sl (al F l) 0)) (if i = 0 then none else some (sl (al F l) (i - 1))) = true := by
  have hnd := al_nd (F := F) h.1
  have h7a : ∀ k, k < (al F l).length → sl (al F l) k < n := fun k hk => h.2.1 _ (al_mem (sl_mem hk)).1
  intro j
  induction j with
  | zero =>
    intro i b hi hc hb8 hb
    rw [if_neg (by omega), if_neg (by omega)]
    simp only [cbo, Option.getD_some]
    cases g with
    | false => rfl
    | true =>
      have g0 := good_al h hg hc
      have hne := g0.2 rfl
      have h1c : 1 < (al F l).length := by
        apply Classical.byContradiction
        intro z
        exact hne (by unfold bfo; rw [if_neg (by omega), if_neg (fun y => z y.2)])
      have hb0 : bfo true (al F l).length 0 = some ((al F l).length - 1) := by unfold bfo; rw [if_neg (by omega), if_pos ⟨rfl, h1c⟩]
      have hs := g0.1 _ hb0
      have hn2 : ¬ (some (sl (al F l) 0) = some (sl (al F l) (i - 1))) := fun z => by
        have := sl_inj hnd hc (by omega) (Option.some.inj z)
        omega
      rw [show (al F l).length - 1 = i - 1 by omega] at hs
      simp only [ne_eq, hn2, not_false_eq_true, decide_true, hs, Bool.and_self, Bool.or_true]
  | succ j ih =>
    intro i b hi hc hb8 hb
    have hil : i < (al F l).length := by omega
    simp only [cbo]
    refine exB_iff.mpr ⟨sl (al F l) i, h7a i hil, ?_⟩
    have hbt := (hb (sl (al F l) i)).mpr ⟨i, by omega, hil, rfl⟩
    have ih2 := ih (i + 1) (clr b (sl (al F l) i)) (by omega) hc clr_lt (fun x => by
      have h7i := h7a i hil
      rw [clr_t (by omega)]
      simp only [Bool.and_eq_true, decide_eq_true_eq]
      rw [hb x]
      constructor
      · rintro ⟨⟨⟨k, k1, k2, k3⟩, hx⟩, _⟩
        refine ⟨k, ?_, k2, k3⟩
        have : k ≠ i := fun z => hx (by rw [← k3, z])
        omega
      · rintro ⟨k, k1, k2, k3⟩
        have := h7a k k2
        refine ⟨⟨⟨k, by omega, k2, k3⟩, fun z => ?_⟩, by omega⟩
        rw [z] at k3
        have := sl_inj hnd k2 hil k3
        omega)
    rw [if_neg (by omega), if_neg (by omega), Nat.add_sub_cancel] at ih2
    rw [hbt, Bool.true_and]
    by_cases e : i = 0
    · subst e
      rw [if_pos rfl]
      simp only [okl, Option.getD_none, Bool.true_and]
      exact ih2
    · rw [if_neg e, if_neg e]
      have hb0 : bfo g (al F l).length i = some (i - 1) := if_pos (by omega)
      have hs := (good_al h hg hil).1 _ hb0
      simp only [okl, Option.getD_some, hs, not_false_eq_true, decide_true, Bool.true_and]
      exact ih2
theorem cbo_no {n : Nat} {g : Bool} {F : Nat → Nat → Nat} (h7 : n ≤ 7) (hl : bt (fun m => decide (F 3 m ≠ 1)) n ≠ 0) (hc : ¬ cbo n g F (popc (bt (fun m => decide (F 3 m ≠ 1)) n)) (bt (fun m => decide (F 3 m ≠ 1)) n) none none = true) {l : List Nat} (h : PL n l) : ¬ good n g F l := fun hg => by
  have hpc : popc (bt (fun m => decide (F 3 m ≠ 1)) n) = (al F l).length := by rw [popc_bt _ h7, al_ct h.1 h.2.1 h.2.2]
  have hmem : ∀ x, (bt (fun m => decide (F 3 m ≠ 1)) n).testBit x = true ↔ ∃ k, 0 ≤ k ∧ k < (al F l).length ∧ sl (al F l) k = x := fun x => by
    rw [bt_test]
    simp only [Bool.and_eq_true, decide_eq_true_eq]
    constructor
    · rintro ⟨x1, x2⟩
      have q := h.pm.2 x x1
      have z := sl_mem (l := l) (s := fs (sl l) n x) (by have := h.2.2; omega)
      rw [q.2] at z
      have hx : x ∈ al F l := by unfold al; exact List.mem_filter.mpr ⟨z, by simpa using x2⟩
      obtain ⟨k, hk, hk2⟩ := List.getElem_of_mem hx
      exact ⟨k, Nat.zero_le _, hk, by rw [sl_eq hk]; exact hk2⟩
    · rintro ⟨k, _, hk, rfl⟩
      have := al_mem (sl_mem hk)
      exact ⟨h.2.1 _ this.1, this.2⟩
  have hc0 : 0 < (al F l).length := by
    apply Classical.byContradiction
    intro z
    exact hl (b_eq0 (fun i hi => by obtain ⟨k, _, hk, _⟩ := (hmem i).mp hi; omega))
  have := cbo_ok h7 h hg (al F l).length 0 _ (by omega) hc0 (bt_128 _ h7) hmem
  rw [if_pos rfl] at this
  rw [hpc] at hc
  exact hc this
/-! going through all -/
theorem CR.nil {h : am_H} {n : Nat} (h1 : am_i h 29 5 = nI 0) (h2 : ∀ i, i < 79 → am_l h 36 i = 0) : CR h n [] := by
  refine ⟨h1, fun i hi => absurd hi (Nat.not_lt_zero _), fun k hk => ?_, List.nodup_nil, fun l hl => by cases hl⟩
  rw [h2 (k / 64) (by omega)]
  show (0 : Int64).toBitVec.getLsbD (k % 64) = _
  rw [show (0 : Int64).toBitVec = 0#64 from rfl, BitVec.getLsbD_zero]
  simp
theorem addR_pre {R : List (List Nat)} {l : List Nat} : ∃ X, addR R l = R ++ X := by
  unfold addR
  by_cases h : l ∈ R
  · rw [if_pos h]; exact ⟨[], by simp⟩
  · rw [if_neg h]; exact ⟨[l], rfl⟩
theorem ex1_pre {n : Nat} {g : Bool} {l : List Nat} {R : List (List Nat)} : ∀ k, ∃ X, ex1 n g l R k = R ++ X
  | 0 => ⟨[], by simp [ex1]⟩
  | k + 1 => by
    obtain ⟨X, hX⟩ := ex1_pre (n := n) (g := g) (l := l) (R := R) k
    simp only [ex1]
    cases rt n g k with
    | none => exact ⟨X, hX⟩
    | some t =>
      obtain ⟨Y, hY⟩ := addR_pre (R := ex1 n g l R k) (l := nbl n l k t)
      simp only
      rw [hY, hX]
      exact ⟨X ++ Y, by simp⟩
/-- d exchanges done, f seatings gone through, R reached -/
def BF (n : Nat) (g : Bool) (F : Nat → Nat → Nat) (l0 : List Nat) (d f : Nat) (R : List (List Nat)) : Prop := (∀ l, l ∈ R ↔ Rc n g l0 d l) ∧ (∀ l, l ∈ R.take f ↔ (0 < d ∧ Rc n g l0 (d - 1) l)) ∧ (∀ l ∈ R.take f, ¬ good n g F l) ∧ d ≤ f ∧ f ≤ R.length
theorem mem_split {R : List (List Nat)} {f : Nat} {l : List Nat} (h : l ∈ R) : l ∈ R.take f ∨ ∃ k, f ≤ k ∧ k < R.length ∧ R.getD k [] = l := by
  obtain ⟨k, hk, he⟩ := List.getElem_of_mem h
  by_cases e : k < f
  · refine Or.inl ?_
    rw [← he]
    exact List.mem_iff_getElem.mpr ⟨k, by rw [List.length_take]; omega, by rw [List.getElem_take]⟩
  · exact Or.inr ⟨k, by omega, hk, by rw [List.getD_eq_getElem?_getD, List.getElem?_eq_getElem hk]; exact he⟩
theorem BF.ex {n : Nat} {g : Bool} {F : Nat → Nat → Nat} {l0 : List Nat} {d f : Nat} {R : List (List Nat)} (m : BF n g F l0 d f R) (h : R.length ≤ f) : Ans n g F l0 none := by
  obtain ⟨m1, m2, m3, m4, m5⟩ := m
  have hf : R.take f = R := List.take_of_length_le h
  rw [hf] at m2 m3
  have hd : 0 < d := by
    have hr : Rc n g l0 d l0 := Rc_mono (d := 0) rfl (by omega)
    exact ((m2 l0).mp ((m1 l0).mpr hr)).1
  have hst : ∀ l, Rc n g l0 (d - 1 + 1) l → Rc n g l0 (d - 1) l := fun l hl => by
    rw [show d - 1 + 1 = d by omega] at hl
    exact ((m2 l).mp ((m1 l).mpr hl)).2
  intro e l hl
  have : Rc n g l0 (d - 1) l := by
    have z := Rc_mono hl (show e ≤ d - 1 + e by omega)
    exact Rc_st hst e l z
  exact m3 l ((m2 l).mpr ⟨hd, this⟩)
theorem BF.fo {n : Nat} {g : Bool} {F : Nat → Nat → Nat} {l0 : List Nat} {d f t : Nat} {R : List (List Nat)} (m : BF n g F l0 d f R) (h : LGi n g F R f R.length (some t)) : Ans n g F l0 (some (d, t)) := by
  obtain ⟨m1, m2, m3, m4, m5⟩ := m
  obtain ⟨⟨i, a1, a2, a3, a4⟩, b⟩ := h
  refine ⟨fun l hl hg => ?_, ⟨R.getD i [], (m1 _).mp (getL_mem a2), a3, a4⟩, fun e he l hl hg => ?_⟩
  · rcases mem_split (f := f) ((m1 l).mpr hl) with z | ⟨k, k1, k2, rfl⟩
    · exact absurd hg (m3 l z)
    · exact b k k1 k2 hg
  · exact m3 l ((m2 l).mpr ⟨by omega, Rc_mono hl (by omega)⟩) hg
theorem BF.nx {n : Nat} {g : Bool} {F : Nat → Nat → Nat} {l0 : List Nat} {d f : Nat} {R X : List (List Nat)} (m : BF n g F l0 d f R) (h : LGi n g F R f R.length none) (hlt : f < R.length) (hx : ∀ l, l ∈ R ++ X ↔ l ∈ R ∨ ∃ k, f ≤ k ∧ k < R.length ∧ nb n g (R.getD k []) l) : BF n g F l0 (d + 1) R.length (R ++ X) := by
  obtain ⟨m1, m2, m3, m4, m5⟩ := m
  have ht : (R ++ X).take R.length = R := by simp
  refine ⟨fun l => ?_, fun l => ?_, fun l hl hg => ?_, by omega, by rw [List.length_append]; omega⟩
  · rw [hx l]
    constructor
    · rintro (z | ⟨k, k1, k2, k3⟩)
      · exact Or.inl ((m1 l).mp z)
      · exact Or.inr ⟨_, (m1 _).mp (getL_mem k2), k3⟩
    · rintro (z | ⟨l', l1, l2⟩)
      · exact Or.inl ((m1 l).mpr z)
      · rcases mem_split (f := f) ((m1 l').mpr l1) with z | ⟨k, k1, k2, rfl⟩
        · have q := (m2 l').mp z
          refine Or.inl ((m1 l).mpr ?_)
          have : Rc n g l0 (d - 1 + 1) l := Or.inr ⟨l', q.2, l2⟩
          rwa [show d - 1 + 1 = d by omega] at this
        · exact Or.inr ⟨k, k1, k2, l2⟩
  · rw [ht, m1 l]
    exact ⟨fun z => ⟨by omega, z⟩, fun z => z.2⟩
  · rw [ht] at hl
    rcases mem_split (f := f) hl with z | ⟨k, k1, k2, rfl⟩
    · exact m3 l z hg
    · exact h k k1 k2 hg
set_option maxHeartbeats 2000000 in
theorem c_fillL_lp {h0 : am_H} {v : Int64} : ∀ k j h, j + k = 79 → Wd h → Fx [36] [] h0 h → (∀ i, i < j → am_l h 36 i = v) → am_E 0 m_J7_fill_d0a16 6 [some (.ref 36), some (.long v), none, some (.int (nI j)), some (.int (nI 79))] [] h (fun w h2 => w = none ∧ Fx [36] [] h0 h2 ∧ ∀ i, i < 79 → am_l h2 36 i = v) := by
  intro k
  induction k with
  | zero =>
    intro j h hj hW hf hv
    have hj8 : j = 79 := by omega
    subst hj8
    refine Eq_iln dJ7_fill_d0a16_6 rfl ?_
    refine Eq_il dJ7_fill_d0a16_7 rfl ?_
    refine Et_ic_ge 22 dJ7_fill_d0a16_9 rfl (by exact nI_le (by omega) (by omega)) ?_
    refine Eq_vr dJ7_fill_d0a16_22 rfl ?_
    exact ⟨rfl, hf, hv⟩
  | succ k ih =>
    intro j h hj hW hf hv
    refine Eq_iln dJ7_fill_d0a16_6 rfl ?_
    refine Eq_il dJ7_fill_d0a16_7 rfl ?_
    refine Ef_ic_ge dJ7_fill_d0a16_9 (tgt := 22) rfl (by exact nI_ge (by omega) (by omega)) ?_
    refine Eq_aln dJ7_fill_d0a16_12 rfl ?_
    refine Eq_iln dJ7_fill_d0a16_13 rfl ?_
    refine Eq_lln dJ7_fill_d0a16_14 rfl ?_
    refine Eq_lst dJ7_fill_d0a16_15 (ws_36 hW) (by omega) (by omega) ?_
    refine Eq_inc dJ7_fill_d0a16_16 rfl (by decide) ?_
    refine Eam_nl (pc' := 19) (l' := [_, _, _, _, _]) rfl rfl ?_
    refine Eam_x_goto (tgt := 6) dJ7_fill_d0a16_19 rfl ?_
    exact ih (j + 1) _ (by omega) ((Fx.wL (A := [36]) (B := []) (Or.inl (by decide))).Wd hW) (hf.tr (Fx.wL (Or.inl (by decide)))) (fun i hi => by
      rw [wL_eq]
      by_cases e : i = j
      · rw [if_pos e]
      · rw [if_neg e]; exact hv i (by omega))
set_option maxHeartbeats 2000000 in
theorem c_fillL {h : am_H} (hW : Wd h) {v : Int64} : am_D 0 m_J7_fill_d0a16 [.ref 36, .long v] h (fun w h2 => w = none ∧ Fx [36] [] h h2 ∧ ∀ i, i < 79 → am_l h2 36 i = v) := by
  refine Eq_ic (v := nI 0) dJ7_fill_d0a16_0 rfl ?_
  refine Eq_isn dJ7_fill_d0a16_1 (by decide) ?_
  refine Eam_nl (pc' := 2) (l' := [_, _, _, _, _]) rfl rfl ?_
  refine Eq_aln dJ7_fill_d0a16_2 rfl ?_
  refine Eam_x_alen dJ7_fill_d0a16_3 (ws_36 hW) (by decide) ?_
  refine Eq_is dJ7_fill_d0a16_4 (by decide) ?_
  refine Eam_nl (pc' := 6) (l' := [_, _, _, _, _]) rfl rfl ?_
  exact c_fillL_lp 79 0 h (by omega) hW Fx.rf (fun i hi => by omega)
set_option maxHeartbeats 2000000 in
theorem c_go_in {n : Nat} {g : Bool} {F : Nat → Nat → Nat} (h7 : n ≤ 7) {l0 : List Nat} {R : List (List Nat)} {f d : Nat} (hlen : R.length ≤ 5040) {h0 : am_H} (kk : ∀ h X, Wd h → MB h n g F → am_i h 30 0 = nI n → Fx [30, 31, 32, 35, 36] [(29, 5), (29, 8), (29, 9)] h0 h → am_i h 29 8 = -1 → am_i h 29 9 = -1 → CR h n (R ++ X) → (∀ l, l ∈ R ++ X ↔ l ∈ R ∨ ∃ k, f ≤ k ∧ k < R.length ∧ nb n g (R.getD k []) l) → am_E 4 m_X1_goThrough 32 [some (.ref 29), some (.int (nI R.length)), some (.int (nI (d + 1))), some (.int (nI R.length)), some (.int (nI R.length))] [] h (fun v h2 => v = none ∧ Fx [30, 31, 32, 35, 36] [(29, 5), (29, 8), (29, 9)] h0 h2 ∧ ∃ o, Ans n g F l0 o ∧ am_i h2 29 8 = oN (o.map Prod.fst) ∧ am_i h2 29 9 = oN (o.map Prod.snd))) : ∀ q i X h, i + q = R.length → f ≤ i → Wd h → MB h n g F → am_i h 30 0 = nI n → Fx [30, 31, 32, 35, 36] [(29, 5), (29, 8), (29, 9)] h0 h → am_i h 29 8 = -1 → am_i h 29 9 = -1 → CR h n (R ++ X) → (∀ l, l ∈ R ++ X ↔ l ∈ R ∨ ∃ k, f ≤ k ∧ k < i ∧ nb n g (R.getD k []) l) → am_E 4 m_X1_goThrough 79 [some (.ref 29), some (.int (nI f)), some (.int (nI d)), some (.int (nI R.length)), some (.int (nI i))] [] h (fun v h2 => v = none ∧ Fx [30, 31, 32, 35, 36] [(29, 5), (29, 8), (29, 9)] h0 h2 ∧ ∃ o, Ans n g F l0 o ∧ am_i h2 29 8 = oN (o.map Prod.fst) ∧ am_i h2 29 9 = oN (o.map Prod.snd)) := by
  intro q
  induction q with
  | zero =>
    intro i X h hi hfi hW hM hn hf h8 h9 hR hx
    have hin : i = R.length := by omega
    subst hin
    refine Eq_il dX1_goThrough_79 rfl ?_
    refine Eq_iln dX1_goThrough_81 rfl ?_
    refine Et_ic_ge 110 dX1_goThrough_82 rfl (by exact nI_le (by omega) (by omega)) ?_
    refine Eq_iln dX1_goThrough_110 rfl ?_
    refine Eq_isn dX1_goThrough_111 (by decide) ?_
    refine Eam_nl (pc' := 112) (l' := [_, _, _, _, _]) rfl rfl ?_
    refine Eq_inc dX1_goThrough_112 rfl (by decide) ?_
    refine Eam_nl (pc' := 115) (l' := [_, _, _, _, _]) rfl rfl ?_
    refine Eam_x_goto (tgt := 32) dX1_goThrough_115 rfl ?_
    exact kk h X hW hM hn hf h8 h9 hR hx
  | succ q ih =>
    intro i X h hi hfi hW hM hn hf h8 h9 hR hx
    have hiX : i < (R ++ X).length := by rw [List.length_append]; omega
    have hv := hR.2.1 i hiX
    have hl := hR.at hiX
    have hea := c_exchangeAll hW hM hn hl hR
    have hgi : (R ++ X).getD i [] = R.getD i [] := by rw [List.getD_eq_getElem?_getD, List.getD_eq_getElem?_getD, List.getElem?_append_left (by omega)]
    obtain ⟨Y, hY⟩ := ex1_pre (n := n) (g := g) (l := (R ++ X).getD i []) (R := R ++ X) n
    refine Eq_il dX1_goThrough_79 rfl ?_
    refine Eq_iln dX1_goThrough_81 rfl ?_
    refine Ef_ic_ge dX1_goThrough_82 (tgt := 110) rfl (by exact nI_ge (by omega) (by omega)) ?_
    refine Eq_il dX1_goThrough_85 rfl ?_
    refine Eq_sp (v := nI 5040) dX1_goThrough_87 rfl ?_
    refine Ef_ic_ge dX1_goThrough_90 (tgt := 110) rfl (by exact nI_ge (b := 5040) (by omega) (by omega)) ?_
    refine Eq_aln dX1_goThrough_93 rfl ?_
    refine Eq_aln dX1_goThrough_94 rfl ?_
    refine Eq_getR dX1_goThrough_95 fl_X1_34 (ws_29 hW) rfl (wp_29_4 hW) ?_
    refine Eq_il dX1_goThrough_98 rfl ?_
    refine Eq_ald dX1_goThrough_100 (ws_35 hW) (by omega) (by omega) hv ?_
    refine Eq_W1 (N := m_X1_exchangeAll) dX1_goThrough_101 lk_X1_96 mV_X1_exchangeAll (hea) (by decide) (ws_29 hW) rfl (by decide) (Nat.le_of_ble_eq_true rfl) (Nat.le_of_ble_eq_true rfl) (fun vq hq1 hq2 => ?_)
    obtain ⟨rfl, hf2, hR2, T2, hS2⟩ := hq2
    refine Eq_inc dX1_goThrough_104 rfl (by decide) ?_
    refine Eam_nl (pc' := 107) (l' := [_, _, _, _, _]) rfl rfl ?_
    refine Eam_x_goto (tgt := 79) dX1_goThrough_107 rfl ?_
    rw [hY, List.append_assoc] at hR2
    refine ih (i + 1) (X ++ Y) hq1 (by omega) (by omega) (hf2.Wd hW) (hM.fx hf2 (by decide)) hS2.1 (hf.tr (hf2.mono (by decide) (by decide))) ((hf2.i (by decide) (by decide)).trans h8) ((hf2.i (by decide) (by decide)).trans h9) hR2 (fun l => ?_)
    rw [← List.append_assoc, ← hY, ex1_nb, hx l, hgi]
    constructor
    · rintro ((z | ⟨k, k1, k2, k3⟩) | z)
      · exact Or.inl z
      · exact Or.inr ⟨k, k1, by omega, k3⟩
      · exact Or.inr ⟨i, hfi, by omega, z⟩
    · rintro (z | ⟨k, k1, k2, k3⟩)
      · exact Or.inl (Or.inl z)
      · by_cases e : k = i
        · rw [e] at k3; exact Or.inr k3
        · exact Or.inl (Or.inr ⟨k, k1, by omega, k3⟩)
set_option maxHeartbeats 2000000 in
theorem c_go_lp {n : Nat} {g : Bool} {F : Nat → Nat → Nat} (h7 : n ≤ 7) {l0 : List Nat} {h0 : am_H} : ∀ q d f R h l3 l4, 5040 ≤ f + q → Wd h → MB h n g F → am_i h 30 0 = nI n → Fx [30, 31, 32, 35, 36] [(29, 5), (29, 8), (29, 9)] h0 h → am_i h 29 8 = -1 → am_i h 29 9 = -1 → CR h n R → BF n g F l0 d f R → am_E 4 m_X1_goThrough 32 [some (.ref 29), some (.int (nI f)), some (.int (nI d)), l3, l4] [] h (fun v h2 => v = none ∧ Fx [30, 31, 32, 35, 36] [(29, 5), (29, 8), (29, 9)] h0 h2 ∧ ∃ o, Ans n g F l0 o ∧ am_i h2 29 8 = oN (o.map Prod.fst) ∧ am_i h2 29 9 = oN (o.map Prod.snd)) := by
  intro q
  induction q with
  | zero =>
    intro d f R h l3 l4 hq hW hM hn hf h8 h9 hR hB
    have hlen := nd_len h7 hR.2.2.2.1 hR.2.2.2.2
    have hfl : R.length ≤ f := by omega
    have hdf := hB.2.2.2
    by_cases hd5 : d < 5040
    · refine Eq_iln dX1_goThrough_32 rfl ?_
      refine Eq_sp (v := nI 5040) dX1_goThrough_33 rfl ?_
      refine Ef_ic_ge dX1_goThrough_36 (tgt := 118) rfl (by exact nI_ge (b := 5040) (by omega) (by omega)) ?_
      refine Eq_iln dX1_goThrough_39 rfl ?_
      refine Eq_aln dX1_goThrough_40 rfl ?_
      refine Eq_getI dX1_goThrough_41 fl_X1_38 (ws_29 hW) rfl hR.1 ?_
      refine Et_ic_ge 118 dX1_goThrough_44 rfl (by exact nI_le (by omega) (by omega)) ?_
      refine Eq_vr dX1_goThrough_118 rfl ?_
      exact ⟨rfl, hf, none, hB.ex hfl, h8, h9⟩
    · refine Eq_iln dX1_goThrough_32 rfl ?_
      refine Eq_sp (v := nI 5040) dX1_goThrough_33 rfl ?_
      refine Et_ic_ge 118 dX1_goThrough_36 rfl (by exact nI_le (b := d) (by omega) (by omega)) ?_
      refine Eq_vr dX1_goThrough_118 rfl ?_
      exact ⟨rfl, hf, none, hB.ex hfl, h8, h9⟩
  | succ q ih =>
    intro d f R h l3 l4 hq hW hM hn hf h8 h9 hR hB
    have hlen := nd_len h7 hR.2.2.2.1 hR.2.2.2.2
    have hdf := hB.2.2.2
    by_cases hfl : R.length ≤ f
    · by_cases hd5 : d < 5040
      · refine Eq_iln dX1_goThrough_32 rfl ?_
        refine Eq_sp (v := nI 5040) dX1_goThrough_33 rfl ?_
        refine Ef_ic_ge dX1_goThrough_36 (tgt := 118) rfl (by exact nI_ge (b := 5040) (by omega) (by omega)) ?_
        refine Eq_iln dX1_goThrough_39 rfl ?_
        refine Eq_aln dX1_goThrough_40 rfl ?_
        refine Eq_getI dX1_goThrough_41 fl_X1_38 (ws_29 hW) rfl hR.1 ?_
        refine Et_ic_ge 118 dX1_goThrough_44 rfl (by exact nI_le (by omega) (by omega)) ?_
        refine Eq_vr dX1_goThrough_118 rfl ?_
        exact ⟨rfl, hf, none, hB.ex hfl, h8, h9⟩
      · refine Eq_iln dX1_goThrough_32 rfl ?_
        refine Eq_sp (v := nI 5040) dX1_goThrough_33 rfl ?_
        refine Et_ic_ge 118 dX1_goThrough_36 rfl (by exact nI_le (b := d) (by omega) (by omega)) ?_
        refine Eq_vr dX1_goThrough_118 rfl ?_
        exact ⟨rfl, hf, none, hB.ex hfl, h8, h9⟩
    · have hlg := c_leastGood hW hM hn hR (f := f) (by omega)
      have hlt : f < R.length := by omega
      refine Eq_iln dX1_goThrough_32 rfl ?_
      refine Eq_sp (v := nI 5040) dX1_goThrough_33 rfl ?_
      refine Ef_ic_ge dX1_goThrough_36 (tgt := 118) rfl (by exact nI_ge (b := 5040) (by omega) (by omega)) ?_
      refine Eq_iln dX1_goThrough_39 rfl ?_
      refine Eq_aln dX1_goThrough_40 rfl ?_
      refine Eq_getI dX1_goThrough_41 fl_X1_38 (ws_29 hW) rfl (by first | exact hR.1) ?_
      refine Ef_ic_ge dX1_goThrough_44 (tgt := 118) rfl (by exact nI_ge (by omega) (by omega)) ?_
      refine Eq_aln dX1_goThrough_47 rfl ?_
      refine Eq_getI dX1_goThrough_48 fl_X1_38 (ws_29 hW) rfl (by first | exact hR.1) ?_
      refine Eq_isn dX1_goThrough_51 (by decide) ?_
      refine Eam_nl (pc' := 52) (l' := [_, _, _, _, _]) rfl rfl ?_
      refine Eq_aln dX1_goThrough_52 rfl ?_
      refine Eq_aln dX1_goThrough_53 rfl ?_
      refine Eq_iln dX1_goThrough_54 rfl ?_
      refine Eq_iln dX1_goThrough_55 rfl ?_
      refine Eq_W2 (N := m_X1_leastGood) dX1_goThrough_56 lk_X1_92 mV_X1_leastGood (hlg) (by decide) (ws_29 hW) rfl (by decide) (Nat.le_of_ble_eq_true rfl) (Nat.le_of_ble_eq_true rfl) (fun vq hq1 hq2 => ?_)
      obtain ⟨st, rfl, hi2, hb2, hf2⟩ := hq2
      have hW2 := hf2.Wd hW
      refine Eam_x_putI dX1_goThrough_59 (fw_X1_53 rfl) (ws_29 hW2) (Or.inl rfl) ?_
      have k1 : Fx [30, 31, 32, 35, 36] [(29, 5), (29, 8), (29, 9)] h (am_wI hq1 29 9 (oN st)) := (hf2.mono (by decide) (by decide)).tr (Fx.wI (Or.inr (by decide)))
      have e8 : am_i (am_wI hq1 29 9 (oN st)) 29 8 = -1 := by rw [wI_o (by decide), hf2.i (by decide) (by decide)]; exact h8
      have hR3 : CR (am_wI hq1 29 9 (oN st)) n R := (hR.fx hf2 (by decide)).fx (A := []) (B := [(29, 9)]) (Fx.wI (Or.inr (by decide))) (by decide)
      cases st with
      | some t =>
        have hbt := hb2 t rfl
        refine Eq_aln dX1_goThrough_62 rfl ?_
        refine Eq_getI dX1_goThrough_63 fl_X1_53 (ws_29 hW2) rfl wI_e0 ?_
        refine Eq_ic (v := -1) dX1_goThrough_66 rfl ?_
        refine Ef_ic_eq dX1_goThrough_67 (tgt := 76) rfl (by exact nI_m1 (by omega)) ?_
        refine Eq_aln dX1_goThrough_70 rfl ?_
        refine Eq_iln dX1_goThrough_71 rfl ?_
        refine Eam_x_putI dX1_goThrough_72 (fw_X1_50 rfl) (ws_29 hW2) (Or.inl rfl) ?_
        refine Eq_vr dX1_goThrough_75 rfl ?_
        exact ⟨rfl, hf.tr (k1.tr (Fx.wI (Or.inr (by decide)))), some (d, t), hB.fo hi2, wI_e0, by rw [wI_o (by decide), wI_e0]; rfl⟩
      | none =>
        refine Eq_aln dX1_goThrough_62 rfl ?_
        refine Eq_getI dX1_goThrough_63 fl_X1_53 (ws_29 hW2) rfl wI_e0 ?_
        refine Eq_ic (v := -1) dX1_goThrough_66 rfl ?_
        refine Et_ic_eq 76 dX1_goThrough_67 rfl (by rfl) ?_
        refine Eq_iln dX1_goThrough_76 rfl ?_
        refine Eq_is dX1_goThrough_77 (by decide) ?_
        refine Eam_nl (pc' := 79) (l' := [_, _, _, _, _]) rfl rfl ?_
        exact c_go_in h7 hlen (fun h4 X a1 a2 a3 a4 a5 a6 a7 a8 => ih (d + 1) R.length (R ++ X) h4 _ _ (by omega) a1 a2 a3 a4 a5 a6 a7 (hB.nx hi2 hlt a8)) (R.length - f) f [] _ (by omega) (Nat.le_refl _) (k1.Wd hW) (hM.fx k1 (by decide)) ((hf2.i (by decide) (by decide)).trans hn) (hf.tr k1) e8 wI_e0 (by rw [List.append_nil]; exact hR3) (fun l => by rw [List.append_nil]; exact ⟨Or.inl, fun z => z.elim id (fun ⟨k, k1, k2, _⟩ => by omega)⟩)
set_option maxHeartbeats 2000000 in
theorem c_goThrough {h : am_H} {n : Nat} {g : Bool} {F : Nat → Nat → Nat} (hW : Wd h) (hM : MB h n g F) {S T : Nat → Nat} (hS : SB 11 12 13 h n S T) (h8 : am_i h 29 8 = -1) (h9 : am_i h 29 9 = -1) : am_D 4 m_X1_goThrough [.ref 29] h (fun v h2 => v = none ∧ Fx [30, 31, 32, 35, 36] [(29, 5), (29, 8), (29, 9)] h h2 ∧ ∃ o, Ans n g F (lS n S) o ∧ am_i h2 29 8 = oN (o.map Prod.fst) ∧ am_i h2 29 9 = oN (o.map Prod.snd)) := by
  have h7 := hM.2.2.1
  have hl0 : PL n (lS n S) := lS_PL hS.pm
  refine Eq_aln dX1_goThrough_0 rfl ?_
  refine Eq_getR dX1_goThrough_1 fl_X1_42 (ws_29 hW) rfl (wp_29_6 hW) ?_
  refine Eq_lc (v := 0) dX1_goThrough_4 rfl ?_
  refine Eq_T2 (N := m_J7_fill_d0a16) dX1_goThrough_5 lk_X1_79 mS_J7_fill_d0a16 (c_fillL hW (v := 0)) (by decide) (Nat.le_of_ble_eq_true rfl) (Nat.le_of_ble_eq_true rfl) (fun vq hq1 hq2 => ?_)
  obtain ⟨rfl, hf2, hz2⟩ := hq2
  have hW2 := hf2.Wd hW
  have hS2 := hS.fx hf2 (by decide)
  have k2 : Fx [] [(29, 5)] hq1 (am_wI hq1 29 5 (nI 0)) := Fx.wI (Or.inr (by decide))
  refine Eq_aln dX1_goThrough_8 rfl ?_
  refine Eq_ic (v := nI 0) dX1_goThrough_9 rfl ?_
  refine Eam_x_putI dX1_goThrough_10 (fw_X1_38 rfl) (ws_29 hW2) (Or.inl rfl) ?_
  refine Eq_aln dX1_goThrough_13 rfl ?_
  refine Eq_getR dX1_goThrough_14 fl_X1_22 (ws_29 hW2) rfl (wp_29_2 hW2) ?_
  refine Eq_aln dX1_goThrough_17 rfl ?_
  refine Eq_getR dX1_goThrough_18 fl_X1_15 (ws_29 hW2) rfl (wp_29_1 hW2) ?_
  refine Eq_W1 (N := m_X6_copyFrom) dX1_goThrough_21 lk_X1_85 mV_X6_copyFrom (c_copyS30_11 (k2.Wd hW2) (hS2.fx k2 (by decide))) (by decide) (ws_30 hW2) rfl (by decide) (Nat.le_of_ble_eq_true rfl) (Nat.le_of_ble_eq_true rfl) (fun vq hq1 hq4 => ?_)
  obtain ⟨rfl, hf4, hS4⟩ := hq4
  have hW4 := hf4.Wd (k2.Wd hW2)
  have hM4 := ((hM.fx hf2 (by decide)).fx k2 (by decide)).fx hf4 (by decide)
  have hR4 : CR hq1 n [] := CR.nil ((hf4.i (by decide) (by decide)).trans wI_e0) (fun i hi => (hf4.l (by decide) (by simp)).trans (hz2 i hi))
  refine Eq_aln dX1_goThrough_24 rfl ?_
  refine Eq_W0 (N := m_X1_reach) dX1_goThrough_25 lk_X1_89 mV_X1_reach (c_reach hW4 hM4 hS4 hR4) (by decide) (ws_29 hW4) rfl (by decide) (Nat.le_of_ble_eq_true rfl) (Nat.le_of_ble_eq_true rfl) (fun vq hq1 hq6 => ?_)
  obtain ⟨rfl, hf6, hR6⟩ := hq6
  have hW6 := hf6.Wd hW4
  refine Eq_ic (v := nI 0) dX1_goThrough_28 rfl ?_
  refine Eq_isn dX1_goThrough_29 (by decide) ?_
  refine Eam_nl (pc' := 30) (l' := [_, _, _, _, _]) rfl rfl ?_
  refine Eq_ic (v := nI 0) dX1_goThrough_30 rfl ?_
  refine Eq_isn dX1_goThrough_31 (by decide) ?_
  refine Eam_nl (pc' := 32) (l' := [_, _, _, _, _]) rfl rfl ?_
  rw [show addR [] (lS n S) = [lS n S] from rfl] at hR6
  have kf := ((hf2.mono (A' := [30, 31, 32, 35, 36]) (B' := [(29, 5), (29, 8), (29, 9)]) (by decide) (by decide)).tr (k2.mono (by decide) (by decide))).tr ((hf4.mono (by decide) (by decide)).tr (hf6.mono (by decide) (by decide)))
  exact c_go_lp h7 5040 0 0 [lS n S] _ _ _ (by omega) hW6 (hM4.fx hf6 (by decide)) ((hf6.i (by decide) (by decide)).trans hS4.1) kf (((hf6.i (by decide) (by decide)).trans ((hf4.i (by decide) (by decide)).trans ((k2.i (by decide) (by decide)).trans (hf2.i (by decide) (by decide))))).trans h8) (((hf6.i (by decide) (by decide)).trans ((hf4.i (by decide) (by decide)).trans ((k2.i (by decide) (by decide)).trans (hf2.i (by decide) (by decide))))).trans h9) hR6 ⟨fun l => by rw [List.mem_singleton]; exact Iff.rfl, fun l => by simp, fun l hl => by simp at hl, by omega, by omega⟩
