/-! the class's search: hopes, judging, places -/
/-- those who sit, as bits -/
def US (pre : List Nat) (b : Nat) : Prop := b < 128 ∧ ∀ m, m < 7 → b.testBit m = decide (m ∈ pre)
theorem US.put {pre : List Nat} {b m : Nat} (u : US pre b) (hm : m < 7) : US (pre ++ [m]) (b ||| 2 ^ m) := by
  refine ⟨Nat.or_lt_two_pow (n := 7) u.1 (Nat.pow_lt_pow_right (by omega) hm), fun i hi => ?_⟩
  rw [Nat.testBit_or, u.2 i hi, Nat.testBit_two_pow]
  by_cases e : i ∈ pre
  · simp [e]
  · by_cases e2 : m = i
    · subst e2; simp [e]
    · have e3 : ¬ i = m := fun z => e2 z.symm
      simp [e, e2, e3]
def hp (g : Bool) (F : Nat → Nat → Nat) (lf : Nat → Int) (AL mr w : Nat) (pre : List Nat) : Int := if w = 0 then -(lf pre.length) else if w = 1 then (AL : Int) - ((al F pre).length : Int) + (if g = true then 1 else 0) else if g = false ∧ 0 ∈ pre then 0 else (mr : Int)
/-- what the search keeps -/
def PSt (h : am_H) (hm : Option (List (Tks × Tks))) (n : Nat) (g : Bool) (F : Nat → Nat → Nat) (lf : Nat → Int) (AL mr w : Nat) : Prop := (w = 0 → WT h hm n g F ∧ ∀ s, s < 8 → am_i h 23 s = zI (lf s)) ∧ am_i h 20 7 = nI AL ∧ am_i h 20 8 = nI mr ∧ AL ≤ 7 ∧ mr ≤ 7000 ∧ w < 3
theorem PSt.fx {A : List Nat} {B : List (Nat × Nat)} {h h' : am_H} {hm : Option (List (Tks × Tks))} {n : Nat} {g : Bool} {F : Nat → Nat → Nat} {lf : Nat → Int} {AL mr w : Nat} (m : PSt h hm n g F lf AL mr w) (a : Fx A B h h') (ok : 20 ∉ A ∧ 22 ∉ A ∧ 23 ∉ A ∧ (20, 7) ∉ B ∧ (20, 8) ∉ B ∧ 22 ∉ B.map Prod.fst ∧ 23 ∉ B.map Prod.fst) : PSt h' hm n g F lf AL mr w := by
  unfold PSt WT at m ⊢
  rw [a.i ok.1 ok.2.2.2.1, a.i ok.1 ok.2.2.2.2.1, a.ia ok.2.1 ok.2.2.2.2.2.1, a.ia ok.2.2.1 ok.2.2.2.2.2.2]
  exact m
theorem OR'.fx {A : List Nat} {B : List (Nat × Nat)} {h h' : am_H} {l : List Nat} (m : OR' h l) (a : Fx A B h h') (h1 : 24 ∉ A) (h2 : 24 ∉ B.map Prod.fst) : OR' h' l := by
  unfold OR' at m ⊢
  rw [a.ia h1 h2]
  exact m
theorem AR.fx {A : List Nat} {B : List (Nat × Nat)} {h h' : am_H} {l : List Nat} (m : AR h l) (a : Fx A B h h') (h1 : 25 ∉ A) (h2 : 25 ∉ B.map Prod.fst) : AR h' l := by
  unfold AR at m ⊢
  rw [a.ia h1 h2]
  exact m
theorem OR'.cut {h : am_H} {l m : List Nat} (o : OR' h (l ++ m)) : OR' h l := ⟨by have := o.1; rw [List.length_append] at this; omega, fun i hi => by rw [o.2 i (by rw [List.length_append]; omega), sl_app hi]⟩
theorem AR.cut {h : am_H} {F : Nat → Nat → Nat} {l : List Nat} {m : Nat} (o : AR h (al F (l ++ [m]))) : AR h (al F l) := by
  rw [al_app] at o
  split at o
  · exact o
  · exact ⟨by have := o.1; rw [List.length_append] at this; omega, fun i hi => by rw [o.2 i (by rw [List.length_append]; omega), sl_app hi]⟩
theorem OR'.put {h : am_H} {l : List Nat} {m : Nat} (o : OR' h l) (h7 : l.length < 7) : OR' (am_wI h 24 l.length (nI m)) (l ++ [m]) := ⟨by rw [List.length_append]; exact h7, fun i hi => by
  rw [List.length_append] at hi
  simp only [List.length_cons, List.length_nil] at hi
  rw [wI_eq]
  by_cases e : i = l.length
  · rw [if_pos e, e, sl_last]
  · rw [if_neg e, o.2 i (by omega), sl_app (by omega)]⟩
theorem AR.put {h : am_H} {l : List Nat} {m : Nat} (o : AR h l) (h7 : l.length < 7) : AR (am_wI h 25 l.length (nI m)) (l ++ [m]) := ⟨by rw [List.length_append]; exact h7, fun i hi => by
  rw [List.length_append] at hi
  simp only [List.length_cons, List.length_nil] at hi
  rw [wI_eq]
  by_cases e : i = l.length
  · rw [if_pos e, e, sl_last]
  · rw [if_neg e, o.2 i (by omega), sl_app (by omega)]⟩
/-- what is found -/
def BSt (h : am_H) (n : Nat) (st : Option (Int × List Nat)) : Prop := match st with
  | none => am_i h 20 9 = nI 0
  | some b => am_i h 20 9 = nI 1 ∧ am_i h 20 10 = zI b.1 ∧ am_i h 20 11 = nI (dgl n b.2) ∧ -100000000 ≤ b.1 ∧ b.1 ≤ 100000000
theorem BSt.fx {A : List Nat} {B : List (Nat × Nat)} {h h' : am_H} {n : Nat} {st : Option (Int × List Nat)} (m : BSt h n st) (a : Fx A B h h') (ok : 20 ∉ A ∧ (20, 9) ∉ B ∧ (20, 10) ∉ B ∧ (20, 11) ∉ B) : BSt h' n st := by
  unfold BSt at m ⊢
  rw [a.i ok.1 ok.2.1, a.i ok.1 ok.2.2.1, a.i ok.1 ok.2.2.2]
  exact m
set_option maxHeartbeats 2000000 in
theorem c_hope {h : am_H} {n : Nat} {g : Bool} {F : Nat → Nat → Nat} (hW : Wd h) (hM : MB h n g F) {hm : Option (List (Tks × Tks))} {lf : Nat → Int} {AL mr w : Nat} (hP : PSt h hm n g F lf AL mr w) {pre : List Nat} (hl7 : pre.length ≤ 7) {b : Nat} (hU : US pre b) : am_C 0 m_X0_hope [.ref 20, .int (nI w), .int (nI pre.length), .int (nI b), .int (nI (al F pre).length)] h (some (.int (zI (hp g F lf AL mr w pre))), h) := by
  obtain ⟨hP0, hPa, hPm, hA7, hm7, hw3⟩ := hP
  have hal := al_len (F := F) (l := pre)
  rcases (show w = 0 ∨ w = 1 ∨ w = 2 by omega) with rfl | rfl | rfl
  · have e : hp g F lf AL mr 0 pre = -(lf pre.length) := if_pos rfl
    rw [e, ← zI_neg]
    have hv := (hP0 rfl).2 pre.length (by omega)
    refine q_iln dX0_hope_0 rfl ?_
    refine f_if_ne dX0_hope_1 (tgt := 29) rfl (by rfl) ?_
    refine q_iln dX0_hope_4 rfl ?_
    refine n_if_lt (tgt := 27) dX0_hope_5 rfl (by omega) ?_
    refine q_iln dX0_hope_8 rfl ?_
    refine q_aln dX0_hope_9 rfl ?_
    refine q_getR dX0_hope_10 fl_X0_31 (ws_20 hW) rfl (wp_20_4 hW) ?_
    refine am_x_alen dX0_hope_13 (ws_23 hW) (by decide) ?_
    refine f_ic_ge dX0_hope_14 (tgt := 27) rfl (by exact nI_ge (b := 8) (by omega) (by omega)) ?_
    refine q_aln dX0_hope_17 rfl ?_
    refine q_getR dX0_hope_18 fl_X0_31 (ws_20 hW) rfl (wp_20_4 hW) ?_
    refine q_iln dX0_hope_21 rfl ?_
    refine q_ald dX0_hope_22 (ws_23 hW) (by omega) (by omega) hv ?_
    refine am_x_pu dX0_hope_23 rfl ?_
    refine am_x_goto (tgt := 28) dX0_hope_24 rfl ?_
    refine q_ir dX0_hope_28 rfl ?_
    rfl
  · cases hg : g with
    | true =>
      have hgo : am_i h 9 1 = nI 1 := by rw [hM.2.1, hg]; rfl
      have e : zI (hp true F lf AL mr 1 pre) = nI AL - nI (al F pre).length + nI 1 := by
        show zI ((AL : Int) - ((al F pre).length : Int) + 1) = _
        rw [← zI_add, ← zI_sub, zI_n (by omega), zI_n (by omega), zI_1]
      rw [e]
      refine q_iln dX0_hope_0 rfl ?_
      refine t_if_ne 29 dX0_hope_1 rfl (by exact zf1) ?_
      refine q_iln dX0_hope_29 rfl ?_
      refine q_ic (v := nI 1) dX0_hope_30 rfl ?_
      refine f_ic_ne dX0_hope_31 (tgt := 58) rfl (by rfl) ?_
      refine q_aln dX0_hope_34 rfl ?_
      refine q_getI dX0_hope_35 fl_X0_102 (ws_20 hW) rfl (by first | exact hgo | exact hPa) ?_
      refine q_il dX0_hope_38 rfl ?_
      refine am_x_pu dX0_hope_40 rfl ?_
      refine q_aln dX0_hope_41 rfl ?_
      refine q_getR dX0_hope_42 fl_X0_9 (ws_20 hW) rfl (wp_20_0 hW) ?_
      refine q_getI dX0_hope_45 fl_X0_59 (ws_9 hW) rfl (by first | exact hgo | exact hPa) ?_
      refine f_if_eq dX0_hope_48 (tgt := 55) rfl (by exact zf1) ?_
      refine q_ic (v := nI 1) dX0_hope_51 rfl ?_
      refine am_x_goto (tgt := 56) dX0_hope_52 rfl ?_
      refine am_x_pu dX0_hope_56 rfl ?_
      refine q_ir dX0_hope_57 rfl ?_
      rfl
    | false =>
      have hgz : am_i h 9 1 = nI 0 := by rw [hM.2.1, hg]; rfl
      have e : zI (hp false F lf AL mr 1 pre) = nI AL - nI (al F pre).length + nI 0 := by
        show zI ((AL : Int) - ((al F pre).length : Int) + 0) = _
        rw [← zI_add, ← zI_sub, zI_n (by omega), zI_n (by omega), zI_0]
      rw [e]
      refine q_iln dX0_hope_0 rfl ?_
      refine t_if_ne 29 dX0_hope_1 rfl (by exact zf1) ?_
      refine q_iln dX0_hope_29 rfl ?_
      refine q_ic (v := nI 1) dX0_hope_30 rfl ?_
      refine f_ic_ne dX0_hope_31 (tgt := 58) rfl (by rfl) ?_
      refine q_aln dX0_hope_34 rfl ?_
      refine q_getI dX0_hope_35 fl_X0_102 (ws_20 hW) rfl (by first | exact hgz | exact hPa) ?_
      refine q_il dX0_hope_38 rfl ?_
      refine am_x_pu dX0_hope_40 rfl ?_
      refine q_aln dX0_hope_41 rfl ?_
      refine q_getR dX0_hope_42 fl_X0_9 (ws_20 hW) rfl (wp_20_0 hW) ?_
      refine q_getI dX0_hope_45 fl_X0_59 (ws_9 hW) rfl (by first | exact hgz | exact hPa) ?_
      refine t_if_eq 55 dX0_hope_48 rfl (by rfl) ?_
      refine q_ic (v := nI 0) dX0_hope_55 rfl ?_
      refine am_x_pu dX0_hope_56 rfl ?_
      refine q_ir dX0_hope_57 rfl ?_
      rfl
  · have hb0 := hU.2 0 (by omega)
    have hb1 : b &&& 1 = if b.testBit 0 = true then 1 else 0 := by have := bit_and b 0; rw [Nat.pow_zero, Nat.div_one] at this; exact this
    cases hg : g with
    | true =>
      have hgo : am_i h 9 1 = nI 1 := by rw [hM.2.1, hg]; rfl
      have e : hp true F lf AL mr 2 pre = (mr : Int) := by
        unfold hp
        rw [if_neg (by decide), if_neg (by decide), if_neg (fun z => by have := z.1; cases this)]
      rw [e, zI_n (by omega)]
      refine q_iln dX0_hope_0 rfl ?_
      refine t_if_ne 29 dX0_hope_1 rfl (by decide +kernel) ?_
      refine q_iln dX0_hope_29 rfl ?_
      refine q_ic (v := nI 1) dX0_hope_30 rfl ?_
      refine t_ic_ne 58 dX0_hope_31 rfl (by decide +kernel) ?_
      refine q_aln dX0_hope_58 rfl ?_
      refine q_getR dX0_hope_59 fl_X0_9 (ws_20 hW) rfl (wp_20_0 hW) ?_
      refine q_getI dX0_hope_62 fl_X0_59 (ws_9 hW) rfl (by first | exact hgo | exact hPm) ?_
      refine t_if_ne 78 dX0_hope_65 rfl (by exact zf1) ?_
      refine q_aln dX0_hope_78 rfl ?_
      refine q_getI dX0_hope_79 fl_X0_108 (ws_20 hW) rfl (by first | exact hgo | exact hPm) ?_
      refine q_ir dX0_hope_82 rfl ?_
      rfl
    | false =>
      have hgz : am_i h 9 1 = nI 0 := by rw [hM.2.1, hg]; rfl
      by_cases h0 : 0 ∈ pre
      · have e : hp false F lf AL mr 2 pre = 0 := by
          unfold hp
          rw [if_neg (by decide), if_neg (by decide), if_pos ⟨rfl, h0⟩]
        rw [e, zI_0]
        have hbt : b &&& 1 = 1 := by rw [hb1, hb0]; simp [h0]
        refine q_iln dX0_hope_0 rfl ?_
        refine t_if_ne 29 dX0_hope_1 rfl (by decide +kernel) ?_
        refine q_iln dX0_hope_29 rfl ?_
        refine q_ic (v := nI 1) dX0_hope_30 rfl ?_
        refine t_ic_ne 58 dX0_hope_31 rfl (by decide +kernel) ?_
        refine q_aln dX0_hope_58 rfl ?_
        refine q_getR dX0_hope_59 fl_X0_9 (ws_20 hW) rfl (wp_20_0 hW) ?_
        refine q_getI dX0_hope_62 fl_X0_59 (ws_9 hW) rfl hgz ?_
        refine f_if_ne dX0_hope_65 (tgt := 78) rfl (by rfl) ?_
        refine q_iln dX0_hope_68 rfl ?_
        refine q_ic (v := nI 1) dX0_hope_69 rfl ?_
        first | refine q_and dX0_hope_70 ?_ | refine am_x_pu dX0_hope_70 rfl ?_
        refine f_if_eq dX0_hope_71 (tgt := 78) rfl (by rw [hbt]; exact zf1) ?_
        refine q_ic (v := nI 0) dX0_hope_74 rfl ?_
        refine am_x_goto (tgt := 82) dX0_hope_75 rfl ?_
        refine q_ir dX0_hope_82 rfl ?_
        rfl
      · have e : hp false F lf AL mr 2 pre = (mr : Int) := by
          unfold hp
          rw [if_neg (by decide), if_neg (by decide), if_neg (fun z => h0 z.2)]
        rw [e, zI_n (by omega)]
        have hbt : b &&& 1 = 0 := by rw [hb1, hb0]; simp [h0]
        refine q_iln dX0_hope_0 rfl ?_
        refine t_if_ne 29 dX0_hope_1 rfl (by decide +kernel) ?_
        refine q_iln dX0_hope_29 rfl ?_
        refine q_ic (v := nI 1) dX0_hope_30 rfl ?_
        refine t_ic_ne 58 dX0_hope_31 rfl (by decide +kernel) ?_
        refine q_aln dX0_hope_58 rfl ?_
        refine q_getR dX0_hope_59 fl_X0_9 (ws_20 hW) rfl (wp_20_0 hW) ?_
        refine q_getI dX0_hope_62 fl_X0_59 (ws_9 hW) rfl (by first | exact hgz | exact hPm) ?_
        refine f_if_ne dX0_hope_65 (tgt := 78) rfl (by rfl) ?_
        refine q_iln dX0_hope_68 rfl ?_
        refine q_ic (v := nI 1) dX0_hope_69 rfl ?_
        first | refine q_and dX0_hope_70 ?_ | refine am_x_pu dX0_hope_70 rfl ?_
        refine t_if_eq 78 dX0_hope_71 rfl (by rw [hbt]; rfl) ?_
        refine q_aln dX0_hope_78 rfl ?_
        refine q_getI dX0_hope_79 fl_X0_108 (ws_20 hW) rfl (by first | exact hgz | exact hPm) ?_
        refine q_ir dX0_hope_82 rfl ?_
        rfl
set_option maxHeartbeats 2000000 in
theorem c_judge_lp {n : Nat} (h7 : n ≤ 7) {l : List Nat} (hl : l.length = n) (hp : ∀ x ∈ l, x < n) {v : Int} {h0 : am_H} : ∀ q j h, j + q = n → Wd h → am_i h 9 0 = nI n → OR' h l → Fx [] [(20, 9), (20, 10), (20, 11)] h0 h → am_i h 20 9 = nI 1 → am_i h 20 10 = zI v → am_i h 20 11 = nI (dg (sl l) j) → ∀ l1, am_E 0 m_X0_judge 33 [some (.ref 20), some (.int l1), some (.int (nI j))] [] h (fun w h2 => w = none ∧ Fx [] [(20, 9), (20, 10), (20, 11)] h0 h2 ∧ am_i h2 20 9 = nI 1 ∧ am_i h2 20 10 = zI v ∧ am_i h2 20 11 = nI (dgl n l)) := by
  intro q
  induction q with
  | zero =>
    intro j h hj hW hn hO hf h9 h10 h11 l1
    have hjn : j = n := by omega
    subst hjn
    refine Eq_iln dX0_judge_33 rfl ?_
    refine Eq_aln dX0_judge_34 rfl ?_
    refine Eq_getR dX0_judge_35 fl_X0_9 (ws_20 hW) rfl (wp_20_0 hW) ?_
    refine Eq_getI dX0_judge_38 fl_X0_53 (ws_9 hW) rfl hn ?_
    refine Et_ic_ge 74 dX0_judge_41 rfl (by exact nI_le (by omega) (by omega)) ?_
    refine Eq_vr dX0_judge_74 rfl ?_
    exact ⟨rfl, hf, h9, h10, h11⟩
  | succ q ih =>
    intro j h hj hW hn hO hf h9 h10 h11 l1
    have ho := hO.2 j (by omega)
    have k1 : Fx [] [(20, 9), (20, 10), (20, 11)] h (am_wI h 20 11 (nI (dg (sl l) j * 10 + sl l j))) := Fx.wI (Or.inr (by decide))
    refine Eq_iln dX0_judge_33 rfl ?_
    refine Eq_aln dX0_judge_34 rfl ?_
    refine Eq_getR dX0_judge_35 fl_X0_9 (ws_20 hW) rfl (wp_20_0 hW) ?_
    refine Eq_getI dX0_judge_38 fl_X0_53 (ws_9 hW) rfl (by first | exact hn | exact h11) ?_
    refine Ef_ic_ge dX0_judge_41 (tgt := 74) rfl (by exact nI_ge (by omega) (by omega)) ?_
    refine Eq_iln dX0_judge_44 rfl ?_
    refine Eq_bp (v := nI 7) dX0_judge_45 rfl ?_
    refine Ef_ic_ge dX0_judge_47 (tgt := 74) rfl (by exact nI_ge (by omega) (by omega)) ?_
    refine Eq_aln dX0_judge_50 rfl ?_
    refine Eq_aln dX0_judge_51 rfl ?_
    refine Eq_getI dX0_judge_52 fl_X0_118 (ws_20 hW) rfl (by first | exact hn | exact h11) ?_
    refine Eq_bp (v := nI 10) dX0_judge_55 rfl ?_
    first | refine Eq_mul dX0_judge_57 ?_ | refine Eam_x_pu dX0_judge_57 rfl ?_
    refine Eq_aln dX0_judge_58 rfl ?_
    refine Eq_getR dX0_judge_59 fl_X0_34 (ws_20 hW) rfl (wp_20_5 hW) ?_
    refine Eq_iln dX0_judge_62 rfl ?_
    refine Eq_ald dX0_judge_63 (ws_24 hW) (by omega) (by omega) ho ?_
    first | refine Eq_add dX0_judge_64 ?_ | refine Eam_x_pu dX0_judge_64 rfl ?_
    refine Eam_x_putI dX0_judge_65 (fw_X0_118 rfl) (ws_20 hW) (Or.inl rfl) ?_
    refine Eq_inc dX0_judge_68 rfl (by decide) ?_
    refine Eam_nl (pc' := 71) (l' := [_, _, _]) rfl rfl ?_
    refine Eam_x_goto (tgt := 33) dX0_judge_71 rfl ?_
    exact ih (j + 1) _ (by omega) (k1.Wd hW) hn (hO.fx k1 (by decide) (by decide)) (hf.tr k1) h9 h10 wI_e0 l1
set_option maxHeartbeats 2000000 in
theorem c_judge {h : am_H} {n : Nat} {g : Bool} {F : Nat → Nat → Nat} (hW : Wd h) (hM : MB h n g F) {l : List Nat} (hl : l.length = n) (hpl : ∀ x ∈ l, x < n) (hO : OR' h l) {st : Option (Int × List Nat)} (hB : BSt h n st) {vv : List Nat → Int} (hv1 : -100000000 ≤ vv l) (hv2 : vv l ≤ 100000000) : am_D 0 m_X0_judge [.ref 20, .int (zI (vv l))] h (fun w h2 => w = none ∧ Fx [] [(20, 9), (20, 10), (20, 11)] h h2 ∧ BSt h2 n (jd vv st l)) := by
  have h7 := hM.2.2.1
  have k3 : Fx [] [(20, 9), (20, 10), (20, 11)] h (am_wI (am_wI (am_wI h 20 9 (nI 1)) 20 10 (zI (vv l))) 20 11 (nI 0)) := (Fx.wI (Or.inr (by decide))).tr ((Fx.wI (Or.inr (by decide))).tr (Fx.wI (Or.inr (by decide))))
  obtain ⟨v9, h9, y1, y2, y3, y4, y5, y6⟩ := c_judge_lp h7 hl hpl (v := vv l) (h0 := h) n 0 _ (by omega) (k3.Wd hW) hM.1 (hO.fx k3 (by decide) (by decide)) k3 (by rw [wI_o (by decide), wI_o (by decide), wI_e0]) (by rw [wI_o (by decide), wI_e0]) wI_e0 (zI (vv l))
  cases st with
  | none =>
    have hfo : am_i h 20 9 = nI 0 := hB
    rw [jd_n]
    refine ⟨v9, h9, ?_, y2, y3, y4, y5, y6, hv1, hv2⟩
    refine q_aln dX0_judge_0 rfl ?_
    refine q_getI dX0_judge_1 fl_X0_111 (ws_20 hW) rfl hfo ?_
    refine t_if_eq 16 dX0_judge_4 rfl (by rfl) ?_
    refine q_aln dX0_judge_16 rfl ?_
    refine q_ic (v := nI 1) dX0_judge_17 rfl ?_
    refine am_x_putI dX0_judge_18 (fw_X0_111 rfl) (ws_20 hW) (Or.inr ⟨rfl, by first | exact Or.inl rfl | exact Or.inr rfl | assumption⟩) ?_
    refine q_aln dX0_judge_21 rfl ?_
    refine q_iln dX0_judge_22 rfl ?_
    refine am_x_putI dX0_judge_23 (fw_X0_121 rfl) (ws_20 hW) (Or.inl rfl) ?_
    refine q_aln dX0_judge_26 rfl ?_
    refine q_ic (v := nI 0) dX0_judge_27 rfl ?_
    refine am_x_putI dX0_judge_28 (fw_X0_118 rfl) (ws_20 hW) (Or.inl rfl) ?_
    refine q_ic (v := nI 0) dX0_judge_31 rfl ?_
    refine q_isn dX0_judge_32 (by decide) ?_
    refine am_nl (pc' := 33) (l' := [_, _, _]) rfl rfl ?_
    exact y1
  | some b =>
    obtain ⟨hfo, hbs, hbd, hb1, hb2⟩ := id hB
    by_cases hlt : b.1 < vv l
    · rw [jd_y hlt]
      refine ⟨v9, h9, ?_, y2, y3, y4, y5, y6, hv1, hv2⟩
      refine q_aln dX0_judge_0 rfl ?_
      refine q_getI dX0_judge_1 fl_X0_111 (ws_20 hW) rfl (by first | exact hfo | exact hbs) ?_
      refine f_if_eq dX0_judge_4 (tgt := 16) rfl (by exact zf1) ?_
      refine q_iln dX0_judge_7 rfl ?_
      refine q_aln dX0_judge_8 rfl ?_
      refine q_getI dX0_judge_9 fl_X0_121 (ws_20 hW) rfl (by first | exact hfo | exact hbs) ?_
      refine t_ic_gt 16 dX0_judge_12 rfl (by exact (zI_lt (by omega) (by omega) (by omega) (by omega)).mpr hlt) ?_
      refine q_aln dX0_judge_16 rfl ?_
      refine q_ic (v := nI 1) dX0_judge_17 rfl ?_
      refine am_x_putI dX0_judge_18 (fw_X0_111 rfl) (ws_20 hW) (Or.inr ⟨rfl, by first | exact Or.inl rfl | exact Or.inr rfl | assumption⟩) ?_
      refine q_aln dX0_judge_21 rfl ?_
      refine q_iln dX0_judge_22 rfl ?_
      refine am_x_putI dX0_judge_23 (fw_X0_121 rfl) (ws_20 hW) (Or.inl rfl) ?_
      refine q_aln dX0_judge_26 rfl ?_
      refine q_ic (v := nI 0) dX0_judge_27 rfl ?_
      refine am_x_putI dX0_judge_28 (fw_X0_118 rfl) (ws_20 hW) (Or.inl rfl) ?_
      refine q_ic (v := nI 0) dX0_judge_31 rfl ?_
      refine q_isn dX0_judge_32 (by decide) ?_
      refine am_nl (pc' := 33) (l' := [_, _, _]) rfl rfl ?_
      exact y1
    · rw [jd_o hlt]
      refine Eq_aln dX0_judge_0 rfl ?_
      refine Eq_getI dX0_judge_1 fl_X0_111 (ws_20 hW) rfl (by first | exact hfo | exact hbs) ?_
      refine Ef_if_eq dX0_judge_4 (tgt := 16) rfl (by exact zf1) ?_
      refine Eq_iln dX0_judge_7 rfl ?_
      refine Eq_aln dX0_judge_8 rfl ?_
      refine Eq_getI dX0_judge_9 fl_X0_121 (ws_20 hW) rfl (by first | exact hfo | exact hbs) ?_
      refine Ef_ic_gt dX0_judge_12 (tgt := 16) rfl (by exact fun z => hlt ((zI_lt (by omega) (by omega) (by omega) (by omega)).mp z)) ?_
      refine Eq_vr dX0_judge_15 rfl ?_
      exact ⟨rfl, Fx.rf, hB⟩
