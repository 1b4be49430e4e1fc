/-! the class's changes: the least good one, whether there is an order -/
def LGi (n : Nat) (g : Bool) (F : Nat → Nat → Nat) (R : List (List Nat)) (f j : Nat) (st : Option Nat) : Prop := match st with
  | none => ∀ i, f ≤ i → i < j → ¬ good n g F (R.getD i [])
  | some t => (∃ i, f ≤ i ∧ i < j ∧ good n g F (R.getD i []) ∧ dgl n (R.getD i []) = t) ∧ ∀ i, f ≤ i → i < j → good n g F (R.getD i []) → t ≤ dgl n (R.getD i [])
theorem LGi.bad {n : Nat} {g : Bool} {F : Nat → Nat → Nat} {R : List (List Nat)} {f j : Nat} {st : Option Nat} (m : LGi n g F R f j st) (h : ¬ good n g F (R.getD j [])) : LGi n g F R f (j + 1) st := by
  cases st with
  | none =>
    intro i h1 h2
    by_cases e : i = j
    · rw [e]; exact h
    · exact m i h1 (by omega)
  | some t =>
    obtain ⟨⟨i, a1, a2, a3, a4⟩, b⟩ := m
    refine ⟨⟨i, a1, by omega, a3, a4⟩, fun k h1 h2 h3 => ?_⟩
    by_cases e : k = j
    · rw [e] at h3; exact absurd h3 h
    · exact b k h1 (by omega) h3
theorem LGi.big {n : Nat} {g : Bool} {F : Nat → Nat → Nat} {R : List (List Nat)} {f j t : Nat} (m : LGi n g F R f j (some t)) (h : t ≤ dgl n (R.getD j [])) : LGi n g F R f (j + 1) (some t) := by
  obtain ⟨⟨i, a1, a2, a3, a4⟩, b⟩ := m
  refine ⟨⟨i, a1, by omega, a3, a4⟩, fun k h1 h2 h3 => ?_⟩
  by_cases e : k = j
  · rw [e]; exact h
  · exact b k h1 (by omega) h3
theorem LGi.new {n : Nat} {g : Bool} {F : Nat → Nat → Nat} {R : List (List Nat)} {f j : Nat} {st : Option Nat} (hf : f ≤ j) (m : LGi n g F R f j st) (hs : ∀ t, st = some t → dgl n (R.getD j []) < t) (h : good n g F (R.getD j [])) : LGi n g F R f (j + 1) (some (dgl n (R.getD j []))) := by
  refine ⟨⟨j, hf, by omega, h, rfl⟩, fun k h1 h2 h3 => ?_⟩
  by_cases e : k = j
  · rw [e]; exact Nat.le_refl _
  · cases st with
    | none => exact absurd h3 (m k h1 (by omega))
    | some t =>
      have := m.2 k h1 (by omega) h3
      have := hs t rfl
      omega
theorem getL_mem {R : List (List Nat)} {i : Nat} (h : i < R.length) : R.getD i [] ∈ R := by
  rw [List.getD_eq_getElem?_getD, List.getElem?_eq_getElem h]
  exact List.getElem_mem h
theorem CR.at {h : am_H} {n : Nat} {R : List (List Nat)} (m : CR h n R) {i : Nat} (hi : i < R.length) : PL n (R.getD i []) := m.2.2.2.2 _ (getL_mem hi)
set_option maxHeartbeats 2000000 in
theorem c_lg_lp {n : Nat} {g : Bool} {F : Nat → Nat → Nat} (h7 : n ≤ 7) {R : List (List Nat)} (hlen : R.length ≤ 5040) {f : Nat} {h0 : am_H} {l1 : Option Value} : ∀ q j st h, j + q = R.length → f ≤ j → LGi n g F R f j st → (∀ t, st = some t → t < 10000000) → Wd h → MB h n g F → am_i h 30 0 = nI n → CR h n R → Fx [31, 32] [] h0 h → am_E 3 m_X1_leastGood 9 [some (.ref 29), l1, some (.int (nI R.length)), some (.int (oN st)), some (.int (nI j))] [] h (fun v h2 => ∃ st, v = some (.int (oN st)) ∧ LGi n g F R f R.length st ∧ (∀ t, st = some t → t < 10000000) ∧ Fx [31, 32] [] h0 h2) := by
  intro q
  induction q with
  | zero =>
    intro j st h hj hfj hi hb hW hM hn hR hf
    have hjn : j = R.length := by omega
    subst hjn
    refine Eq_il dX1_leastGood_9 rfl ?_
    refine Eq_iln dX1_leastGood_11 rfl ?_
    refine Et_ic_ge 81 dX1_leastGood_12 rfl (by exact nI_le (by omega) (by omega)) ?_
    refine Eq_iln dX1_leastGood_81 rfl ?_
    refine Eq_ir dX1_leastGood_82 rfl ?_
    exact ⟨st, rfl, hi, hb, hf⟩
  | succ q ih =>
    intro j st h hj hfj hi hb hW hM hn hR hf
    have hl := hR.at (i := j) (by omega)
    have hd := dgl_lt h7 hl.2.1 hl.2.2
    have hv := hR.2.1 j (by omega)
    have htk := c_take30 hW hn h7 (v := dgl n (R.getD j [])) (by omega) hl.pm (fun s hs => dgs_dg (fun s hs => by have := (hl.pm.1 s hs).1; omega) hs)
    cases st with
    | none =>
      by_cases hgd : good n g F (R.getD j [])
      · have hga : alh n g F (sl (R.getD j [])) (fs (sl (R.getD j [])) n) = true := hgd
        refine Eq_il dX1_leastGood_9 rfl ?_
        refine Eq_iln dX1_leastGood_11 rfl ?_
        refine Ef_ic_ge dX1_leastGood_12 (tgt := 81) rfl (by exact nI_ge (by omega) (by omega)) ?_
        refine Eq_il dX1_leastGood_15 rfl ?_
        refine Eq_sp (v := nI 5040) dX1_leastGood_17 rfl ?_
        refine Ef_ic_ge dX1_leastGood_20 (tgt := 81) rfl (by exact nI_ge (b := 5040) (by omega) (by omega)) ?_
        refine Eq_iln dX1_leastGood_23 rfl ?_
        refine Eq_ic (v := -1) dX1_leastGood_24 rfl ?_
        refine Et_ic_eq 39 dX1_leastGood_25 rfl (by rfl) ?_
        refine Eq_aln dX1_leastGood_39 rfl ?_
        refine Eq_getR dX1_leastGood_40 fl_X1_22 (ws_29 hW) rfl (wp_29_2 hW) ?_
        refine Eq_aln dX1_leastGood_43 rfl ?_
        refine Eq_getR dX1_leastGood_44 fl_X1_34 (ws_29 hW) rfl (wp_29_4 hW) ?_
        refine Eq_il dX1_leastGood_47 rfl ?_
        refine Eq_ald dX1_leastGood_49 (ws_35 hW) (by omega) (by omega) (by first | exact hv | exact (congrFun (hf2.ia (by decide) (by decide)) _).trans hv) ?_
        refine Eq_W1 (N := m_X6_take) dX1_leastGood_50 lk_X1_105 mV_X6_take (htk) (by decide) (ws_30 hW) rfl (by decide) (Nat.le_of_ble_eq_true rfl) (Nat.le_of_ble_eq_true rfl) (fun vq hq1 hq2 => ?_)
        obtain ⟨rfl, hf2, hS2⟩ := hq2
        have hW2 := hf2.Wd hW
        have hM2 := hM.fx hf2 (by decide)
        refine Eq_aln dX1_leastGood_53 rfl ?_
        refine Eq_getR dX1_leastGood_54 fl_X1_30 (ws_29 hW2) rfl (wp_29_3 hW2) ?_
        refine Eq_V0 (N := m_X8_isAllHeard) dX1_leastGood_57 lk_X1_108 mV_X8_isAllHeard (c_isAllHeard hW2 hM2 hS2) (by decide) (ws_33 hW2) rfl (by decide) (Nat.le_of_ble_eq_true rfl) (Nat.le_of_ble_eq_true rfl) ?_
        refine Ef_if_eq dX1_leastGood_60 (tgt := 73) rfl (by rw [if_pos hga]; exact zf1) ?_
        refine Eq_aln dX1_leastGood_63 rfl ?_
        refine Eq_getR dX1_leastGood_64 fl_X1_34 (ws_29 hW2) rfl (wp_29_4 hW2) ?_
        refine Eq_il dX1_leastGood_67 rfl ?_
        refine Eq_ald dX1_leastGood_69 (ws_35 hW2) (by omega) (by omega) (by first | exact hv | exact (congrFun (hf2.ia (by decide) (by decide)) _).trans hv) ?_
        refine Eam_x_goto (tgt := 74) dX1_leastGood_70 rfl ?_
        refine Eq_isn dX1_leastGood_74 (by decide) ?_
        refine Eam_nl (pc' := 75) (l' := [_, _, _, _, _]) rfl rfl ?_
        refine Eq_inc dX1_leastGood_75 rfl (by decide) ?_
        refine Eam_nl (pc' := 78) (l' := [_, _, _, _, _]) rfl rfl ?_
        refine Eam_x_goto (tgt := 9) dX1_leastGood_78 rfl ?_
        exact ih (j + 1) (some (dgl n (R.getD j []))) _ (by omega) (by omega) (LGi.new hfj hi (fun t e => nomatch e) hgd) (fun t e => by cases e; exact hd) (hf2.Wd hW) (hM.fx hf2 (by decide)) ((hf2.i (by decide) (by decide)).trans hn) (hR.fx hf2 (by decide)) (hf.tr hf2)
      · have hga : ¬ alh n g F (sl (R.getD j [])) (fs (sl (R.getD j [])) n) = true := hgd
        refine Eq_il dX1_leastGood_9 rfl ?_
        refine Eq_iln dX1_leastGood_11 rfl ?_
        refine Ef_ic_ge dX1_leastGood_12 (tgt := 81) rfl (by exact nI_ge (by omega) (by omega)) ?_
        refine Eq_il dX1_leastGood_15 rfl ?_
        refine Eq_sp (v := nI 5040) dX1_leastGood_17 rfl ?_
        refine Ef_ic_ge dX1_leastGood_20 (tgt := 81) rfl (by exact nI_ge (b := 5040) (by omega) (by omega)) ?_
        refine Eq_iln dX1_leastGood_23 rfl ?_
        refine Eq_ic (v := -1) dX1_leastGood_24 rfl ?_
        refine Et_ic_eq 39 dX1_leastGood_25 rfl (by rfl) ?_
        refine Eq_aln dX1_leastGood_39 rfl ?_
        refine Eq_getR dX1_leastGood_40 fl_X1_22 (ws_29 hW) rfl (wp_29_2 hW) ?_
        refine Eq_aln dX1_leastGood_43 rfl ?_
        refine Eq_getR dX1_leastGood_44 fl_X1_34 (ws_29 hW) rfl (wp_29_4 hW) ?_
        refine Eq_il dX1_leastGood_47 rfl ?_
        refine Eq_ald dX1_leastGood_49 (ws_35 hW) (by omega) (by omega) (by first | exact hv | exact (congrFun (hf2.ia (by decide) (by decide)) _).trans hv) ?_
        refine Eq_W1 (N := m_X6_take) dX1_leastGood_50 lk_X1_105 mV_X6_take (htk) (by decide) (ws_30 hW) rfl (by decide) (Nat.le_of_ble_eq_true rfl) (Nat.le_of_ble_eq_true rfl) (fun vq hq1 hq2 => ?_)
        obtain ⟨rfl, hf2, hS2⟩ := hq2
        have hW2 := hf2.Wd hW
        have hM2 := hM.fx hf2 (by decide)
        refine Eq_aln dX1_leastGood_53 rfl ?_
        refine Eq_getR dX1_leastGood_54 fl_X1_30 (ws_29 hW2) rfl (wp_29_3 hW2) ?_
        refine Eq_V0 (N := m_X8_isAllHeard) dX1_leastGood_57 lk_X1_108 mV_X8_isAllHeard (c_isAllHeard hW2 hM2 hS2) (by decide) (ws_33 hW2) rfl (by decide) (Nat.le_of_ble_eq_true rfl) (Nat.le_of_ble_eq_true rfl) ?_
        refine Et_if_eq 73 dX1_leastGood_60 rfl (by rw [if_neg hga]; rfl) ?_
        refine Eq_iln dX1_leastGood_73 rfl ?_
        refine Eq_isn dX1_leastGood_74 (by decide) ?_
        refine Eam_nl (pc' := 75) (l' := [_, _, _, _, _]) rfl rfl ?_
        refine Eq_inc dX1_leastGood_75 rfl (by decide) ?_
        refine Eam_nl (pc' := 78) (l' := [_, _, _, _, _]) rfl rfl ?_
        refine Eam_x_goto (tgt := 9) dX1_leastGood_78 rfl ?_
        exact ih (j + 1) none _ (by omega) (by omega) (hi.bad hgd) hb (hf2.Wd hW) (hM.fx hf2 (by decide)) ((hf2.i (by decide) (by decide)).trans hn) (hR.fx hf2 (by decide)) (hf.tr hf2)
    | some t =>
      have hbt := hb t rfl
      by_cases hlt : dgl n (R.getD j []) < t
      · by_cases hgd : good n g F (R.getD j [])
        · have hga : alh n g F (sl (R.getD j [])) (fs (sl (R.getD j [])) n) = true := hgd
          refine Eq_il dX1_leastGood_9 rfl ?_
          refine Eq_iln dX1_leastGood_11 rfl ?_
          refine Ef_ic_ge dX1_leastGood_12 (tgt := 81) rfl (by exact nI_ge (by omega) (by omega)) ?_
          refine Eq_il dX1_leastGood_15 rfl ?_
          refine Eq_sp (v := nI 5040) dX1_leastGood_17 rfl ?_
          refine Ef_ic_ge dX1_leastGood_20 (tgt := 81) rfl (by exact nI_ge (b := 5040) (by omega) (by omega)) ?_
          refine Eq_iln dX1_leastGood_23 rfl ?_
          refine Eq_ic (v := -1) dX1_leastGood_24 rfl ?_
          refine Ef_ic_eq dX1_leastGood_25 (tgt := 39) rfl (by exact nI_m1 (by omega)) ?_
          refine Eq_aln dX1_leastGood_28 rfl ?_
          refine Eq_getR dX1_leastGood_29 fl_X1_34 (ws_29 hW) rfl (wp_29_4 hW) ?_
          refine Eq_il dX1_leastGood_32 rfl ?_
          refine Eq_ald dX1_leastGood_34 (ws_35 hW) (by omega) (by omega) (by first | exact hv | exact (congrFun (hf2.ia (by decide) (by decide)) _).trans hv) ?_
          refine Eq_iln dX1_leastGood_35 rfl ?_
          refine Ef_ic_ge dX1_leastGood_36 (tgt := 75) rfl (by exact nI_ge (by omega) (by omega)) ?_
          refine Eq_aln dX1_leastGood_39 rfl ?_
          refine Eq_getR dX1_leastGood_40 fl_X1_22 (ws_29 hW) rfl (wp_29_2 hW) ?_
          refine Eq_aln dX1_leastGood_43 rfl ?_
          refine Eq_getR dX1_leastGood_44 fl_X1_34 (ws_29 hW) rfl (wp_29_4 hW) ?_
          refine Eq_il dX1_leastGood_47 rfl ?_
          refine Eq_ald dX1_leastGood_49 (ws_35 hW) (by omega) (by omega) (by first | exact hv | exact (congrFun (hf2.ia (by decide) (by decide)) _).trans hv) ?_
          refine Eq_W1 (N := m_X6_take) dX1_leastGood_50 lk_X1_105 mV_X6_take (htk) (by decide) (ws_30 hW) rfl (by decide) (Nat.le_of_ble_eq_true rfl) (Nat.le_of_ble_eq_true rfl) (fun vq hq1 hq2 => ?_)
          obtain ⟨rfl, hf2, hS2⟩ := hq2
          have hW2 := hf2.Wd hW
          have hM2 := hM.fx hf2 (by decide)
          refine Eq_aln dX1_leastGood_53 rfl ?_
          refine Eq_getR dX1_leastGood_54 fl_X1_30 (ws_29 hW2) rfl (wp_29_3 hW2) ?_
          refine Eq_V0 (N := m_X8_isAllHeard) dX1_leastGood_57 lk_X1_108 mV_X8_isAllHeard (c_isAllHeard hW2 hM2 hS2) (by decide) (ws_33 hW2) rfl (by decide) (Nat.le_of_ble_eq_true rfl) (Nat.le_of_ble_eq_true rfl) ?_
          refine Ef_if_eq dX1_leastGood_60 (tgt := 73) rfl (by rw [if_pos hga]; exact zf1) ?_
          refine Eq_aln dX1_leastGood_63 rfl ?_
          refine Eq_getR dX1_leastGood_64 fl_X1_34 (ws_29 hW2) rfl (wp_29_4 hW2) ?_
          refine Eq_il dX1_leastGood_67 rfl ?_
          refine Eq_ald dX1_leastGood_69 (ws_35 hW2) (by omega) (by omega) (by first | exact hv | exact (congrFun (hf2.ia (by decide) (by decide)) _).trans hv) ?_
          refine Eam_x_goto (tgt := 74) dX1_leastGood_70 rfl ?_
          refine Eq_isn dX1_leastGood_74 (by decide) ?_
          refine Eam_nl (pc' := 75) (l' := [_, _, _, _, _]) rfl rfl ?_
          refine Eq_inc dX1_leastGood_75 rfl (by decide) ?_
          refine Eam_nl (pc' := 78) (l' := [_, _, _, _, _]) rfl rfl ?_
          refine Eam_x_goto (tgt := 9) dX1_leastGood_78 rfl ?_
          exact ih (j + 1) (some (dgl n (R.getD j []))) _ (by omega) (by omega) (LGi.new hfj hi (fun t2 e => by cases e; exact hlt) hgd) (fun t e => by cases e; exact hd) (hf2.Wd hW) (hM.fx hf2 (by decide)) ((hf2.i (by decide) (by decide)).trans hn) (hR.fx hf2 (by decide)) (hf.tr hf2)
        · have hga : ¬ alh n g F (sl (R.getD j [])) (fs (sl (R.getD j [])) n) = true := hgd
          refine Eq_il dX1_leastGood_9 rfl ?_
          refine Eq_iln dX1_leastGood_11 rfl ?_
          refine Ef_ic_ge dX1_leastGood_12 (tgt := 81) rfl (by exact nI_ge (by omega) (by omega)) ?_
          refine Eq_il dX1_leastGood_15 rfl ?_
          refine Eq_sp (v := nI 5040) dX1_leastGood_17 rfl ?_
          refine Ef_ic_ge dX1_leastGood_20 (tgt := 81) rfl (by exact nI_ge (b := 5040) (by omega) (by omega)) ?_
          refine Eq_iln dX1_leastGood_23 rfl ?_
          refine Eq_ic (v := -1) dX1_leastGood_24 rfl ?_
          refine Ef_ic_eq dX1_leastGood_25 (tgt := 39) rfl (by exact nI_m1 (by omega)) ?_
          refine Eq_aln dX1_leastGood_28 rfl ?_
          refine Eq_getR dX1_leastGood_29 fl_X1_34 (ws_29 hW) rfl (wp_29_4 hW) ?_
          refine Eq_il dX1_leastGood_32 rfl ?_
          refine Eq_ald dX1_leastGood_34 (ws_35 hW) (by omega) (by omega) (by first | exact hv | exact (congrFun (hf2.ia (by decide) (by decide)) _).trans hv) ?_
          refine Eq_iln dX1_leastGood_35 rfl ?_
          refine Ef_ic_ge dX1_leastGood_36 (tgt := 75) rfl (by exact nI_ge (by omega) (by omega)) ?_
          refine Eq_aln dX1_leastGood_39 rfl ?_
          refine Eq_getR dX1_leastGood_40 fl_X1_22 (ws_29 hW) rfl (wp_29_2 hW) ?_
          refine Eq_aln dX1_leastGood_43 rfl ?_
          refine Eq_getR dX1_leastGood_44 fl_X1_34 (ws_29 hW) rfl (wp_29_4 hW) ?_
          refine Eq_il dX1_leastGood_47 rfl ?_
          refine Eq_ald dX1_leastGood_49 (ws_35 hW) (by omega) (by omega) (by first | exact hv | exact (congrFun (hf2.ia (by decide) (by decide)) _).trans hv) ?_
          refine Eq_W1 (N := m_X6_take) dX1_leastGood_50 lk_X1_105 mV_X6_take (htk) (by decide) (ws_30 hW) rfl (by decide) (Nat.le_of_ble_eq_true rfl) (Nat.le_of_ble_eq_true rfl) (fun vq hq1 hq2 => ?_)
          obtain ⟨rfl, hf2, hS2⟩ := hq2
          have hW2 := hf2.Wd hW
          have hM2 := hM.fx hf2 (by decide)
          refine Eq_aln dX1_leastGood_53 rfl ?_
          refine Eq_getR dX1_leastGood_54 fl_X1_30 (ws_29 hW2) rfl (wp_29_3 hW2) ?_
          refine Eq_V0 (N := m_X8_isAllHeard) dX1_leastGood_57 lk_X1_108 mV_X8_isAllHeard (c_isAllHeard hW2 hM2 hS2) (by decide) (ws_33 hW2) rfl (by decide) (Nat.le_of_ble_eq_true rfl) (Nat.le_of_ble_eq_true rfl) ?_
          refine Et_if_eq 73 dX1_leastGood_60 rfl (by rw [if_neg hga]; rfl) ?_
          refine Eq_iln dX1_leastGood_73 rfl ?_
          refine Eq_isn dX1_leastGood_74 (by decide) ?_
          refine Eam_nl (pc' := 75) (l' := [_, _, _, _, _]) rfl rfl ?_
          refine Eq_inc dX1_leastGood_75 rfl (by decide) ?_
          refine Eam_nl (pc' := 78) (l' := [_, _, _, _, _]) rfl rfl ?_
          refine Eam_x_goto (tgt := 9) dX1_leastGood_78 rfl ?_
          exact ih (j + 1) (some t) _ (by omega) (by omega) (hi.bad hgd) hb (hf2.Wd hW) (hM.fx hf2 (by decide)) ((hf2.i (by decide) (by decide)).trans hn) (hR.fx hf2 (by decide)) (hf.tr hf2)
      · refine Eq_il dX1_leastGood_9 rfl ?_
        refine Eq_iln dX1_leastGood_11 rfl ?_
        refine Ef_ic_ge dX1_leastGood_12 (tgt := 81) rfl (by exact nI_ge (by omega) (by omega)) ?_
        refine Eq_il dX1_leastGood_15 rfl ?_
        refine Eq_sp (v := nI 5040) dX1_leastGood_17 rfl ?_
        refine Ef_ic_ge dX1_leastGood_20 (tgt := 81) rfl (by exact nI_ge (b := 5040) (by omega) (by omega)) ?_
        refine Eq_iln dX1_leastGood_23 rfl ?_
        refine Eq_ic (v := -1) dX1_leastGood_24 rfl ?_
        refine Ef_ic_eq dX1_leastGood_25 (tgt := 39) rfl (by exact nI_m1 (by omega)) ?_
        refine Eq_aln dX1_leastGood_28 rfl ?_
        refine Eq_getR dX1_leastGood_29 fl_X1_34 (ws_29 hW) rfl (wp_29_4 hW) ?_
        refine Eq_il dX1_leastGood_32 rfl ?_
        refine Eq_ald dX1_leastGood_34 (ws_35 hW) (by omega) (by omega) hv ?_
        refine Eq_iln dX1_leastGood_35 rfl ?_
        refine Et_ic_ge 75 dX1_leastGood_36 rfl (by exact nI_le (by omega) (by omega)) ?_
        refine Eq_inc dX1_leastGood_75 rfl (by decide) ?_
        refine Eam_nl (pc' := 78) (l' := [_, _, _, _, _]) rfl rfl ?_
        refine Eam_x_goto (tgt := 9) dX1_leastGood_78 rfl ?_
        exact ih (j + 1) (some t) h (by omega) (by omega) (hi.big (by omega)) hb hW hM hn hR hf
set_option maxHeartbeats 2000000 in
theorem c_leastGood {h : am_H} {n : Nat} {g : Bool} {F : Nat → Nat → Nat} (hW : Wd h) (hM : MB h n g F) (hn : am_i h 30 0 = nI n) {R : List (List Nat)} (hR : CR h n R) {f : Nat} (hf : f ≤ R.length) : am_D 3 m_X1_leastGood [.ref 29, .int (nI f), .int (nI R.length)] h (fun v h2 => ∃ st, v = some (.int (oN st)) ∧ LGi n g F R f R.length st ∧ (∀ t, st = some t → t < 10000000) ∧ Fx [31, 32] [] h h2) := by
  have h7 := hM.2.2.1
  have hlen := nd_len h7 hR.2.2.2.1 hR.2.2.2.2
  have hmx : (if nI 0 < nI f then nI f else nI 0) = nI f := by
    by_cases e : 0 < f
    · rw [if_pos (nI_lt e (by omega))]
    · rw [if_neg (nI_nlt (by omega) (by omega)), show f = 0 by omega]
  refine Eq_ic (v := -1) dX1_leastGood_0 rfl ?_
  refine Eq_isn dX1_leastGood_1 (by decide) ?_
  refine Eam_nl (pc' := 2) (l' := [_, _, _, _, _]) rfl rfl ?_
  refine Eq_ic (v := nI 0) dX1_leastGood_2 rfl ?_
  refine Eq_iln dX1_leastGood_3 rfl ?_
  refine Eq_max dX1_leastGood_4 lk_X1_100 js_J9_max_7cf53 in_J9 jc_J9_max_7cf53 (by decide) (Nat.le_of_ble_eq_true rfl) ?_
  rw [hmx]
  refine Eq_is dX1_leastGood_7 (by decide) ?_
  refine Eam_nl (pc' := 9) (l' := [_, _, _, _, _]) rfl rfl ?_
  exact c_lg_lp h7 hlen (R.length - f) f none h (by omega) (Nat.le_refl _) (fun i a b => by omega) (fun t e => nomatch e) hW hM hn hR Fx.rf
/-! orders of the living -/
def exB (p : Nat → Bool) : Nat → Bool
  | 0 => false
  | k + 1 => exB p k || p k
theorem exB_iff {p : Nat → Bool} : ∀ {k : Nat}, exB p k = true ↔ ∃ i, i < k ∧ p i = true
  | 0 => by simp [exB]
  | k + 1 => by
    simp only [exB, Bool.or_eq_true]
    rw [exB_iff]
    constructor
    · rintro (⟨i, h1, h2⟩ | h)
      · exact ⟨i, by omega, h2⟩
      · exact ⟨k, by omega, h⟩
    · rintro ⟨i, h1, h2⟩
      by_cases e : i = k
      · rw [e] at h2; exact Or.inr h2
      · exact Or.inl ⟨i, by omega, h2⟩
def okl (F : Nat → Nat → Nat) (la : Option Nat) (m : Nat) : Bool := match la with
  | none => true
  | some q => decide (¬ swl F q m)
def cbo (n : Nat) (g : Bool) (F : Nat → Nat → Nat) : Nat → Nat → Option Nat → Option Nat → Bool
  | 0, _, f, la => !g || (decide (f ≠ la) && decide (¬ swl F (la.getD 0) (f.getD 0)))
  | k + 1, b, f, la => exB (fun m => b.testBit m && okl F la m && cbo n g F k (clr b m) (some (f.getD m)) (some m)) n
theorem popc0 {b : Nat} (hb : b < 128) (h : popc b = 0) : b = 0 := b_eq0 (fun i z => by
  by_cases hi : i < 7
  · have := popc_clr hi z; omega
  · rw [b_hi hb hi] at z; cases z)
set_option maxHeartbeats 2000000 in
theorem c_cbo {h : am_H} {n : Nat} {g : Bool} {F : Nat → Nat → Nat} (hW : Wd h) (hM : MB h n g F)  : ∀ k b f la, popc b = k → b < 128 → (∀ i, b.testBit i = true → i < n) → (∀ x, f = some x → x < n) → (∀ x, la = some x → x < n) → (b = 0 → f.isSome = true ∧ la.isSome = true) → am_C (k + 2) m_X1_canBeOrdered [.ref 29, .int (nI b), .int (oN f), .int (oN la)] h (some (.int (nI (if cbo n g F k b f la = true then 1 else 0))), h) := by
  have h7 := hM.2.2.1
  intro k
  induction k with
  | zero =>
    intro b f la hk hb8 hb hf hla h0
    have hb0 := popc0 hb8 hk
    subst hb0
    obtain ⟨f1, f2⟩ := h0 rfl
    obtain ⟨x, rfl⟩ := Option.isSome_iff_exists.mp f1
    obtain ⟨y, rfl⟩ := Option.isSome_iff_exists.mp f2
    have hx := hf x rfl
    have hy := hla y rfl
    cases hg : g with
    | false =>
      have hgz : am_i h 9 1 = nI 0 := by rw [hM.2.1, hg]; rfl
      rw [show cbo n false F 0 0 (some x) (some y) = true from rfl]
      refine q_iln dX1_canBeOrdered_0 rfl ?_
      refine f_if_ne dX1_canBeOrdered_1 (tgt := 37) rfl (by rfl) ?_
      refine q_aln dX1_canBeOrdered_4 rfl ?_
      refine q_getR dX1_canBeOrdered_5 fl_X1_9 (ws_29 hW) rfl (wp_29_0 hW) ?_
      refine q_getI dX1_canBeOrdered_8 fl_X1_69 (ws_9 hW) rfl hgz ?_
      refine t_if_eq 31 dX1_canBeOrdered_11 rfl (by rfl) ?_
      refine q_ic (v := nI 1) dX1_canBeOrdered_31 rfl ?_
      refine am_x_goto (tgt := 36) dX1_canBeOrdered_32 rfl ?_
      first | refine q_zrn dX1_canBeOrdered_36 rfl (by first | omega | exact b2_le) ?_ | refine q_zr dX1_canBeOrdered_36 rfl (by first | exact Or.inl rfl | exact Or.inr rfl | assumption) ?_
      rfl
    | true =>
      have hgo : am_i h 9 1 = nI 1 := by rw [hM.2.1, hg]; rfl
      by_cases e : x = y
      · have hc : ¬ cbo n true F 0 0 (some x) (some y) = true := by
          simp only [cbo, e, ne_eq, not_true, decide_false, Bool.false_and, Bool.not_true, Bool.or_self]
          exact Bool.false_ne_true
        rw [if_neg hc]
        refine q_iln dX1_canBeOrdered_0 rfl ?_
        refine f_if_ne dX1_canBeOrdered_1 (tgt := 37) rfl (by rfl) ?_
        refine q_aln dX1_canBeOrdered_4 rfl ?_
        refine q_getR dX1_canBeOrdered_5 fl_X1_9 (ws_29 hW) rfl (wp_29_0 hW) ?_
        refine q_getI dX1_canBeOrdered_8 fl_X1_69 (ws_9 hW) rfl hgo ?_
        refine f_if_eq dX1_canBeOrdered_11 (tgt := 31) rfl (by exact zf1) ?_
        refine q_iln dX1_canBeOrdered_14 rfl ?_
        refine q_iln dX1_canBeOrdered_15 rfl ?_
        refine t_ic_eq 35 dX1_canBeOrdered_16 rfl (by rw [e]) ?_
        refine q_ic (v := nI 0) dX1_canBeOrdered_35 rfl ?_
        first | refine q_zrn dX1_canBeOrdered_36 rfl (by first | omega | exact b2_le) ?_ | refine q_zr dX1_canBeOrdered_36 rfl (by first | exact Or.inl rfl | exact Or.inr rfl | assumption) ?_
        rfl
      · have hne : ¬ (some x = some y) := fun z => e (Option.some.inj z)
        by_cases hs : swl F y x
        · have hc : ¬ cbo n true F 0 0 (some x) (some y) = true := by
            simp only [cbo, Option.getD_some, hs, not_true, decide_false, Bool.and_false, Bool.not_true, Bool.or_self]
            exact Bool.false_ne_true
          rw [if_neg hc]
          refine q_iln dX1_canBeOrdered_0 rfl ?_
          refine f_if_ne dX1_canBeOrdered_1 (tgt := 37) rfl (by rfl) ?_
          refine q_aln dX1_canBeOrdered_4 rfl ?_
          refine q_getR dX1_canBeOrdered_5 fl_X1_9 (ws_29 hW) rfl (wp_29_0 hW) ?_
          refine q_getI dX1_canBeOrdered_8 fl_X1_69 (ws_9 hW) rfl hgo ?_
          refine f_if_eq dX1_canBeOrdered_11 (tgt := 31) rfl (by exact zf1) ?_
          refine q_iln dX1_canBeOrdered_14 rfl ?_
          refine q_iln dX1_canBeOrdered_15 rfl ?_
          refine f_ic_eq dX1_canBeOrdered_16 (tgt := 35) rfl (by exact fun z => e ((nI_eq (by omega) (by omega)).mp z)) ?_
          refine q_aln dX1_canBeOrdered_19 rfl ?_
          refine q_getR dX1_canBeOrdered_20 fl_X1_9 (ws_29 hW) rfl (wp_29_0 hW) ?_
          refine q_iln dX1_canBeOrdered_23 rfl ?_
          refine q_iln dX1_canBeOrdered_24 rfl ?_
          refine q_V2 (N := m_X5_swallows) dX1_canBeOrdered_25 lk_X1_72 mV_X5_swallows (c_swallows hW hM hy hx) (by omega) (ws_9 hW) rfl (by decide) (Nat.le_of_ble_eq_true rfl) (Nat.le_of_ble_eq_true rfl) ?_
          refine t_if_ne 35 dX1_canBeOrdered_28 rfl (by rw [if_pos hs]; exact zf1) ?_
          refine q_ic (v := nI 0) dX1_canBeOrdered_35 rfl ?_
          first | refine q_zrn dX1_canBeOrdered_36 rfl (by first | omega | exact b2_le) ?_ | refine q_zr dX1_canBeOrdered_36 rfl (by first | exact Or.inl rfl | exact Or.inr rfl | assumption) ?_
          rfl
        · have hc : cbo n true F 0 0 (some x) (some y) = true := by
            simp only [cbo, Option.getD_some, hs, ne_eq, hne, not_false_eq_true, decide_true, Bool.and_true, Bool.or_true]
          rw [if_pos hc]
          refine q_iln dX1_canBeOrdered_0 rfl ?_
          refine f_if_ne dX1_canBeOrdered_1 (tgt := 37) rfl (by rfl) ?_
          refine q_aln dX1_canBeOrdered_4 rfl ?_
          refine q_getR dX1_canBeOrdered_5 fl_X1_9 (ws_29 hW) rfl (wp_29_0 hW) ?_
          refine q_getI dX1_canBeOrdered_8 fl_X1_69 (ws_9 hW) rfl hgo ?_
          refine f_if_eq dX1_canBeOrdered_11 (tgt := 31) rfl (by exact zf1) ?_
          refine q_iln dX1_canBeOrdered_14 rfl ?_
          refine q_iln dX1_canBeOrdered_15 rfl ?_
          refine f_ic_eq dX1_canBeOrdered_16 (tgt := 35) rfl (by exact fun z => e ((nI_eq (by omega) (by omega)).mp z)) ?_
          refine q_aln dX1_canBeOrdered_19 rfl ?_
          refine q_getR dX1_canBeOrdered_20 fl_X1_9 (ws_29 hW) rfl (wp_29_0 hW) ?_
          refine q_iln dX1_canBeOrdered_23 rfl ?_
          refine q_iln dX1_canBeOrdered_24 rfl ?_
          refine q_V2 (N := m_X5_swallows) dX1_canBeOrdered_25 lk_X1_72 mV_X5_swallows (c_swallows hW hM hy hx) (by omega) (ws_9 hW) rfl (by decide) (Nat.le_of_ble_eq_true rfl) (Nat.le_of_ble_eq_true rfl) ?_
          refine f_if_ne dX1_canBeOrdered_28 (tgt := 35) rfl (by rw [if_neg hs]; rfl) ?_
          refine q_ic (v := nI 1) dX1_canBeOrdered_31 rfl ?_
          refine am_x_goto (tgt := 36) dX1_canBeOrdered_32 rfl ?_
          first | refine q_zrn dX1_canBeOrdered_36 rfl (by first | omega | exact b2_le) ?_ | refine q_zr dX1_canBeOrdered_36 rfl (by first | exact Or.inl rfl | exact Or.inr rfl | assumption) ?_
          rfl
  | succ k ih =>
    intro b f la hk hb8 hb hf hla h0
    have hbn : ¬ nI b = 0 := fun z => by
      have := (n_0 (by omega)).mp z
      subst this
      rw [show popc 0 = 0 from by decide +kernel] at hk
      omega
    have lp : ∀ q j, j + q = n → exB (fun m => b.testBit m && okl F la m && cbo n g F k (clr b m) (some (f.getD m)) (some m)) j = false → ∀ l5, am_Sem (k + 1 + 2) m_X1_canBeOrdered 40 [some (.ref 29), some (.int (nI b)), some (.int (oN f)), some (.int (oN la)), some (.int (nI j)), l5] [] h (some (.int (nI (if cbo n g F (k + 1) b f la = true then 1 else 0))), h) := by
      intro q
      induction q with
      | zero =>
        intro j hj hex l5
        have hjn : j = n := by omega
        subst hjn
        have hc : ¬ cbo j g F (k + 1) b f la = true := by
          simp only [cbo]
          rw [hex]
          exact Bool.false_ne_true
        rw [if_neg hc]
        refine q_il dX1_canBeOrdered_40 rfl ?_
        refine q_aln dX1_canBeOrdered_42 rfl ?_
        refine q_getR dX1_canBeOrdered_43 fl_X1_9 (ws_29 hW) rfl (wp_29_0 hW) ?_
        refine q_getI dX1_canBeOrdered_46 fl_X1_76 (ws_9 hW) rfl hM.1 ?_
        refine t_ic_ge 127 dX1_canBeOrdered_49 rfl (by exact nI_le (by omega) (by omega)) ?_
        refine q_ic (v := nI 0) dX1_canBeOrdered_127 rfl ?_
        first | refine q_zrn dX1_canBeOrdered_128 rfl (by first | omega | exact b2_le) ?_ | refine q_zr dX1_canBeOrdered_128 rfl (by first | exact Or.inl rfl | exact Or.inr rfl | assumption) ?_
        rfl
      | succ q iq =>
        intro j hj hex l5
        have hp1 : (fun m => b.testBit m && okl F la m && cbo n g F k (clr b m) (some (f.getD m)) (some m)) j = true → (if cbo n g F (k + 1) b f la = true then 1 else 0) = 1 := fun hp => by
          rw [if_pos]
          simp only [cbo]
          exact exB_iff.mpr ⟨j, by omega, hp⟩
        have hp0 : ¬ (fun m => b.testBit m && okl F la m && cbo n g F k (clr b m) (some (f.getD m)) (some m)) j = true → exB (fun m => b.testBit m && okl F la m && cbo n g F k (clr b m) (some (f.getD m)) (some m)) (j + 1) = false := fun hp => by
          simp only [exB]
          rw [hex, Bool.false_or]
          exact Bool.eq_false_iff.mpr hp
        by_cases hbt : b.testBit j = true
        · have hca := clr_and b hb8 j (by omega)
          have hcb : ∀ i, (clr b j).testBit i = true → i < n := fun i hi => by
            rw [clr_t (by omega)] at hi
            simp only [Bool.and_eq_true] at hi
            exact hb i hi.1.1
          cases la with
          | none =>
            cases f with
            | none =>
              have hrec := ih (clr b j) (some j) (some j) (by have := popc_clr (by omega) hbt; omega) clr_lt hcb (fun x e => by cases e; omega) (fun x e => by cases e; omega) (fun _ => ⟨rfl, rfl⟩)
              by_cases hc : cbo n g F k (clr b j) (some j) (some j) = true
              · have hp : (fun m => b.testBit m && okl F (none : Option Nat) m && cbo n g F k (clr b m) (some ((none : Option Nat).getD m)) (some m)) j = true := by simp only [okl, hbt, Option.getD_none, Option.getD_some, hc, Bool.and_true]
                rw [hp1 hp]
                refine q_il dX1_canBeOrdered_40 rfl ?_
                refine q_aln dX1_canBeOrdered_42 rfl ?_
                refine q_getR dX1_canBeOrdered_43 fl_X1_9 (ws_29 hW) rfl (wp_29_0 hW) ?_
                refine q_getI dX1_canBeOrdered_46 fl_X1_76 (ws_9 hW) rfl hM.1 ?_
                refine f_ic_ge dX1_canBeOrdered_49 (tgt := 127) rfl (by exact nI_ge (by omega) (by omega)) ?_
                refine q_iln dX1_canBeOrdered_52 rfl ?_
                refine q_il dX1_canBeOrdered_53 rfl ?_
                first | refine q_shr dX1_canBeOrdered_55 (by omega) (by omega) ?_ | refine am_x_pu dX1_canBeOrdered_55 rfl ?_
                refine q_ic (v := nI 1) dX1_canBeOrdered_56 rfl ?_
                first | refine q_and dX1_canBeOrdered_57 ?_ | refine am_x_pu dX1_canBeOrdered_57 rfl ?_
                refine f_if_eq dX1_canBeOrdered_58 (tgt := 83) rfl (by rw [bit_and, if_pos hbt]; exact zf1) ?_
                refine q_iln dX1_canBeOrdered_61 rfl ?_
                refine q_ic (v := -1) dX1_canBeOrdered_62 rfl ?_
                refine t_ic_eq 79 dX1_canBeOrdered_63 rfl (by rfl) ?_
                refine q_ic (v := nI 1) dX1_canBeOrdered_79 rfl ?_
                refine am_x_goto (tgt := 84) dX1_canBeOrdered_80 rfl ?_
                refine q_is dX1_canBeOrdered_84 (by decide) ?_
                refine am_nl (pc' := 86) (l' := [_, _, _, _, _, _]) rfl rfl ?_
                refine q_il dX1_canBeOrdered_86 rfl ?_
                refine f_if_eq dX1_canBeOrdered_88 (tgt := 121) rfl (by exact zf1) ?_
                refine q_aln dX1_canBeOrdered_91 rfl ?_
                refine q_iln dX1_canBeOrdered_92 rfl ?_
                refine q_ic (v := nI 1) dX1_canBeOrdered_93 rfl ?_
                refine q_il dX1_canBeOrdered_94 rfl ?_
                first | refine q_shl1 dX1_canBeOrdered_96 (by omega) ?_ | refine am_x_pu dX1_canBeOrdered_96 rfl ?_
                refine q_ic (v := -1) dX1_canBeOrdered_97 rfl ?_
                refine am_x_pu dX1_canBeOrdered_98 rfl ?_
                refine am_x_pu dX1_canBeOrdered_99 rfl ?_
                rw [hca]
                refine q_iln dX1_canBeOrdered_100 rfl ?_
                refine q_ic (v := -1) dX1_canBeOrdered_101 rfl ?_
                refine f_ic_ne dX1_canBeOrdered_102 (tgt := 110) rfl (by rfl) ?_
                refine q_il dX1_canBeOrdered_105 rfl ?_
                refine am_x_goto (tgt := 111) dX1_canBeOrdered_107 rfl ?_
                refine q_il dX1_canBeOrdered_111 rfl ?_
                refine q_V3 (N := m_X1_canBeOrdered) dX1_canBeOrdered_113 lk_X1_62 mV_X1_canBeOrdered (hrec) (by omega) (ws_29 hW) rfl (by decide) (Nat.le_of_ble_eq_true rfl) (Nat.le_of_ble_eq_true rfl) ?_
                refine f_if_eq dX1_canBeOrdered_116 (tgt := 121) rfl (by rw [if_pos hc]; exact zf1) ?_
                refine q_ic (v := nI 1) dX1_canBeOrdered_119 rfl ?_
                first | refine q_zrn dX1_canBeOrdered_120 rfl (by first | omega | exact b2_le) ?_ | refine q_zr dX1_canBeOrdered_120 rfl (by first | exact Or.inl rfl | exact Or.inr rfl | assumption) ?_
                rfl
              · have hp : ¬ (fun m => b.testBit m && okl F (none : Option Nat) m && cbo n g F k (clr b m) (some ((none : Option Nat).getD m)) (some m)) j = true := by simp only [Option.getD_none, Option.getD_some, hc, Bool.and_false]; exact Bool.false_ne_true
                refine q_il dX1_canBeOrdered_40 rfl ?_
                refine q_aln dX1_canBeOrdered_42 rfl ?_
                refine q_getR dX1_canBeOrdered_43 fl_X1_9 (ws_29 hW) rfl (wp_29_0 hW) ?_
                refine q_getI dX1_canBeOrdered_46 fl_X1_76 (ws_9 hW) rfl hM.1 ?_
                refine f_ic_ge dX1_canBeOrdered_49 (tgt := 127) rfl (by exact nI_ge (by omega) (by omega)) ?_
                refine q_iln dX1_canBeOrdered_52 rfl ?_
                refine q_il dX1_canBeOrdered_53 rfl ?_
                first | refine q_shr dX1_canBeOrdered_55 (by omega) (by omega) ?_ | refine am_x_pu dX1_canBeOrdered_55 rfl ?_
                refine q_ic (v := nI 1) dX1_canBeOrdered_56 rfl ?_
                first | refine q_and dX1_canBeOrdered_57 ?_ | refine am_x_pu dX1_canBeOrdered_57 rfl ?_
                refine f_if_eq dX1_canBeOrdered_58 (tgt := 83) rfl (by rw [bit_and, if_pos hbt]; exact zf1) ?_
                refine q_iln dX1_canBeOrdered_61 rfl ?_
                refine q_ic (v := -1) dX1_canBeOrdered_62 rfl ?_
                refine t_ic_eq 79 dX1_canBeOrdered_63 rfl (by rfl) ?_
                refine q_ic (v := nI 1) dX1_canBeOrdered_79 rfl ?_
                refine am_x_goto (tgt := 84) dX1_canBeOrdered_80 rfl ?_
                refine q_is dX1_canBeOrdered_84 (by decide) ?_
                refine am_nl (pc' := 86) (l' := [_, _, _, _, _, _]) rfl rfl ?_
                refine q_il dX1_canBeOrdered_86 rfl ?_
                refine f_if_eq dX1_canBeOrdered_88 (tgt := 121) rfl (by exact zf1) ?_
                refine q_aln dX1_canBeOrdered_91 rfl ?_
                refine q_iln dX1_canBeOrdered_92 rfl ?_
                refine q_ic (v := nI 1) dX1_canBeOrdered_93 rfl ?_
                refine q_il dX1_canBeOrdered_94 rfl ?_
                first | refine q_shl1 dX1_canBeOrdered_96 (by omega) ?_ | refine am_x_pu dX1_canBeOrdered_96 rfl ?_
                refine q_ic (v := -1) dX1_canBeOrdered_97 rfl ?_
                refine am_x_pu dX1_canBeOrdered_98 rfl ?_
                refine am_x_pu dX1_canBeOrdered_99 rfl ?_
                rw [hca]
                refine q_iln dX1_canBeOrdered_100 rfl ?_
                refine q_ic (v := -1) dX1_canBeOrdered_101 rfl ?_
                refine f_ic_ne dX1_canBeOrdered_102 (tgt := 110) rfl (by rfl) ?_
                refine q_il dX1_canBeOrdered_105 rfl ?_
                refine am_x_goto (tgt := 111) dX1_canBeOrdered_107 rfl ?_
                refine q_il dX1_canBeOrdered_111 rfl ?_
                refine q_V3 (N := m_X1_canBeOrdered) dX1_canBeOrdered_113 lk_X1_62 mV_X1_canBeOrdered (hrec) (by omega) (ws_29 hW) rfl (by decide) (Nat.le_of_ble_eq_true rfl) (Nat.le_of_ble_eq_true rfl) ?_
                refine t_if_eq 121 dX1_canBeOrdered_116 rfl (by rw [if_neg hc]; rfl) ?_
                refine q_inc dX1_canBeOrdered_121 rfl (by decide) ?_
                refine am_nl (pc' := 124) (l' := [_, _, _, _, _, _]) rfl rfl ?_
                refine am_x_goto (tgt := 40) dX1_canBeOrdered_124 rfl ?_
                exact iq (j + 1) (by omega) (hp0 hp) _
            | some f0 =>
              have hf0 := hf f0 rfl
              have hrec := ih (clr b j) (some f0) (some j) (by have := popc_clr (by omega) hbt; omega) clr_lt hcb (fun x e => by cases e; omega) (fun x e => by cases e; omega) (fun _ => ⟨rfl, rfl⟩)
              by_cases hc : cbo n g F k (clr b j) (some f0) (some j) = true
              · have hp : (fun m => b.testBit m && okl F (none : Option Nat) m && cbo n g F k (clr b m) (some ((some f0).getD m)) (some m)) j = true := by simp only [okl, hbt, Option.getD_none, Option.getD_some, hc, Bool.and_true]
                rw [hp1 hp]
                refine q_il dX1_canBeOrdered_40 rfl ?_
                refine q_aln dX1_canBeOrdered_42 rfl ?_
                refine q_getR dX1_canBeOrdered_43 fl_X1_9 (ws_29 hW) rfl (wp_29_0 hW) ?_
                refine q_getI dX1_canBeOrdered_46 fl_X1_76 (ws_9 hW) rfl hM.1 ?_
                refine f_ic_ge dX1_canBeOrdered_49 (tgt := 127) rfl (by exact nI_ge (by omega) (by omega)) ?_
                refine q_iln dX1_canBeOrdered_52 rfl ?_
                refine q_il dX1_canBeOrdered_53 rfl ?_
                first | refine q_shr dX1_canBeOrdered_55 (by omega) (by omega) ?_ | refine am_x_pu dX1_canBeOrdered_55 rfl ?_
                refine q_ic (v := nI 1) dX1_canBeOrdered_56 rfl ?_
                first | refine q_and dX1_canBeOrdered_57 ?_ | refine am_x_pu dX1_canBeOrdered_57 rfl ?_
                refine f_if_eq dX1_canBeOrdered_58 (tgt := 83) rfl (by rw [bit_and, if_pos hbt]; exact zf1) ?_
                refine q_iln dX1_canBeOrdered_61 rfl ?_
                refine q_ic (v := -1) dX1_canBeOrdered_62 rfl ?_
                refine t_ic_eq 79 dX1_canBeOrdered_63 rfl (by rfl) ?_
                refine q_ic (v := nI 1) dX1_canBeOrdered_79 rfl ?_
                refine am_x_goto (tgt := 84) dX1_canBeOrdered_80 rfl ?_
                refine q_is dX1_canBeOrdered_84 (by decide) ?_
                refine am_nl (pc' := 86) (l' := [_, _, _, _, _, _]) rfl rfl ?_
                refine q_il dX1_canBeOrdered_86 rfl ?_
                refine f_if_eq dX1_canBeOrdered_88 (tgt := 121) rfl (by exact zf1) ?_
                refine q_aln dX1_canBeOrdered_91 rfl ?_
                refine q_iln dX1_canBeOrdered_92 rfl ?_
                refine q_ic (v := nI 1) dX1_canBeOrdered_93 rfl ?_
                refine q_il dX1_canBeOrdered_94 rfl ?_
                first | refine q_shl1 dX1_canBeOrdered_96 (by omega) ?_ | refine am_x_pu dX1_canBeOrdered_96 rfl ?_
                refine q_ic (v := -1) dX1_canBeOrdered_97 rfl ?_
                refine am_x_pu dX1_canBeOrdered_98 rfl ?_
                refine am_x_pu dX1_canBeOrdered_99 rfl ?_
                rw [hca]
                refine q_iln dX1_canBeOrdered_100 rfl ?_
                refine q_ic (v := -1) dX1_canBeOrdered_101 rfl ?_
                refine t_ic_ne 110 dX1_canBeOrdered_102 rfl (by exact nI_m1 (by omega)) ?_
                refine q_iln (x := nI f0) dX1_canBeOrdered_110 rfl ?_
                refine q_il dX1_canBeOrdered_111 rfl ?_
                refine q_V3 (N := m_X1_canBeOrdered) dX1_canBeOrdered_113 lk_X1_62 mV_X1_canBeOrdered (hrec) (by omega) (ws_29 hW) rfl (by decide) (Nat.le_of_ble_eq_true rfl) (Nat.le_of_ble_eq_true rfl) ?_
                refine f_if_eq dX1_canBeOrdered_116 (tgt := 121) rfl (by rw [if_pos hc]; exact zf1) ?_
                refine q_ic (v := nI 1) dX1_canBeOrdered_119 rfl ?_
                first | refine q_zrn dX1_canBeOrdered_120 rfl (by first | omega | exact b2_le) ?_ | refine q_zr dX1_canBeOrdered_120 rfl (by first | exact Or.inl rfl | exact Or.inr rfl | assumption) ?_
                rfl
              · have hp : ¬ (fun m => b.testBit m && okl F (none : Option Nat) m && cbo n g F k (clr b m) (some ((some f0).getD m)) (some m)) j = true := by simp only [Option.getD_none, Option.getD_some, hc, Bool.and_false]; exact Bool.false_ne_true
                refine q_il dX1_canBeOrdered_40 rfl ?_
                refine q_aln dX1_canBeOrdered_42 rfl ?_
                refine q_getR dX1_canBeOrdered_43 fl_X1_9 (ws_29 hW) rfl (wp_29_0 hW) ?_
                refine q_getI dX1_canBeOrdered_46 fl_X1_76 (ws_9 hW) rfl hM.1 ?_
                refine f_ic_ge dX1_canBeOrdered_49 (tgt := 127) rfl (by exact nI_ge (by omega) (by omega)) ?_
                refine q_iln dX1_canBeOrdered_52 rfl ?_
                refine q_il dX1_canBeOrdered_53 rfl ?_
                first | refine q_shr dX1_canBeOrdered_55 (by omega) (by omega) ?_ | refine am_x_pu dX1_canBeOrdered_55 rfl ?_
                refine q_ic (v := nI 1) dX1_canBeOrdered_56 rfl ?_
                first | refine q_and dX1_canBeOrdered_57 ?_ | refine am_x_pu dX1_canBeOrdered_57 rfl ?_
                refine f_if_eq dX1_canBeOrdered_58 (tgt := 83) rfl (by rw [bit_and, if_pos hbt]; exact zf1) ?_
                refine q_iln dX1_canBeOrdered_61 rfl ?_
                refine q_ic (v := -1) dX1_canBeOrdered_62 rfl ?_
                refine t_ic_eq 79 dX1_canBeOrdered_63 rfl (by rfl) ?_
                refine q_ic (v := nI 1) dX1_canBeOrdered_79 rfl ?_
                refine am_x_goto (tgt := 84) dX1_canBeOrdered_80 rfl ?_
                refine q_is dX1_canBeOrdered_84 (by decide) ?_
                refine am_nl (pc' := 86) (l' := [_, _, _, _, _, _]) rfl rfl ?_
                refine q_il dX1_canBeOrdered_86 rfl ?_
                refine f_if_eq dX1_canBeOrdered_88 (tgt := 121) rfl (by exact zf1) ?_
                refine q_aln dX1_canBeOrdered_91 rfl ?_
                refine q_iln dX1_canBeOrdered_92 rfl ?_
                refine q_ic (v := nI 1) dX1_canBeOrdered_93 rfl ?_
                refine q_il dX1_canBeOrdered_94 rfl ?_
                first | refine q_shl1 dX1_canBeOrdered_96 (by omega) ?_ | refine am_x_pu dX1_canBeOrdered_96 rfl ?_
                refine q_ic (v := -1) dX1_canBeOrdered_97 rfl ?_
                refine am_x_pu dX1_canBeOrdered_98 rfl ?_
                refine am_x_pu dX1_canBeOrdered_99 rfl ?_
                rw [hca]
                refine q_iln dX1_canBeOrdered_100 rfl ?_
                refine q_ic (v := -1) dX1_canBeOrdered_101 rfl ?_
                refine t_ic_ne 110 dX1_canBeOrdered_102 rfl (by exact nI_m1 (by omega)) ?_
                refine q_iln (x := nI f0) dX1_canBeOrdered_110 rfl ?_
                refine q_il dX1_canBeOrdered_111 rfl ?_
                refine q_V3 (N := m_X1_canBeOrdered) dX1_canBeOrdered_113 lk_X1_62 mV_X1_canBeOrdered (hrec) (by omega) (ws_29 hW) rfl (by decide) (Nat.le_of_ble_eq_true rfl) (Nat.le_of_ble_eq_true rfl) ?_
                refine t_if_eq 121 dX1_canBeOrdered_116 rfl (by rw [if_neg hc]; rfl) ?_
                refine q_inc dX1_canBeOrdered_121 rfl (by decide) ?_
                refine am_nl (pc' := 124) (l' := [_, _, _, _, _, _]) rfl rfl ?_
                refine am_x_goto (tgt := 40) dX1_canBeOrdered_124 rfl ?_
                exact iq (j + 1) (by omega) (hp0 hp) _
          | some la0 =>
            have hla0 := hla la0 rfl
            by_cases hsw : ¬ swl F la0 j
            · cases f with
              | none =>
                have hrec := ih (clr b j) (some j) (some j) (by have := popc_clr (by omega) hbt; omega) clr_lt hcb (fun x e => by cases e; omega) (fun x e => by cases e; omega) (fun _ => ⟨rfl, rfl⟩)
                by_cases hc : cbo n g F k (clr b j) (some j) (some j) = true
                · have hp : (fun m => b.testBit m && okl F (some la0) m && cbo n g F k (clr b m) (some ((none : Option Nat).getD m)) (some m)) j = true := by simp only [okl, hbt, Option.getD_none, Option.getD_some, hc, Bool.and_true]; exact decide_eq_true hsw
                  rw [hp1 hp]
                  refine q_il dX1_canBeOrdered_40 rfl ?_
                  refine q_aln dX1_canBeOrdered_42 rfl ?_
                  refine q_getR dX1_canBeOrdered_43 fl_X1_9 (ws_29 hW) rfl (wp_29_0 hW) ?_
                  refine q_getI dX1_canBeOrdered_46 fl_X1_76 (ws_9 hW) rfl hM.1 ?_
                  refine f_ic_ge dX1_canBeOrdered_49 (tgt := 127) rfl (by exact nI_ge (by omega) (by omega)) ?_
                  refine q_iln dX1_canBeOrdered_52 rfl ?_
                  refine q_il dX1_canBeOrdered_53 rfl ?_
                  first | refine q_shr dX1_canBeOrdered_55 (by omega) (by omega) ?_ | refine am_x_pu dX1_canBeOrdered_55 rfl ?_
                  refine q_ic (v := nI 1) dX1_canBeOrdered_56 rfl ?_
                  first | refine q_and dX1_canBeOrdered_57 ?_ | refine am_x_pu dX1_canBeOrdered_57 rfl ?_
                  refine f_if_eq dX1_canBeOrdered_58 (tgt := 83) rfl (by rw [bit_and, if_pos hbt]; exact zf1) ?_
                  refine q_iln dX1_canBeOrdered_61 rfl ?_
                  refine q_ic (v := -1) dX1_canBeOrdered_62 rfl ?_
                  refine f_ic_eq dX1_canBeOrdered_63 (tgt := 79) rfl (by exact nI_m1 (by omega)) ?_
                  refine q_aln dX1_canBeOrdered_66 rfl ?_
                  refine q_getR dX1_canBeOrdered_67 fl_X1_9 (ws_29 hW) rfl (wp_29_0 hW) ?_
                  refine q_iln dX1_canBeOrdered_70 rfl ?_
                  refine q_il dX1_canBeOrdered_71 rfl ?_
                  refine q_V2 (N := m_X5_swallows) dX1_canBeOrdered_73 lk_X1_72 mV_X5_swallows (c_swallows hW hM hla0 (by omega)) (by omega) (ws_9 hW) rfl (by decide) (Nat.le_of_ble_eq_true rfl) (Nat.le_of_ble_eq_true rfl) ?_
                  refine f_if_ne dX1_canBeOrdered_76 (tgt := 83) rfl (by rw [if_neg hsw]; rfl) ?_
                  refine q_ic (v := nI 1) dX1_canBeOrdered_79 rfl ?_
                  refine am_x_goto (tgt := 84) dX1_canBeOrdered_80 rfl ?_
                  refine q_is dX1_canBeOrdered_84 (by decide) ?_
                  refine am_nl (pc' := 86) (l' := [_, _, _, _, _, _]) rfl rfl ?_
                  refine q_il dX1_canBeOrdered_86 rfl ?_
                  refine f_if_eq dX1_canBeOrdered_88 (tgt := 121) rfl (by exact zf1) ?_
                  refine q_aln dX1_canBeOrdered_91 rfl ?_
                  refine q_iln dX1_canBeOrdered_92 rfl ?_
                  refine q_ic (v := nI 1) dX1_canBeOrdered_93 rfl ?_
                  refine q_il dX1_canBeOrdered_94 rfl ?_
                  first | refine q_shl1 dX1_canBeOrdered_96 (by omega) ?_ | refine am_x_pu dX1_canBeOrdered_96 rfl ?_
                  refine q_ic (v := -1) dX1_canBeOrdered_97 rfl ?_
                  refine am_x_pu dX1_canBeOrdered_98 rfl ?_
                  refine am_x_pu dX1_canBeOrdered_99 rfl ?_
                  rw [hca]
                  refine q_iln dX1_canBeOrdered_100 rfl ?_
                  refine q_ic (v := -1) dX1_canBeOrdered_101 rfl ?_
                  refine f_ic_ne dX1_canBeOrdered_102 (tgt := 110) rfl (by rfl) ?_
                  refine q_il dX1_canBeOrdered_105 rfl ?_
                  refine am_x_goto (tgt := 111) dX1_canBeOrdered_107 rfl ?_
                  refine q_il dX1_canBeOrdered_111 rfl ?_
                  refine q_V3 (N := m_X1_canBeOrdered) dX1_canBeOrdered_113 lk_X1_62 mV_X1_canBeOrdered (hrec) (by omega) (ws_29 hW) rfl (by decide) (Nat.le_of_ble_eq_true rfl) (Nat.le_of_ble_eq_true rfl) ?_
                  refine f_if_eq dX1_canBeOrdered_116 (tgt := 121) rfl (by rw [if_pos hc]; exact zf1) ?_
                  refine q_ic (v := nI 1) dX1_canBeOrdered_119 rfl ?_
                  first | refine q_zrn dX1_canBeOrdered_120 rfl (by first | omega | exact b2_le) ?_ | refine q_zr dX1_canBeOrdered_120 rfl (by first | exact Or.inl rfl | exact Or.inr rfl | assumption) ?_
                  rfl
                · have hp : ¬ (fun m => b.testBit m && okl F (some la0) m && cbo n g F k (clr b m) (some ((none : Option Nat).getD m)) (some m)) j = true := by simp only [Option.getD_none, Option.getD_some, hc, Bool.and_false]; exact Bool.false_ne_true
                  refine q_il dX1_canBeOrdered_40 rfl ?_
                  refine q_aln dX1_canBeOrdered_42 rfl ?_
                  refine q_getR dX1_canBeOrdered_43 fl_X1_9 (ws_29 hW) rfl (wp_29_0 hW) ?_
                  refine q_getI dX1_canBeOrdered_46 fl_X1_76 (ws_9 hW) rfl hM.1 ?_
                  refine f_ic_ge dX1_canBeOrdered_49 (tgt := 127) rfl (by exact nI_ge (by omega) (by omega)) ?_
                  refine q_iln dX1_canBeOrdered_52 rfl ?_
                  refine q_il dX1_canBeOrdered_53 rfl ?_
                  first | refine q_shr dX1_canBeOrdered_55 (by omega) (by omega) ?_ | refine am_x_pu dX1_canBeOrdered_55 rfl ?_
                  refine q_ic (v := nI 1) dX1_canBeOrdered_56 rfl ?_
                  first | refine q_and dX1_canBeOrdered_57 ?_ | refine am_x_pu dX1_canBeOrdered_57 rfl ?_
                  refine f_if_eq dX1_canBeOrdered_58 (tgt := 83) rfl (by rw [bit_and, if_pos hbt]; exact zf1) ?_
                  refine q_iln dX1_canBeOrdered_61 rfl ?_
                  refine q_ic (v := -1) dX1_canBeOrdered_62 rfl ?_
                  refine f_ic_eq dX1_canBeOrdered_63 (tgt := 79) rfl (by exact nI_m1 (by omega)) ?_
                  refine q_aln dX1_canBeOrdered_66 rfl ?_
                  refine q_getR dX1_canBeOrdered_67 fl_X1_9 (ws_29 hW) rfl (wp_29_0 hW) ?_
                  refine q_iln dX1_canBeOrdered_70 rfl ?_
                  refine q_il dX1_canBeOrdered_71 rfl ?_
                  refine q_V2 (N := m_X5_swallows) dX1_canBeOrdered_73 lk_X1_72 mV_X5_swallows (c_swallows hW hM hla0 (by omega)) (by omega) (ws_9 hW) rfl (by decide) (Nat.le_of_ble_eq_true rfl) (Nat.le_of_ble_eq_true rfl) ?_
                  refine f_if_ne dX1_canBeOrdered_76 (tgt := 83) rfl (by rw [if_neg hsw]; rfl) ?_
                  refine q_ic (v := nI 1) dX1_canBeOrdered_79 rfl ?_
                  refine am_x_goto (tgt := 84) dX1_canBeOrdered_80 rfl ?_
                  refine q_is dX1_canBeOrdered_84 (by decide) ?_
                  refine am_nl (pc' := 86) (l' := [_, _, _, _, _, _]) rfl rfl ?_
                  refine q_il dX1_canBeOrdered_86 rfl ?_
                  refine f_if_eq dX1_canBeOrdered_88 (tgt := 121) rfl (by exact zf1) ?_
                  refine q_aln dX1_canBeOrdered_91 rfl ?_
                  refine q_iln dX1_canBeOrdered_92 rfl ?_
                  refine q_ic (v := nI 1) dX1_canBeOrdered_93 rfl ?_
                  refine q_il dX1_canBeOrdered_94 rfl ?_
                  first | refine q_shl1 dX1_canBeOrdered_96 (by omega) ?_ | refine am_x_pu dX1_canBeOrdered_96 rfl ?_
                  refine q_ic (v := -1) dX1_canBeOrdered_97 rfl ?_
                  refine am_x_pu dX1_canBeOrdered_98 rfl ?_
                  refine am_x_pu dX1_canBeOrdered_99 rfl ?_
                  rw [hca]
                  refine q_iln dX1_canBeOrdered_100 rfl ?_
                  refine q_ic (v := -1) dX1_canBeOrdered_101 rfl ?_
                  refine f_ic_ne dX1_canBeOrdered_102 (tgt := 110) rfl (by rfl) ?_
                  refine q_il dX1_canBeOrdered_105 rfl ?_
                  refine am_x_goto (tgt := 111) dX1_canBeOrdered_107 rfl ?_
                  refine q_il dX1_canBeOrdered_111 rfl ?_
                  refine q_V3 (N := m_X1_canBeOrdered) dX1_canBeOrdered_113 lk_X1_62 mV_X1_canBeOrdered (hrec) (by omega) (ws_29 hW) rfl (by decide) (Nat.le_of_ble_eq_true rfl) (Nat.le_of_ble_eq_true rfl) ?_
                  refine t_if_eq 121 dX1_canBeOrdered_116 rfl (by rw [if_neg hc]; rfl) ?_
                  refine q_inc dX1_canBeOrdered_121 rfl (by decide) ?_
                  refine am_nl (pc' := 124) (l' := [_, _, _, _, _, _]) rfl rfl ?_
                  refine am_x_goto (tgt := 40) dX1_canBeOrdered_124 rfl ?_
                  exact iq (j + 1) (by omega) (hp0 hp) _
              | some f0 =>
                have hf0 := hf f0 rfl
                have hrec := ih (clr b j) (some f0) (some j) (by have := popc_clr (by omega) hbt; omega) clr_lt hcb (fun x e => by cases e; omega) (fun x e => by cases e; omega) (fun _ => ⟨rfl, rfl⟩)
                by_cases hc : cbo n g F k (clr b j) (some f0) (some j) = true
                · have hp : (fun m => b.testBit m && okl F (some la0) m && cbo n g F k (clr b m) (some ((some f0).getD m)) (some m)) j = true := by simp only [okl, hbt, Option.getD_none, Option.getD_some, hc, Bool.and_true]; exact decide_eq_true hsw
                  rw [hp1 hp]
                  refine q_il dX1_canBeOrdered_40 rfl ?_
                  refine q_aln dX1_canBeOrdered_42 rfl ?_
                  refine q_getR dX1_canBeOrdered_43 fl_X1_9 (ws_29 hW) rfl (wp_29_0 hW) ?_
                  refine q_getI dX1_canBeOrdered_46 fl_X1_76 (ws_9 hW) rfl hM.1 ?_
                  refine f_ic_ge dX1_canBeOrdered_49 (tgt := 127) rfl (by exact nI_ge (by omega) (by omega)) ?_
                  refine q_iln dX1_canBeOrdered_52 rfl ?_
                  refine q_il dX1_canBeOrdered_53 rfl ?_
                  first | refine q_shr dX1_canBeOrdered_55 (by omega) (by omega) ?_ | refine am_x_pu dX1_canBeOrdered_55 rfl ?_
                  refine q_ic (v := nI 1) dX1_canBeOrdered_56 rfl ?_
                  first | refine q_and dX1_canBeOrdered_57 ?_ | refine am_x_pu dX1_canBeOrdered_57 rfl ?_
                  refine f_if_eq dX1_canBeOrdered_58 (tgt := 83) rfl (by rw [bit_and, if_pos hbt]; exact zf1) ?_
                  refine q_iln dX1_canBeOrdered_61 rfl ?_
                  refine q_ic (v := -1) dX1_canBeOrdered_62 rfl ?_
                  refine f_ic_eq dX1_canBeOrdered_63 (tgt := 79) rfl (by exact nI_m1 (by omega)) ?_
                  refine q_aln dX1_canBeOrdered_66 rfl ?_
                  refine q_getR dX1_canBeOrdered_67 fl_X1_9 (ws_29 hW) rfl (wp_29_0 hW) ?_
                  refine q_iln dX1_canBeOrdered_70 rfl ?_
                  refine q_il dX1_canBeOrdered_71 rfl ?_
                  refine q_V2 (N := m_X5_swallows) dX1_canBeOrdered_73 lk_X1_72 mV_X5_swallows (c_swallows hW hM hla0 (by omega)) (by omega) (ws_9 hW) rfl (by decide) (Nat.le_of_ble_eq_true rfl) (Nat.le_of_ble_eq_true rfl) ?_
                  refine f_if_ne dX1_canBeOrdered_76 (tgt := 83) rfl (by rw [if_neg hsw]; rfl) ?_
                  refine q_ic (v := nI 1) dX1_canBeOrdered_79 rfl ?_
                  refine am_x_goto (tgt := 84) dX1_canBeOrdered_80 rfl ?_
                  refine q_is dX1_canBeOrdered_84 (by decide) ?_
                  refine am_nl (pc' := 86) (l' := [_, _, _, _, _, _]) rfl rfl ?_
                  refine q_il dX1_canBeOrdered_86 rfl ?_
                  refine f_if_eq dX1_canBeOrdered_88 (tgt := 121) rfl (by exact zf1) ?_
                  refine q_aln dX1_canBeOrdered_91 rfl ?_
                  refine q_iln dX1_canBeOrdered_92 rfl ?_
                  refine q_ic (v := nI 1) dX1_canBeOrdered_93 rfl ?_
                  refine q_il dX1_canBeOrdered_94 rfl ?_
                  first | refine q_shl1 dX1_canBeOrdered_96 (by omega) ?_ | refine am_x_pu dX1_canBeOrdered_96 rfl ?_
                  refine q_ic (v := -1) dX1_canBeOrdered_97 rfl ?_
                  refine am_x_pu dX1_canBeOrdered_98 rfl ?_
                  refine am_x_pu dX1_canBeOrdered_99 rfl ?_
                  rw [hca]
                  refine q_iln dX1_canBeOrdered_100 rfl ?_
                  refine q_ic (v := -1) dX1_canBeOrdered_101 rfl ?_
                  refine t_ic_ne 110 dX1_canBeOrdered_102 rfl (by exact nI_m1 (by omega)) ?_
                  refine q_iln (x := nI f0) dX1_canBeOrdered_110 rfl ?_
                  refine q_il dX1_canBeOrdered_111 rfl ?_
                  refine q_V3 (N := m_X1_canBeOrdered) dX1_canBeOrdered_113 lk_X1_62 mV_X1_canBeOrdered (hrec) (by omega) (ws_29 hW) rfl (by decide) (Nat.le_of_ble_eq_true rfl) (Nat.le_of_ble_eq_true rfl) ?_
                  refine f_if_eq dX1_canBeOrdered_116 (tgt := 121) rfl (by rw [if_pos hc]; exact zf1) ?_
                  refine q_ic (v := nI 1) dX1_canBeOrdered_119 rfl ?_
                  first | refine q_zrn dX1_canBeOrdered_120 rfl (by first | omega | exact b2_le) ?_ | refine q_zr dX1_canBeOrdered_120 rfl (by first | exact Or.inl rfl | exact Or.inr rfl | assumption) ?_
                  rfl
                · have hp : ¬ (fun m => b.testBit m && okl F (some la0) m && cbo n g F k (clr b m) (some ((some f0).getD m)) (some m)) j = true := by simp only [Option.getD_none, Option.getD_some, hc, Bool.and_false]; exact Bool.false_ne_true
                  refine q_il dX1_canBeOrdered_40 rfl ?_
                  refine q_aln dX1_canBeOrdered_42 rfl ?_
                  refine q_getR dX1_canBeOrdered_43 fl_X1_9 (ws_29 hW) rfl (wp_29_0 hW) ?_
                  refine q_getI dX1_canBeOrdered_46 fl_X1_76 (ws_9 hW) rfl hM.1 ?_
                  refine f_ic_ge dX1_canBeOrdered_49 (tgt := 127) rfl (by exact nI_ge (by omega) (by omega)) ?_
                  refine q_iln dX1_canBeOrdered_52 rfl ?_
                  refine q_il dX1_canBeOrdered_53 rfl ?_
                  first | refine q_shr dX1_canBeOrdered_55 (by omega) (by omega) ?_ | refine am_x_pu dX1_canBeOrdered_55 rfl ?_
                  refine q_ic (v := nI 1) dX1_canBeOrdered_56 rfl ?_
                  first | refine q_and dX1_canBeOrdered_57 ?_ | refine am_x_pu dX1_canBeOrdered_57 rfl ?_
                  refine f_if_eq dX1_canBeOrdered_58 (tgt := 83) rfl (by rw [bit_and, if_pos hbt]; exact zf1) ?_
                  refine q_iln dX1_canBeOrdered_61 rfl ?_
                  refine q_ic (v := -1) dX1_canBeOrdered_62 rfl ?_
                  refine f_ic_eq dX1_canBeOrdered_63 (tgt := 79) rfl (by exact nI_m1 (by omega)) ?_
                  refine q_aln dX1_canBeOrdered_66 rfl ?_
                  refine q_getR dX1_canBeOrdered_67 fl_X1_9 (ws_29 hW) rfl (wp_29_0 hW) ?_
                  refine q_iln dX1_canBeOrdered_70 rfl ?_
                  refine q_il dX1_canBeOrdered_71 rfl ?_
                  refine q_V2 (N := m_X5_swallows) dX1_canBeOrdered_73 lk_X1_72 mV_X5_swallows (c_swallows hW hM hla0 (by omega)) (by omega) (ws_9 hW) rfl (by decide) (Nat.le_of_ble_eq_true rfl) (Nat.le_of_ble_eq_true rfl) ?_
                  refine f_if_ne dX1_canBeOrdered_76 (tgt := 83) rfl (by rw [if_neg hsw]; rfl) ?_
                  refine q_ic (v := nI 1) dX1_canBeOrdered_79 rfl ?_
                  refine am_x_goto (tgt := 84) dX1_canBeOrdered_80 rfl ?_
                  refine q_is dX1_canBeOrdered_84 (by decide) ?_
                  refine am_nl (pc' := 86) (l' := [_, _, _, _, _, _]) rfl rfl ?_
                  refine q_il dX1_canBeOrdered_86 rfl ?_
                  refine f_if_eq dX1_canBeOrdered_88 (tgt := 121) rfl (by exact zf1) ?_
                  refine q_aln dX1_canBeOrdered_91 rfl ?_
                  refine q_iln dX1_canBeOrdered_92 rfl ?_
                  refine q_ic (v := nI 1) dX1_canBeOrdered_93 rfl ?_
                  refine q_il dX1_canBeOrdered_94 rfl ?_
                  first | refine q_shl1 dX1_canBeOrdered_96 (by omega) ?_ | refine am_x_pu dX1_canBeOrdered_96 rfl ?_
                  refine q_ic (v := -1) dX1_canBeOrdered_97 rfl ?_
                  refine am_x_pu dX1_canBeOrdered_98 rfl ?_
                  refine am_x_pu dX1_canBeOrdered_99 rfl ?_
                  rw [hca]
                  refine q_iln dX1_canBeOrdered_100 rfl ?_
                  refine q_ic (v := -1) dX1_canBeOrdered_101 rfl ?_
                  refine t_ic_ne 110 dX1_canBeOrdered_102 rfl (by exact nI_m1 (by omega)) ?_
                  refine q_iln (x := nI f0) dX1_canBeOrdered_110 rfl ?_
                  refine q_il dX1_canBeOrdered_111 rfl ?_
                  refine q_V3 (N := m_X1_canBeOrdered) dX1_canBeOrdered_113 lk_X1_62 mV_X1_canBeOrdered (hrec) (by omega) (ws_29 hW) rfl (by decide) (Nat.le_of_ble_eq_true rfl) (Nat.le_of_ble_eq_true rfl) ?_
                  refine t_if_eq 121 dX1_canBeOrdered_116 rfl (by rw [if_neg hc]; rfl) ?_
                  refine q_inc dX1_canBeOrdered_121 rfl (by decide) ?_
                  refine am_nl (pc' := 124) (l' := [_, _, _, _, _, _]) rfl rfl ?_
                  refine am_x_goto (tgt := 40) dX1_canBeOrdered_124 rfl ?_
                  exact iq (j + 1) (by omega) (hp0 hp) _
            · have hsw2 : swl F la0 j := Classical.not_not.mp hsw
              have hp : ¬ (fun m => b.testBit m && okl F (some la0) m && cbo n g F k (clr b m) (some (f.getD m)) (some m)) j = true := by
                simp only [okl, hsw2, not_true, decide_false, Bool.and_false, Bool.false_and]
                exact Bool.false_ne_true
              refine q_il dX1_canBeOrdered_40 rfl ?_
              refine q_aln dX1_canBeOrdered_42 rfl ?_
              refine q_getR dX1_canBeOrdered_43 fl_X1_9 (ws_29 hW) rfl (wp_29_0 hW) ?_
              refine q_getI dX1_canBeOrdered_46 fl_X1_76 (ws_9 hW) rfl hM.1 ?_
              refine f_ic_ge dX1_canBeOrdered_49 (tgt := 127) rfl (by exact nI_ge (by omega) (by omega)) ?_
              refine q_iln dX1_canBeOrdered_52 rfl ?_
              refine q_il dX1_canBeOrdered_53 rfl ?_
              first | refine q_shr dX1_canBeOrdered_55 (by omega) (by omega) ?_ | refine am_x_pu dX1_canBeOrdered_55 rfl ?_
              refine q_ic (v := nI 1) dX1_canBeOrdered_56 rfl ?_
              first | refine q_and dX1_canBeOrdered_57 ?_ | refine am_x_pu dX1_canBeOrdered_57 rfl ?_
              refine f_if_eq dX1_canBeOrdered_58 (tgt := 83) rfl (by rw [bit_and, if_pos hbt]; exact zf1) ?_
              refine q_iln dX1_canBeOrdered_61 rfl ?_
              refine q_ic (v := -1) dX1_canBeOrdered_62 rfl ?_
              refine f_ic_eq dX1_canBeOrdered_63 (tgt := 79) rfl (by exact nI_m1 (by omega)) ?_
              refine q_aln dX1_canBeOrdered_66 rfl ?_
              refine q_getR dX1_canBeOrdered_67 fl_X1_9 (ws_29 hW) rfl (wp_29_0 hW) ?_
              refine q_iln dX1_canBeOrdered_70 rfl ?_
              refine q_il dX1_canBeOrdered_71 rfl ?_
              refine q_V2 (N := m_X5_swallows) dX1_canBeOrdered_73 lk_X1_72 mV_X5_swallows (c_swallows hW hM hla0 (by omega)) (by omega) (ws_9 hW) rfl (by decide) (Nat.le_of_ble_eq_true rfl) (Nat.le_of_ble_eq_true rfl) ?_
              refine t_if_ne 83 dX1_canBeOrdered_76 rfl (by rw [if_pos hsw2]; exact zf1) ?_
              refine q_ic (v := nI 0) dX1_canBeOrdered_83 rfl ?_
              refine q_is dX1_canBeOrdered_84 (by decide) ?_
              refine am_nl (pc' := 86) (l' := [_, _, _, _, _, _]) rfl rfl ?_
              refine q_il dX1_canBeOrdered_86 rfl ?_
              refine t_if_eq 121 dX1_canBeOrdered_88 rfl (by rfl) ?_
              refine q_inc dX1_canBeOrdered_121 rfl (by decide) ?_
              refine am_nl (pc' := 124) (l' := [_, _, _, _, _, _]) rfl rfl ?_
              refine am_x_goto (tgt := 40) dX1_canBeOrdered_124 rfl ?_
              exact iq (j + 1) (by omega) (hp0 hp) _
        · have hp : ¬ (fun m => b.testBit m && okl F la m && cbo n g F k (clr b m) (some (f.getD m)) (some m)) j = true := by
            have : b.testBit j = false := Bool.eq_false_iff.mpr hbt
            simp only [this, Bool.false_and]
            exact Bool.false_ne_true
          refine q_il dX1_canBeOrdered_40 rfl ?_
          refine q_aln dX1_canBeOrdered_42 rfl ?_
          refine q_getR dX1_canBeOrdered_43 fl_X1_9 (ws_29 hW) rfl (wp_29_0 hW) ?_
          refine q_getI dX1_canBeOrdered_46 fl_X1_76 (ws_9 hW) rfl hM.1 ?_
          refine f_ic_ge dX1_canBeOrdered_49 (tgt := 127) rfl (by exact nI_ge (by omega) (by omega)) ?_
          refine q_iln dX1_canBeOrdered_52 rfl ?_
          refine q_il dX1_canBeOrdered_53 rfl ?_
          first | refine q_shr dX1_canBeOrdered_55 (by omega) (by omega) ?_ | refine am_x_pu dX1_canBeOrdered_55 rfl ?_
          refine q_ic (v := nI 1) dX1_canBeOrdered_56 rfl ?_
          first | refine q_and dX1_canBeOrdered_57 ?_ | refine am_x_pu dX1_canBeOrdered_57 rfl ?_
          refine t_if_eq 83 dX1_canBeOrdered_58 rfl (by rw [bit_and, if_neg hbt]; rfl) ?_
          refine q_ic (v := nI 0) dX1_canBeOrdered_83 rfl ?_
          refine q_is dX1_canBeOrdered_84 (by decide) ?_
          refine am_nl (pc' := 86) (l' := [_, _, _, _, _, _]) rfl rfl ?_
          refine q_il dX1_canBeOrdered_86 rfl ?_
          refine t_if_eq 121 dX1_canBeOrdered_88 rfl (by rfl) ?_
          refine q_inc dX1_canBeOrdered_121 rfl (by decide) ?_
          refine am_nl (pc' := 124) (l' := [_, _, _, _, _, _]) rfl rfl ?_
          refine am_x_goto (tgt := 40) dX1_canBeOrdered_124 rfl ?_
          exact iq (j + 1) (by omega) (hp0 hp) _
    refine q_iln dX1_canBeOrdered_0 rfl ?_
    refine t_if_ne 37 dX1_canBeOrdered_1 rfl (by exact hbn) ?_
    refine q_ic (v := nI 0) dX1_canBeOrdered_37 rfl ?_
    refine q_is dX1_canBeOrdered_38 (by decide) ?_
    refine am_nl (pc' := 40) (l' := [_, _, _, _, _, _]) rfl rfl ?_
    exact lp n 0 (by omega) rfl _
