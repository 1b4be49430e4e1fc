/-! the class reads clauses of manners -/
def cly (o : Nat) (c : Tks × Tks) : List Int32 := if c.1 = [] then c.2.map cs ++ [-59] else c.1.map cs ++ [-63] ++ [nI (o + c.1.length + c.2.length + 3)] ++ c.2.map cs ++ [-59]
def lay : Nat → List (Tks × Tks) → List Int32
  | _, [] => []
  | o, c :: r => cly o c ++ lay (o + (cly o c).length) r
theorem lay_app : ∀ (M : List (Tks × Tks)) (o : Nat) (c : Tks × Tks), lay o (M ++ [c]) = lay o M ++ cly (o + (lay o M).length) c
  | [], o, c => by simp [lay]
  | d :: r, o, c => by
    simp only [List.cons_append, lay]
    rw [lay_app r, List.append_assoc, List.length_append, Nat.add_assoc]
theorem cly_len (o : Nat) (c : Tks × Tks) : (cly o c).length = if c.1 = [] then c.2.length + 1 else c.1.length + c.2.length + 3 := by
  unfold cly
  split <;> simp <;> omega
theorem WR.set {h : am_H} {u v : List Int32} {x : Int32} (m : WR h (u ++ [x] ++ v)) (y : Int32) : WR (am_wI h 7 u.length y) (u ++ [y] ++ v) := by
  refine ⟨?_, ?_, fun i hi => ?_⟩
  · rw [wI_ne (by decide), m.1]
    simp
  · have := m.2.1
    simp only [List.length_append, List.length_cons, List.length_nil] at this ⊢
    exact this
  · rw [wI_eq]
    have h3 := m.2.2 i (by simp only [List.length_append, List.length_cons, List.length_nil] at hi ⊢; exact hi)
    by_cases e : i = u.length
    · rw [if_pos e, e]
      simp [List.getD_eq_getElem?_getD]
    · rw [if_neg e, h3]
      simp only [List.getD_eq_getElem?_getD]
      by_cases e2 : i < u.length
      · rw [List.append_assoc, List.append_assoc, List.getElem?_append_left e2, List.getElem?_append_left e2]
      · rw [List.getElem?_append_right (by simp; omega), List.getElem?_append_right (by simp; omega)]
        simp
theorem csq_pr {tl : Nat} {tp : Nat → Nat} {b : Nat} {ts : Tks} (hb : b ≤ tl) : b ≤ (csq tl tp b ts).1 ∧ (csq tl tp b ts).1 ≤ tl ∧ ∀ c, (csq tl tp b ts).2 = some c → c.1 = ts ∧ b + 1 + c.2.length ≤ (csq tl tp b ts).1 := by
  have h1 := nx_ge (tl := tl) (tp := tp) (a := b)
  have h2 := nx_le (tp := tp) hb
  unfold csq
  split
  next e =>
    have hlt := (sgn_lt e).1
    have h3 := smP_pr (tp := tp) (tl := tl) 6 (nx tl tp b + 1) (by omega)
    cases hq : (smP tl tp 6 (nx tl tp b + 1)).2 with
    | none => rw [bdc_n hq]; exact ⟨by dsimp only; omega, h3.2.1, fun c h => nomatch h⟩
    | some us =>
      rw [bdc_s hq]
      have h4 := h3.2.2 us hq
      exact ⟨by dsimp only; omega, h3.2.1, fun c hc => by cases hc; exact ⟨rfl, by dsimp only; omega⟩⟩
  next => exact ⟨h1, h2, fun c h => nomatch h⟩
theorem bgn_pr {tl : Nat} {tp : Nat → Nat} {a b : Nat} {ts : Tks} (hb : b ≤ tl) (ht : a + ts.length ≤ b) : b ≤ (bgn tl tp b ts).1 ∧ (bgn tl tp b ts).1 ≤ tl ∧ ∀ us, (bgn tl tp b ts).2 = some us → a + us.length ≤ (bgn tl tp b ts).1 ∧ 0 < us.length := by
  unfold bgn
  have h1 := rlt_pr (tp := tp) (smP_pr (tp := tp) 6) hb ht
  cases hq : (rlt tl tp (smP tl tp 6) b ts).2 with
  | none =>
    rw [bd_n hq, bd_n rfl]
    exact ⟨h1.1, h1.2.1, fun us h => nomatch h⟩
  | some us =>
    rw [bd_s hq]
    have h2 := h1.2.2 us hq
    have h3 := chn_pr (tp := tp) opA_0 (unP_pr (tp := tp) 6) 161 _ us a h1.2.1 h2.1 h2.2
    cases hr : (chn tl tp opA (unP tl tp 6) 161 (rlt tl tp (smP tl tp 6) b ts).1 us).2 with
    | none =>
      rw [bd_n hr]
      exact ⟨by dsimp only; omega, h3.2.1, fun us h => nomatch h⟩
    | some vs =>
      rw [bd_s hr]
      have h4 := h3.2.2 vs hr
      have h5 := chn_pr (tp := tp) opO_0 (chs_pr (tp := tp) opA_0 (unP_pr (tp := tp) 6)) 161 _ vs a h3.2.1 h4.1 h4.2
      exact ⟨by omega, h5.2.1, h5.2.2⟩
theorem rlt_nx {tl : Nat} {tp : Nat → Nat} {sum : Nat → Rd} {b : Nat} {ts : Tks} : rlt tl tp sum (nx tl tp b) ts = rlt tl tp sum b ts := by unfold rlt; rw [nx_nx]
theorem bgn_nx {tl : Nat} {tp : Nat → Nat} {b : Nat} {ts : Tks} : bgn tl tp (nx tl tp b) ts = bgn tl tp b ts := by unfold bgn; rw [rlt_nx]
theorem mcl_pr {tl : Nat} {tp : Nat → Nat} {a : Nat} (ha : a ≤ tl) : a ≤ (mcl tl tp a).1 ∧ (mcl tl tp a).1 ≤ tl ∧ ∀ c, (mcl tl tp a).2 = some c → a < (mcl tl tp a).1 ∧ ∀ o, a + (cly o c).length ≤ (mcl tl tp a).1 := by
  have x1 := nx_ge (tl := tl) (tp := tp) (a := a)
  have x2 := nx_le (tp := tp) ha
  unfold mcl
  split
  next e1 =>
    have l1 := (sgn_lt e1).1
    have y1 := nx_ge (tl := tl) (tp := tp) (a := nx tl tp a + 1)
    have y2 := nx_le (tp := tp) (show nx tl tp a + 1 ≤ tl by omega)
    split
    next e2 =>
      have l2 := (sgn_lt e2).1
      have z1 := nx_ge (tl := tl) (tp := tp) (a := nx tl tp (nx tl tp a + 1) + 1)
      have z2 := nx_le (tp := tp) (show nx tl tp (nx tl tp a + 1) + 1 ≤ tl by omega)
      split
      next =>
        have h3 := cndW_pr (tp := tp) (unP_pr (tp := tp) (tl := tl) 6) (nx tl tp (nx tl tp (nx tl tp a + 1) + 1)) z2
        cases hq : (cndW tl tp (unP tl tp 6) (nx tl tp (nx tl tp (nx tl tp a + 1) + 1))).2 with
        | none => rw [bdc_n hq]; exact ⟨by dsimp only; omega, h3.2.1, fun c h => nomatch h⟩
        | some ts =>
          rw [bdc_s hq]
          have h4 := h3.2.2 ts hq
          have h5 := csq_pr (tp := tp) (ts := ts) h3.2.1
          refine ⟨by omega, h5.2.1, fun c hc => ?_⟩
          have h6 := h5.2.2 c hc
          refine ⟨by omega, fun o => ?_⟩
          rw [cly_len, h6.1]
          have : ts ≠ [] := fun z => by rw [z] at h4; simp at h4
          rw [if_neg this]
          omega
      next =>
        have h3 := smP_pr (tp := tp) (tl := tl) 6 (nx tl tp (nx tl tp (nx tl tp a + 1) + 1)) z2
        cases hq : (smP tl tp 6 (nx tl tp (nx tl tp (nx tl tp a + 1) + 1))).2 with
        | none => rw [bdc_n hq]; exact ⟨by dsimp only; omega, h3.2.1, fun c h => nomatch h⟩
        | some ts =>
          rw [bdc_s hq]
          have h4 := h3.2.2 ts hq
          have w1 := nx_ge (tl := tl) (tp := tp) (a := (smP tl tp 6 (nx tl tp (nx tl tp (nx tl tp a + 1) + 1))).1)
          have w2 := nx_le (tp := tp) h3.2.1
          split
          next => exact ⟨by dsimp only; omega, w2, fun c hc => by cases hc; exact ⟨by dsimp only; omega, fun o => by rw [cly_len, if_pos rfl]; dsimp only; omega⟩⟩
          next =>
            have h5 := bgn_pr (tp := tp) (a := nx tl tp (nx tl tp (nx tl tp a + 1) + 1)) h3.2.1 h4.1
            cases hr : (bgn tl tp (smP tl tp 6 (nx tl tp (nx tl tp (nx tl tp a + 1) + 1))).1 ts).2 with
            | none => rw [bdc_n hr]; exact ⟨by dsimp only; omega, h5.2.1, fun c h => nomatch h⟩
            | some vs =>
              rw [bdc_s hr]
              have h6 := h5.2.2 vs hr
              have h7 := csq_pr (tp := tp) (ts := vs) h5.2.1
              refine ⟨by omega, h7.2.1, fun c hc => ?_⟩
              have h8 := h7.2.2 c hc
              refine ⟨by omega, fun o => ?_⟩
              rw [cly_len, h8.1]
              have : vs ≠ [] := fun z => by rw [z] at h6; simp at h6
              rw [if_neg this]
              omega
    next => exact ⟨by dsimp only; omega, y2, fun c h => nomatch h⟩
  next => exact ⟨x1, x2, fun c h => nomatch h⟩
def MCQ (tl : Nat) (tp : Nat → Nat) (r : Nat × Option (Tks × Tks)) (l : List Int32) (h : am_H) (w : Option Value) (h2 : am_H) : Prop := Fx [7] [(6, 2), (1, 2)] h h2 ∧ match r.2 with
  | none => w = some (.int (nI 0)) ∧ TA h2 tl tp r.1
  | some c => w = some (.int (nI 1)) ∧ TA h2 tl tp r.1 ∧ WR h2 (l ++ cly l.length c)
theorem MCQ.int {tl : Nat} {tp : Nat → Nat} {r : Nat × Option (Tks × Tks)} {l : List Int32} {h h2 : am_H} {w : Option Value} (m : MCQ tl tp r l h w h2) : (w = some (.int (nI 0)) ∧ r.2 = none) ∨ (w = some (.int (nI 1)) ∧ r.2 ≠ none) := by
  unfold MCQ at m
  cases hr : r.2 with
  | none => simp only [hr] at m; exact Or.inl ⟨m.2.1, rfl⟩
  | some c => simp only [hr] at m; exact Or.inr ⟨m.2.1, fun z => nomatch z⟩
theorem MCQ.tr {tl : Nat} {tp : Nat → Nat} {r : Nat × Option (Tks × Tks)} {l : List Int32} {h h1 h2 : am_H} {w : Option Value} (a : Fx [7] [(6, 2), (1, 2)] h h1) (m : MCQ tl tp r l h1 w h2) : MCQ tl tp r l h w h2 := ⟨a.tr m.1, m.2⟩
theorem c_sum6 {tl : Nat} {tp : Nat → Nat} : SC tl tp m_X4_readSum 23 [.ref 6, .int (nI 0)] (smP tl tp 6) := c_sum 6 (by omega)
theorem c_unit6 {tl : Nat} {tp : Nat → Nat} : SC2 tl tp m_X4_readUnit 25 0 (unP tl tp 6) := c_unit 6 (by omega)
theorem c_truth6 {tl : Nat} {tp : Nat → Nat} : SC2 tl tp m_X4_readTruth 26 0 (chs tl tp opA (unP tl tp 6)) := c_readTruth c_unit6 (unP_pr 6) (by omega)
theorem c_cond6 {tl : Nat} {tp : Nat → Nat} : SC2 tl tp m_X4_readCondition 27 0 (cndW tl tp (unP tl tp 6)) := c_readCondition c_truth6 (chs_pr opA_0 (unP_pr 6)) (by omega)
theorem c_bgn6 {tl : Nat} {tp : Nat → Nat} {h : am_H} {b : Nat} {l : List Int32} {ts : Tks} (hW : Wd h) (hA : TA h tl tp b) (hR : WR h (l ++ ts.map cs)) (hl : (l ++ ts.map cs).length ≤ b) : am_D 27 m_X4_readCondition [.ref 6, .int (nI 0), .int (nI 1)] h (PQ tl tp (bgn tl tp b ts) l h) := by
  have htl := hA.1.2.1
  have h1 := rlt_pr (tp := tp) (smP_pr (tp := tp) 6) hA.2.2 (a := l.length) (ts := ts) (by simp only [List.length_append, List.length_map] at hl; exact hl)
  have k1 := c_readUnit1 (D := 25) c_sum6 (smP_pr 6) (by omega) (by omega) hW hA hR hl
  have k2 := c_readTruth_g c_unit6 (unP_pr 6) (by omega) k1 hW htl (fun us hq => (h1.2.2 us hq).1)
  refine c_readCondition_g c_truth6 (chs_pr opA_0 (unP_pr 6)) (by omega) k2 hW htl (fun us hq => ?_)
  cases hr : (rlt tl tp (smP tl tp 6) b ts).2 with
  | none => rw [bd_n hr] at hq; cases hq
  | some vs =>
    rw [bd_s hr] at hq ⊢
    have h2 := h1.2.2 vs hr
    exact ((chn_pr (tp := tp) opA_0 (unP_pr (tp := tp) 6) 161 _ vs l.length h1.2.1 h2.1 h2.2).2.2 us hq).1
set_option maxHeartbeats 2000000 in
theorem c_readConsequence {tl : Nat} {tp : Nat → Nat} {h : am_H} {b : Nat} {l : List Int32} {ts : Tks} (hW : Wd h) (hA : TA h tl tp b) (hR : WR h (l ++ ts.map cs)) (hl : (l ++ ts.map cs).length + 2 ≤ b) (h0 : 0 < ts.length) : am_D 24 m_X4_readConsequence [.ref 6] h (MCQ tl tp (csq tl tp b ts) l h) := by
  have hx1 := nx_ge (tl := tl) (tp := tp) (a := b)
  have hx2 := nx_le (tp := tp) hA.2.2
  have htl := hA.1.2.1
  unfold csq
  by_cases e : sgn tl tp (nx tl tp b) = some 63
  · rw [if_pos e]
    have hlt := (sgn_lt e).1
    have hpi := smP_pr (tp := tp) (tl := tl) 6 (nx tl tp b + 1) (by omega)
    cases hq : (smP tl tp 6 (nx tl tp b + 1)).2 with
    | none =>
      rw [bdc_n hq]
      refine Eq_aln dX4_readConsequence_0 rfl ?_
      refine Eq_getR dX4_readConsequence_1 fl_X4_9 (ws_6 hW) rfl (wp_6_0 hW) ?_
      refine Eq_bp (v := nI 63) dX4_readConsequence_4 rfl ?_
      refine Eq_W1 (N := m_X9_pass) dX4_readConsequence_6 lk_X4_32 mV_X9_pass (c_pass hW hA (c := 63) (by omega)) (by decide) (ws_1 hW) rfl (by decide) (Nat.le_of_ble_eq_true rfl) (Nat.le_of_ble_eq_true rfl) (fun vq hq1 hq2 => ?_)
      rw [if_pos e] at hq2
      obtain ⟨rfl, hf1, hA1⟩ := hq2
      have hW1 := hf1.Wd hW
      have hR1 := hR.fx hf1 (by decide)
      refine Et_if_ne 14 dX4_readConsequence_9 rfl (by exact zf1) ?_
      refine Eq_aln dX4_readConsequence_14 rfl ?_
      refine Eq_bp (v := -63) dX4_readConsequence_15 rfl ?_
      refine Eq_W1 (N := m_X4_write) dX4_readConsequence_17 lk_X4_54 mV_X4_write (c_write hW1 hR1 (by omega)) (by decide) (ws_6 hW1) rfl (by decide) (Nat.le_of_ble_eq_true rfl) (Nat.le_of_ble_eq_true rfl) (fun vq hq1 hq2 => ?_)
      obtain ⟨rfl, hf2, hR2⟩ := hq2
      have hW2 := hf2.Wd hW1
      have hA2 := hA1.fx hf2 (by decide)
      refine Eq_aln dX4_readConsequence_20 rfl ?_
      refine Eq_getI dX4_readConsequence_21 fl_X4_21 (ws_6 hW2) rfl hR2.1 ?_
      refine Eq_isn dX4_readConsequence_24 (by decide) ?_
      refine Eam_nl (pc' := 25) (l' := [_, _]) rfl rfl ?_
      refine Eq_aln dX4_readConsequence_25 rfl ?_
      refine Eq_ic (v := nI 0) dX4_readConsequence_26 rfl ?_
      refine Eq_W1 (N := m_X4_write) dX4_readConsequence_27 lk_X4_54 mV_X4_write (c_write hW2 hR2 (by simp only [List.length_append, List.length_cons, List.length_nil, List.length_map] at hl ⊢; omega)) (by decide) (ws_6 hW2) rfl (by decide) (Nat.le_of_ble_eq_true rfl) (Nat.le_of_ble_eq_true rfl) (fun vq hq1 hq2 => ?_)
      obtain ⟨rfl, hf3, hR3⟩ := hq2
      have hW3 := hf3.Wd hW2
      have hA3 := hA2.fx hf3 (by decide)
      have hff := (hf1.mono (A' := [7]) (B' := [(6, 2), (1, 2)]) (by decide) (by decide)).tr ((hf2.mono (by decide) (by decide)).tr (hf3.mono (by decide) (by decide)))
      refine Eq_aln dX4_readConsequence_30 rfl ?_
      refine Eq_ic (v := nI 0) dX4_readConsequence_31 rfl ?_
      refine Eq_W1 (N := m_X4_readSum) dX4_readConsequence_32 lk_X4_48 mV_X4_readSum (c_sum6 _ _ _ hW3 hA3 hR3 (by simp only [List.length_append, List.length_cons, List.length_nil, List.length_map] at hl ⊢; omega)) (by decide) (ws_6 hW3) rfl (by decide) (Nat.le_of_ble_eq_true rfl) (Nat.le_of_ble_eq_true rfl) (fun vq hq1 hq2 => ?_)
      obtain ⟨rfl, hf4, hA4⟩ := hq2.n hq
      have hW4 := hf4.Wd hW3
      refine Ef_if_ne dX4_readConsequence_35 (tgt := 40) rfl (by rfl) ?_
      refine Eq_ic (v := nI 0) dX4_readConsequence_38 rfl ?_
      first | refine Eq_zrn dX4_readConsequence_39 rfl (by first | omega | exact b2_le) ?_ | refine Eq_zr dX4_readConsequence_39 rfl (by first | exact Or.inl rfl | exact Or.inr rfl | assumption) ?_
      exact ⟨hff.tr hf4, rfl, hA4⟩
    | some us =>
      rw [bdc_s hq]
      have hul := hpi.2.2 us hq
      have hts : ts ≠ [] := fun z => by rw [z] at h0; simp at h0
      have hlj : (l ++ ts.map cs ++ [-63]).length < 160 := by simp only [List.length_append, List.length_cons, List.length_nil] at hl ⊢; omega
      refine Eq_aln dX4_readConsequence_0 rfl ?_
      refine Eq_getR dX4_readConsequence_1 fl_X4_9 (ws_6 hW) rfl (wp_6_0 hW) ?_
      refine Eq_bp (v := nI 63) dX4_readConsequence_4 rfl ?_
      refine Eq_W1 (N := m_X9_pass) dX4_readConsequence_6 lk_X4_32 mV_X9_pass (c_pass hW hA (c := 63) (by omega)) (by decide) (ws_1 hW) rfl (by decide) (Nat.le_of_ble_eq_true rfl) (Nat.le_of_ble_eq_true rfl) (fun vq hq1 hq2 => ?_)
      rw [if_pos e] at hq2
      obtain ⟨rfl, hf1, hA1⟩ := hq2
      have hW1 := hf1.Wd hW
      have hR1 := hR.fx hf1 (by decide)
      refine Et_if_ne 14 dX4_readConsequence_9 rfl (by exact zf1) ?_
      refine Eq_aln dX4_readConsequence_14 rfl ?_
      refine Eq_bp (v := -63) dX4_readConsequence_15 rfl ?_
      refine Eq_W1 (N := m_X4_write) dX4_readConsequence_17 lk_X4_54 mV_X4_write (c_write hW1 hR1 (by omega)) (by decide) (ws_6 hW1) rfl (by decide) (Nat.le_of_ble_eq_true rfl) (Nat.le_of_ble_eq_true rfl) (fun vq hq1 hq2 => ?_)
      obtain ⟨rfl, hf2, hR2⟩ := hq2
      have hW2 := hf2.Wd hW1
      have hA2 := hA1.fx hf2 (by decide)
      refine Eq_aln dX4_readConsequence_20 rfl ?_
      refine Eq_getI dX4_readConsequence_21 fl_X4_21 (ws_6 hW2) rfl (by first | exact hR2.1 | exact hR5.1) ?_
      refine Eq_isn dX4_readConsequence_24 (by decide) ?_
      refine Eam_nl (pc' := 25) (l' := [_, _]) rfl rfl ?_
      refine Eq_aln dX4_readConsequence_25 rfl ?_
      refine Eq_ic (v := nI 0) dX4_readConsequence_26 rfl ?_
      refine Eq_W1 (N := m_X4_write) dX4_readConsequence_27 lk_X4_54 mV_X4_write (c_write hW2 hR2 (by simp only [List.length_append, List.length_cons, List.length_nil, List.length_map] at hl ⊢; omega)) (by decide) (ws_6 hW2) rfl (by decide) (Nat.le_of_ble_eq_true rfl) (Nat.le_of_ble_eq_true rfl) (fun vq hq1 hq2 => ?_)
      obtain ⟨rfl, hf3, hR3⟩ := hq2
      have hW3 := hf3.Wd hW2
      have hA3 := hA2.fx hf3 (by decide)
      have hff := (hf1.mono (A' := [7]) (B' := [(6, 2), (1, 2)]) (by decide) (by decide)).tr ((hf2.mono (by decide) (by decide)).tr (hf3.mono (by decide) (by decide)))
      refine Eq_aln dX4_readConsequence_30 rfl ?_
      refine Eq_ic (v := nI 0) dX4_readConsequence_31 rfl ?_
      refine Eq_W1 (N := m_X4_readSum) dX4_readConsequence_32 lk_X4_48 mV_X4_readSum (c_sum6 _ _ _ hW3 hA3 hR3 (by simp only [List.length_append, List.length_cons, List.length_nil, List.length_map] at hl ⊢; omega)) (by decide) (ws_6 hW3) rfl (by decide) (Nat.le_of_ble_eq_true rfl) (Nat.le_of_ble_eq_true rfl) (fun vq hq1 hq2 => ?_)
      obtain ⟨rfl, hf4, hA4, hR4⟩ := hq2.s hq
      have hW4 := hf4.Wd hW3
      refine Et_if_ne 40 dX4_readConsequence_35 rfl (by exact zf1) ?_
      refine Eq_aln dX4_readConsequence_40 rfl ?_
      refine Eq_bp (v := -59) dX4_readConsequence_41 rfl ?_
      refine Eq_W1 (N := m_X4_write) dX4_readConsequence_43 lk_X4_54 mV_X4_write (c_write hW4 hR4 (by simp only [List.length_append, List.length_cons, List.length_nil, List.length_map] at hl ⊢; omega)) (by decide) (ws_6 hW4) rfl (by decide) (Nat.le_of_ble_eq_true rfl) (Nat.le_of_ble_eq_true rfl) (fun vq hq1 hq2 => ?_)
      obtain ⟨rfl, hf5, hR5⟩ := hq2
      have hW5 := hf5.Wd hW4
      have hR5b : WR hq1 (l ++ ts.map cs ++ [-63] ++ [nI 0] ++ (us.map cs ++ [-59])) := by (rw [← List.append_assoc]; exact hR5)
      refine Eq_iln dX4_readConsequence_46 rfl ?_
      refine Eq_aln dX4_readConsequence_47 rfl ?_
      refine Eq_getR dX4_readConsequence_48 fl_X4_17 (ws_6 hW5) rfl (wp_6_1 hW5) ?_
      refine Eam_x_alen dX4_readConsequence_51 (ws_7 hW5) (by decide) ?_
      refine Ef_ic_ge dX4_readConsequence_52 (tgt := 65) rfl (by exact nI_ge (b := 160) (by omega) (by omega)) ?_
      refine Eq_aln dX4_readConsequence_55 rfl ?_
      refine Eq_getR dX4_readConsequence_56 fl_X4_17 (ws_6 hW5) rfl (wp_6_1 hW5) ?_
      refine Eq_iln dX4_readConsequence_59 rfl ?_
      refine Eq_aln dX4_readConsequence_60 rfl ?_
      refine Eq_getI dX4_readConsequence_61 fl_X4_21 (ws_6 hW5) rfl (by first | exact hR2.1 | exact hR5.1) ?_
      refine Eq_ast dX4_readConsequence_64 (ws_7 hW5) (by omega) (by omega) ?_
      refine Eq_ic (v := nI 1) dX4_readConsequence_65 rfl ?_
      first | refine Eq_zrn dX4_readConsequence_66 rfl (by first | omega | exact b2_le) ?_ | refine Eq_zr dX4_readConsequence_66 rfl (by first | exact Or.inl rfl | exact Or.inr rfl | assumption) ?_
      have hR6 := hR5b.set (nI (l ++ ts.map cs ++ [-63] ++ [nI 0] ++ us.map cs ++ [-59]).length)
      refine ⟨hff.tr (hf4.tr ((hf5.mono (by decide) (by decide)).tr (Fx.wI (Or.inl (by decide))))), rfl, (hA4.fx hf5 (by decide)).fx (Fx.wI (A := [7]) (B := []) (Or.inl (by decide))) (by decide), ?_⟩
      have he : l ++ cly l.length (ts, us) = l ++ ts.map cs ++ [-63] ++ [nI (l ++ ts.map cs ++ [-63] ++ [nI 0] ++ us.map cs ++ [-59]).length] ++ (us.map cs ++ [-59]) := by
        unfold cly
        rw [if_neg hts]
        simp only [List.length_append, List.length_cons, List.length_nil, List.length_map, List.append_assoc]
        rw [show l.length + ts.length + us.length + 3 = l.length + (ts.length + (0 + 1 + (0 + 1 + (us.length + (0 + 1))))) by omega]
      rw [he]
      exact hR6
  · rw [if_neg e]
    refine Eq_aln dX4_readConsequence_0 rfl ?_
    refine Eq_getR dX4_readConsequence_1 fl_X4_9 (ws_6 hW) rfl (wp_6_0 hW) ?_
    refine Eq_bp (v := nI 63) dX4_readConsequence_4 rfl ?_
    refine Eq_W1 (N := m_X9_pass) dX4_readConsequence_6 lk_X4_32 mV_X9_pass (c_pass hW hA (c := 63) (by omega)) (by decide) (ws_1 hW) rfl (by decide) (Nat.le_of_ble_eq_true rfl) (Nat.le_of_ble_eq_true rfl) (fun vq hq1 hq2 => ?_)
    rw [if_neg e] at hq2
    obtain ⟨rfl, hf1, hA1⟩ := hq2
    have hW1 := hf1.Wd hW
    have hR1 := hR.fx hf1 (by decide)
    refine Ef_if_ne dX4_readConsequence_9 (tgt := 14) rfl (by rfl) ?_
    refine Eq_ic (v := nI 0) dX4_readConsequence_12 rfl ?_
    first | refine Eq_zrn dX4_readConsequence_13 rfl (by first | omega | exact b2_le) ?_ | refine Eq_zr dX4_readConsequence_13 rfl (by first | exact Or.inl rfl | exact Or.inr rfl | assumption) ?_
    exact ⟨hf1.mono (by decide) (by decide), rfl, hA1⟩
theorem c_bgn6x {tl : Nat} {tp : Nat → Nat} {h : am_H} {b : Nat} {l : List Int32} {ts : Tks} (hW : Wd h) (hA : TA h tl tp (nx tl tp b)) (hR : WR h (l ++ ts.map cs)) (hl : (l ++ ts.map cs).length ≤ nx tl tp b) : am_D 27 m_X4_readCondition [.ref 6, .int (nI 0), .int (nI 1)] h (PQ tl tp (bgn tl tp b ts) l h) := by
  rw [← bgn_nx]
  exact c_bgn6 hW hA hR hl
theorem MCQ.n {tl : Nat} {tp : Nat → Nat} {r : Nat × Option (Tks × Tks)} {l : List Int32} {h h2 : am_H} {w : Option Value} (m : MCQ tl tp r l h w h2) (hr : r.2 = none) : w = some (.int (nI 0)) ∧ Fx [7] [(6, 2), (1, 2)] h h2 ∧ TA h2 tl tp r.1 := by
  unfold MCQ at m
  simp only [hr] at m
  exact ⟨m.2.1, m.1, m.2.2⟩
theorem MCQ.s {tl : Nat} {tp : Nat → Nat} {r : Nat × Option (Tks × Tks)} {l : List Int32} {h h2 : am_H} {w : Option Value} {c : Tks × Tks} (m : MCQ tl tp r l h w h2) (hr : r.2 = some c) : w = some (.int (nI 1)) ∧ Fx [7] [(6, 2), (1, 2)] h h2 ∧ TA h2 tl tp r.1 ∧ WR h2 (l ++ cly l.length c) := by
  unfold MCQ at m
  simp only [hr] at m
  exact ⟨m.2.1, m.1, m.2.2⟩
set_option maxHeartbeats 2000000 in
theorem c_mclause {tl : Nat} {tp : Nat → Nat} {h : am_H} {a : Nat} {l : List Int32} (hW : Wd h) (hA : TA h tl tp a) (hR : WR h l) (hl : l.length ≤ a) : am_D 28 m_X4_readClause [.ref 6] h (MCQ tl tp (mcl tl tp a) l h) := by
  have htl := hA.1.2.1
  have x1 := nx_ge (tl := tl) (tp := tp) (a := a)
  have x2 := nx_le (tp := tp) hA.2.2
  unfold mcl
  by_cases e1 : sgn tl tp (nx tl tp a) = some 121
  · rw [if_pos e1]
    have l1 := (sgn_lt e1).1
    have y1 := nx_ge (tl := tl) (tp := tp) (a := nx tl tp a + 1)
    have y2 := nx_le (tp := tp) (show nx tl tp a + 1 ≤ tl by omega)
    by_cases e2 : sgn tl tp (nx tl tp (nx tl tp a + 1)) = some 58
    · rw [if_pos e2]
      have l2 := (sgn_lt e2).1
      have z1 := nx_ge (tl := tl) (tp := tp) (a := nx tl tp (nx tl tp a + 1) + 1)
      have z2 := nx_le (tp := tp) (show nx tl tp (nx tl tp a + 1) + 1 ≤ tl by omega)
      have h2 := sgn256 hA (nx tl tp (nx tl tp (nx tl tp a + 1) + 1))
      by_cases e33 : sgn tl tp (nx tl tp (nx tl tp (nx tl tp a + 1) + 1)) = some 33
      · rw [if_pos (Or.inl e33)]
        have h3 := cndW_pr (tp := tp) (unP_pr (tp := tp) (tl := tl) 6) (nx tl tp (nx tl tp (nx tl tp a + 1) + 1)) z2
        cases hq : (cndW tl tp (unP tl tp 6) (nx tl tp (nx tl tp (nx tl tp a + 1) + 1))).2 with
        | none =>
          rw [bdc_n hq]
          refine Eq_aln dX4_readClause_0 rfl ?_
          refine Eq_getR dX4_readClause_1 fl_X4_9 (ws_6 hW) rfl (wp_6_0 hW) ?_
          refine Eq_bp (v := nI 121) dX4_readClause_4 rfl ?_
          refine Eq_W1 (N := m_X9_pass) dX4_readClause_6 lk_X4_32 mV_X9_pass (c_pass hW hA (c := 121) (by omega)) (by decide) (ws_1 hW) rfl (by decide) (Nat.le_of_ble_eq_true rfl) (Nat.le_of_ble_eq_true rfl) (fun vq hq1 hq2 => ?_)
          rw [if_pos e1] at hq2
          obtain ⟨rfl, hf1, hA1⟩ := hq2
          have hW1 := hf1.Wd hW
          have hR1 := hR.fx hf1 (by decide)
          refine Ef_if_eq dX4_readClause_9 (tgt := 24) rfl (by exact zf1) ?_
          refine Eq_aln dX4_readClause_12 rfl ?_
          refine Eq_getR dX4_readClause_13 fl_X4_9 (ws_6 hW1) rfl (wp_6_0 hW1) ?_
          refine Eq_bp (v := nI 58) dX4_readClause_16 rfl ?_
          refine Eq_W1 (N := m_X9_pass) dX4_readClause_18 lk_X4_32 mV_X9_pass (c_pass hW1 hA1 (c := 58) (by omega)) (by decide) (ws_1 hW1) rfl (by decide) (Nat.le_of_ble_eq_true rfl) (Nat.le_of_ble_eq_true rfl) (fun vq hq1 hq2 => ?_)
          rw [if_pos e2] at hq2
          obtain ⟨rfl, hf2, hA2⟩ := hq2
          have hW2 := hf2.Wd hW1
          have hR2 := hR1.fx hf2 (by decide)
          refine Et_if_ne 26 dX4_readClause_21 rfl (by exact zf1) ?_
          refine Eq_aln dX4_readClause_26 rfl ?_
          refine Eq_getR dX4_readClause_27 fl_X4_9 (ws_6 hW2) rfl (wp_6_0 hW2) ?_
          refine Eq_W0 (N := m_X9_next) dX4_readClause_30 lk_X4_36 mV_X9_next (c_next hW2 hA2) (by decide) (ws_1 hW2) rfl (by decide) (Nat.le_of_ble_eq_true rfl) (Nat.le_of_ble_eq_true rfl) (fun vq hq1 hq2 => ?_)
          obtain ⟨rfl, hf3, hA3⟩ := hq2
          have hW3 := hf3.Wd hW2
          have hR3 := hR2.fx hf3 (by decide)
          have hff := (hf1.mono (A' := [7]) (B' := [(6, 2), (1, 2)]) (by decide) (by decide)).tr ((hf2.mono (by decide) (by decide)).tr (hf3.mono (by decide) (by decide)))
          refine Eq_isn dX4_readClause_33 (by decide) ?_
          refine Eam_nl (pc' := 34) (l' := [_, _, _]) rfl rfl ?_
          refine Eq_iln dX4_readClause_34 rfl ?_
          refine Eq_bp (v := nI 33) dX4_readClause_35 rfl ?_
          refine Et_ic_eq 50 dX4_readClause_37 rfl (by rw [e33]; rfl) ?_
          refine Eq_ic (v := nI 0) dX4_readClause_50 rfl ?_
          refine Eq_isn dX4_readClause_51 (by decide) ?_
          refine Eam_nl (pc' := 52) (l' := [_, _, _]) rfl rfl ?_
          refine Eq_iln dX4_readClause_52 rfl ?_
          refine Et_if_eq 87 dX4_readClause_53 rfl (by rfl) ?_
          refine Eq_aln dX4_readClause_87 rfl ?_
          refine Eq_ic (v := nI 0) dX4_readClause_88 rfl ?_
          refine Eq_iln dX4_readClause_89 rfl ?_
          refine Eq_W2 (N := m_X4_readCondition) dX4_readClause_90 lk_X4_58 mV_X4_readCondition (c_cond6 _ _ _ hW3 hA3 hR3 (by omega)) (by decide) (ws_6 hW3) rfl (by decide) (Nat.le_of_ble_eq_true rfl) (Nat.le_of_ble_eq_true rfl) (fun vq hq1 hq2 => ?_)
          obtain ⟨rfl, hf5, hA5⟩ := hq2.n hq
          have hW5 := hf5.Wd hW3
          have hff5 := hff.tr hf5
          refine Et_if_eq 107 dX4_readClause_93 rfl (by rfl) ?_
          refine Eq_ic (v := nI 0) dX4_readClause_107 rfl ?_
          first | refine Eq_zrn dX4_readClause_108 rfl (by first | omega | exact b2_le) ?_ | refine Eq_zr dX4_readClause_108 rfl (by first | exact Or.inl rfl | exact Or.inr rfl | assumption) ?_
          exact ⟨hff5, rfl, hA5⟩
        | some ts =>
          rw [bdc_s hq]
          have h4 := h3.2.2 ts hq
          have hcq := csq_pr (tp := tp) (tl := tl) (ts := ts) h3.2.1
          cases hr : (csq tl tp (cndW tl tp (unP tl tp 6) (nx tl tp (nx tl tp (nx tl tp a + 1) + 1))).1 ts).2 with
          | none =>
            refine Eq_aln dX4_readClause_0 rfl ?_
            refine Eq_getR dX4_readClause_1 fl_X4_9 (ws_6 hW) rfl (wp_6_0 hW) ?_
            refine Eq_bp (v := nI 121) dX4_readClause_4 rfl ?_
            refine Eq_W1 (N := m_X9_pass) dX4_readClause_6 lk_X4_32 mV_X9_pass (c_pass hW hA (c := 121) (by omega)) (by decide) (ws_1 hW) rfl (by decide) (Nat.le_of_ble_eq_true rfl) (Nat.le_of_ble_eq_true rfl) (fun vq hq1 hq2 => ?_)
            rw [if_pos e1] at hq2
            obtain ⟨rfl, hf1, hA1⟩ := hq2
            have hW1 := hf1.Wd hW
            have hR1 := hR.fx hf1 (by decide)
            refine Ef_if_eq dX4_readClause_9 (tgt := 24) rfl (by exact zf1) ?_
            refine Eq_aln dX4_readClause_12 rfl ?_
            refine Eq_getR dX4_readClause_13 fl_X4_9 (ws_6 hW1) rfl (wp_6_0 hW1) ?_
            refine Eq_bp (v := nI 58) dX4_readClause_16 rfl ?_
            refine Eq_W1 (N := m_X9_pass) dX4_readClause_18 lk_X4_32 mV_X9_pass (c_pass hW1 hA1 (c := 58) (by omega)) (by decide) (ws_1 hW1) rfl (by decide) (Nat.le_of_ble_eq_true rfl) (Nat.le_of_ble_eq_true rfl) (fun vq hq1 hq2 => ?_)
            rw [if_pos e2] at hq2
            obtain ⟨rfl, hf2, hA2⟩ := hq2
            have hW2 := hf2.Wd hW1
            have hR2 := hR1.fx hf2 (by decide)
            refine Et_if_ne 26 dX4_readClause_21 rfl (by exact zf1) ?_
            refine Eq_aln dX4_readClause_26 rfl ?_
            refine Eq_getR dX4_readClause_27 fl_X4_9 (ws_6 hW2) rfl (wp_6_0 hW2) ?_
            refine Eq_W0 (N := m_X9_next) dX4_readClause_30 lk_X4_36 mV_X9_next (c_next hW2 hA2) (by decide) (ws_1 hW2) rfl (by decide) (Nat.le_of_ble_eq_true rfl) (Nat.le_of_ble_eq_true rfl) (fun vq hq1 hq2 => ?_)
            obtain ⟨rfl, hf3, hA3⟩ := hq2
            have hW3 := hf3.Wd hW2
            have hR3 := hR2.fx hf3 (by decide)
            have hff := (hf1.mono (A' := [7]) (B' := [(6, 2), (1, 2)]) (by decide) (by decide)).tr ((hf2.mono (by decide) (by decide)).tr (hf3.mono (by decide) (by decide)))
            refine Eq_isn dX4_readClause_33 (by decide) ?_
            refine Eam_nl (pc' := 34) (l' := [_, _, _]) rfl rfl ?_
            refine Eq_iln dX4_readClause_34 rfl ?_
            refine Eq_bp (v := nI 33) dX4_readClause_35 rfl ?_
            refine Et_ic_eq 50 dX4_readClause_37 rfl (by rw [e33]; rfl) ?_
            refine Eq_ic (v := nI 0) dX4_readClause_50 rfl ?_
            refine Eq_isn dX4_readClause_51 (by decide) ?_
            refine Eam_nl (pc' := 52) (l' := [_, _, _]) rfl rfl ?_
            refine Eq_iln dX4_readClause_52 rfl ?_
            refine Et_if_eq 87 dX4_readClause_53 rfl (by rfl) ?_
            refine Eq_aln dX4_readClause_87 rfl ?_
            refine Eq_ic (v := nI 0) dX4_readClause_88 rfl ?_
            refine Eq_iln dX4_readClause_89 rfl ?_
            refine Eq_W2 (N := m_X4_readCondition) dX4_readClause_90 lk_X4_58 mV_X4_readCondition (c_cond6 _ _ _ hW3 hA3 hR3 (by omega)) (by decide) (ws_6 hW3) rfl (by decide) (Nat.le_of_ble_eq_true rfl) (Nat.le_of_ble_eq_true rfl) (fun vq hq1 hq2 => ?_)
            obtain ⟨rfl, hf5, hA5, hR5⟩ := hq2.s hq
            have hW5 := hf5.Wd hW3
            have hff5 := hff.tr hf5
            refine Ef_if_eq dX4_readClause_93 (tgt := 107) rfl (by exact zf1) ?_
            refine Eq_aln dX4_readClause_96 rfl ?_
            refine Eq_W0 (N := m_X4_readConsequence) dX4_readClause_97 lk_X4_62 mV_X4_readConsequence (c_readConsequence hW5 hA5 hR5 (by simp only [List.length_append, List.length_map]; omega) (by omega)) (by decide) (ws_6 hW5) rfl (by decide) (Nat.le_of_ble_eq_true rfl) (Nat.le_of_ble_eq_true rfl) (fun vq hq1 hq2 => ?_)
            have hq3 := hq2.n hr
            obtain ⟨rfl, hf6, hA6⟩ := hq3
            refine Et_if_eq 107 dX4_readClause_100 rfl (by rfl) ?_
            refine Eq_ic (v := nI 0) dX4_readClause_107 rfl ?_
            first | refine Eq_zrn dX4_readClause_108 rfl (by first | omega | exact b2_le) ?_ | refine Eq_zr dX4_readClause_108 rfl (by first | exact Or.inl rfl | exact Or.inr rfl | assumption) ?_
            exact hq2.tr hff5
          | some c =>
            refine Eq_aln dX4_readClause_0 rfl ?_
            refine Eq_getR dX4_readClause_1 fl_X4_9 (ws_6 hW) rfl (wp_6_0 hW) ?_
            refine Eq_bp (v := nI 121) dX4_readClause_4 rfl ?_
            refine Eq_W1 (N := m_X9_pass) dX4_readClause_6 lk_X4_32 mV_X9_pass (c_pass hW hA (c := 121) (by omega)) (by decide) (ws_1 hW) rfl (by decide) (Nat.le_of_ble_eq_true rfl) (Nat.le_of_ble_eq_true rfl) (fun vq hq1 hq2 => ?_)
            rw [if_pos e1] at hq2
            obtain ⟨rfl, hf1, hA1⟩ := hq2
            have hW1 := hf1.Wd hW
            have hR1 := hR.fx hf1 (by decide)
            refine Ef_if_eq dX4_readClause_9 (tgt := 24) rfl (by exact zf1) ?_
            refine Eq_aln dX4_readClause_12 rfl ?_
            refine Eq_getR dX4_readClause_13 fl_X4_9 (ws_6 hW1) rfl (wp_6_0 hW1) ?_
            refine Eq_bp (v := nI 58) dX4_readClause_16 rfl ?_
            refine Eq_W1 (N := m_X9_pass) dX4_readClause_18 lk_X4_32 mV_X9_pass (c_pass hW1 hA1 (c := 58) (by omega)) (by decide) (ws_1 hW1) rfl (by decide) (Nat.le_of_ble_eq_true rfl) (Nat.le_of_ble_eq_true rfl) (fun vq hq1 hq2 => ?_)
            rw [if_pos e2] at hq2
            obtain ⟨rfl, hf2, hA2⟩ := hq2
            have hW2 := hf2.Wd hW1
            have hR2 := hR1.fx hf2 (by decide)
            refine Et_if_ne 26 dX4_readClause_21 rfl (by exact zf1) ?_
            refine Eq_aln dX4_readClause_26 rfl ?_
            refine Eq_getR dX4_readClause_27 fl_X4_9 (ws_6 hW2) rfl (wp_6_0 hW2) ?_
            refine Eq_W0 (N := m_X9_next) dX4_readClause_30 lk_X4_36 mV_X9_next (c_next hW2 hA2) (by decide) (ws_1 hW2) rfl (by decide) (Nat.le_of_ble_eq_true rfl) (Nat.le_of_ble_eq_true rfl) (fun vq hq1 hq2 => ?_)
            obtain ⟨rfl, hf3, hA3⟩ := hq2
            have hW3 := hf3.Wd hW2
            have hR3 := hR2.fx hf3 (by decide)
            have hff := (hf1.mono (A' := [7]) (B' := [(6, 2), (1, 2)]) (by decide) (by decide)).tr ((hf2.mono (by decide) (by decide)).tr (hf3.mono (by decide) (by decide)))
            refine Eq_isn dX4_readClause_33 (by decide) ?_
            refine Eam_nl (pc' := 34) (l' := [_, _, _]) rfl rfl ?_
            refine Eq_iln dX4_readClause_34 rfl ?_
            refine Eq_bp (v := nI 33) dX4_readClause_35 rfl ?_
            refine Et_ic_eq 50 dX4_readClause_37 rfl (by rw [e33]; rfl) ?_
            refine Eq_ic (v := nI 0) dX4_readClause_50 rfl ?_
            refine Eq_isn dX4_readClause_51 (by decide) ?_
            refine Eam_nl (pc' := 52) (l' := [_, _, _]) rfl rfl ?_
            refine Eq_iln dX4_readClause_52 rfl ?_
            refine Et_if_eq 87 dX4_readClause_53 rfl (by rfl) ?_
            refine Eq_aln dX4_readClause_87 rfl ?_
            refine Eq_ic (v := nI 0) dX4_readClause_88 rfl ?_
            refine Eq_iln dX4_readClause_89 rfl ?_
            refine Eq_W2 (N := m_X4_readCondition) dX4_readClause_90 lk_X4_58 mV_X4_readCondition (c_cond6 _ _ _ hW3 hA3 hR3 (by omega)) (by decide) (ws_6 hW3) rfl (by decide) (Nat.le_of_ble_eq_true rfl) (Nat.le_of_ble_eq_true rfl) (fun vq hq1 hq2 => ?_)
            obtain ⟨rfl, hf5, hA5, hR5⟩ := hq2.s hq
            have hW5 := hf5.Wd hW3
            have hff5 := hff.tr hf5
            refine Ef_if_eq dX4_readClause_93 (tgt := 107) rfl (by exact zf1) ?_
            refine Eq_aln dX4_readClause_96 rfl ?_
            refine Eq_W0 (N := m_X4_readConsequence) dX4_readClause_97 lk_X4_62 mV_X4_readConsequence (c_readConsequence hW5 hA5 hR5 (by simp only [List.length_append, List.length_map]; omega) (by omega)) (by decide) (ws_6 hW5) rfl (by decide) (Nat.le_of_ble_eq_true rfl) (Nat.le_of_ble_eq_true rfl) (fun vq hq1 hq2 => ?_)
            have hq3 := hq2.s hr
            obtain ⟨rfl, hf6, hA6⟩ := hq3
            refine Ef_if_eq dX4_readClause_100 (tgt := 107) rfl (by exact zf1) ?_
            refine Eq_ic (v := nI 1) dX4_readClause_103 rfl ?_
            refine Eam_x_goto (tgt := 108) dX4_readClause_104 rfl ?_
            first | refine Eq_zrn dX4_readClause_108 rfl (by first | omega | exact b2_le) ?_ | refine Eq_zr dX4_readClause_108 rfl (by first | exact Or.inl rfl | exact Or.inr rfl | assumption) ?_
            exact hq2.tr hff5
      · by_cases e40 : sgn tl tp (nx tl tp (nx tl tp (nx tl tp a + 1) + 1)) = some 40
        · rw [if_pos (Or.inr e40)]
          have h3 := cndW_pr (tp := tp) (unP_pr (tp := tp) (tl := tl) 6) (nx tl tp (nx tl tp (nx tl tp a + 1) + 1)) z2
          cases hq : (cndW tl tp (unP tl tp 6) (nx tl tp (nx tl tp (nx tl tp a + 1) + 1))).2 with
          | none =>
            rw [bdc_n hq]
            refine Eq_aln dX4_readClause_0 rfl ?_
            refine Eq_getR dX4_readClause_1 fl_X4_9 (ws_6 hW) rfl (wp_6_0 hW) ?_
            refine Eq_bp (v := nI 121) dX4_readClause_4 rfl ?_
            refine Eq_W1 (N := m_X9_pass) dX4_readClause_6 lk_X4_32 mV_X9_pass (c_pass hW hA (c := 121) (by omega)) (by decide) (ws_1 hW) rfl (by decide) (Nat.le_of_ble_eq_true rfl) (Nat.le_of_ble_eq_true rfl) (fun vq hq1 hq2 => ?_)
            rw [if_pos e1] at hq2
            obtain ⟨rfl, hf1, hA1⟩ := hq2
            have hW1 := hf1.Wd hW
            have hR1 := hR.fx hf1 (by decide)
            refine Ef_if_eq dX4_readClause_9 (tgt := 24) rfl (by exact zf1) ?_
            refine Eq_aln dX4_readClause_12 rfl ?_
            refine Eq_getR dX4_readClause_13 fl_X4_9 (ws_6 hW1) rfl (wp_6_0 hW1) ?_
            refine Eq_bp (v := nI 58) dX4_readClause_16 rfl ?_
            refine Eq_W1 (N := m_X9_pass) dX4_readClause_18 lk_X4_32 mV_X9_pass (c_pass hW1 hA1 (c := 58) (by omega)) (by decide) (ws_1 hW1) rfl (by decide) (Nat.le_of_ble_eq_true rfl) (Nat.le_of_ble_eq_true rfl) (fun vq hq1 hq2 => ?_)
            rw [if_pos e2] at hq2
            obtain ⟨rfl, hf2, hA2⟩ := hq2
            have hW2 := hf2.Wd hW1
            have hR2 := hR1.fx hf2 (by decide)
            refine Et_if_ne 26 dX4_readClause_21 rfl (by exact zf1) ?_
            refine Eq_aln dX4_readClause_26 rfl ?_
            refine Eq_getR dX4_readClause_27 fl_X4_9 (ws_6 hW2) rfl (wp_6_0 hW2) ?_
            refine Eq_W0 (N := m_X9_next) dX4_readClause_30 lk_X4_36 mV_X9_next (c_next hW2 hA2) (by decide) (ws_1 hW2) rfl (by decide) (Nat.le_of_ble_eq_true rfl) (Nat.le_of_ble_eq_true rfl) (fun vq hq1 hq2 => ?_)
            obtain ⟨rfl, hf3, hA3⟩ := hq2
            have hW3 := hf3.Wd hW2
            have hR3 := hR2.fx hf3 (by decide)
            have hff := (hf1.mono (A' := [7]) (B' := [(6, 2), (1, 2)]) (by decide) (by decide)).tr ((hf2.mono (by decide) (by decide)).tr (hf3.mono (by decide) (by decide)))
            refine Eq_isn dX4_readClause_33 (by decide) ?_
            refine Eam_nl (pc' := 34) (l' := [_, _, _]) rfl rfl ?_
            refine Eq_iln dX4_readClause_34 rfl ?_
            refine Eq_bp (v := nI 33) dX4_readClause_35 rfl ?_
            refine Ef_ic_eq dX4_readClause_37 (tgt := 50) rfl (by exact fun z => e33 ((oNlt (fun k hk => by have := h2 k hk; omega) 33 (by omega)).mp z)) ?_
            refine Eq_iln dX4_readClause_40 rfl ?_
            refine Eq_bp (v := nI 40) dX4_readClause_41 rfl ?_
            refine Et_ic_eq 50 dX4_readClause_43 rfl (by rw [e40]; rfl) ?_
            refine Eq_ic (v := nI 0) dX4_readClause_50 rfl ?_
            refine Eq_isn dX4_readClause_51 (by decide) ?_
            refine Eam_nl (pc' := 52) (l' := [_, _, _]) rfl rfl ?_
            refine Eq_iln dX4_readClause_52 rfl ?_
            refine Et_if_eq 87 dX4_readClause_53 rfl (by rfl) ?_
            refine Eq_aln dX4_readClause_87 rfl ?_
            refine Eq_ic (v := nI 0) dX4_readClause_88 rfl ?_
            refine Eq_iln dX4_readClause_89 rfl ?_
            refine Eq_W2 (N := m_X4_readCondition) dX4_readClause_90 lk_X4_58 mV_X4_readCondition (c_cond6 _ _ _ hW3 hA3 hR3 (by omega)) (by decide) (ws_6 hW3) rfl (by decide) (Nat.le_of_ble_eq_true rfl) (Nat.le_of_ble_eq_true rfl) (fun vq hq1 hq2 => ?_)
            obtain ⟨rfl, hf5, hA5⟩ := hq2.n hq
            have hW5 := hf5.Wd hW3
            have hff5 := hff.tr hf5
            refine Et_if_eq 107 dX4_readClause_93 rfl (by rfl) ?_
            refine Eq_ic (v := nI 0) dX4_readClause_107 rfl ?_
            first | refine Eq_zrn dX4_readClause_108 rfl (by first | omega | exact b2_le) ?_ | refine Eq_zr dX4_readClause_108 rfl (by first | exact Or.inl rfl | exact Or.inr rfl | assumption) ?_
            exact ⟨hff5, rfl, hA5⟩
          | some ts =>
            rw [bdc_s hq]
            have h4 := h3.2.2 ts hq
            have hcq := csq_pr (tp := tp) (tl := tl) (ts := ts) h3.2.1
            cases hr : (csq tl tp (cndW tl tp (unP tl tp 6) (nx tl tp (nx tl tp (nx tl tp a + 1) + 1))).1 ts).2 with
            | none =>
              refine Eq_aln dX4_readClause_0 rfl ?_
              refine Eq_getR dX4_readClause_1 fl_X4_9 (ws_6 hW) rfl (wp_6_0 hW) ?_
              refine Eq_bp (v := nI 121) dX4_readClause_4 rfl ?_
              refine Eq_W1 (N := m_X9_pass) dX4_readClause_6 lk_X4_32 mV_X9_pass (c_pass hW hA (c := 121) (by omega)) (by decide) (ws_1 hW) rfl (by decide) (Nat.le_of_ble_eq_true rfl) (Nat.le_of_ble_eq_true rfl) (fun vq hq1 hq2 => ?_)
              rw [if_pos e1] at hq2
              obtain ⟨rfl, hf1, hA1⟩ := hq2
              have hW1 := hf1.Wd hW
              have hR1 := hR.fx hf1 (by decide)
              refine Ef_if_eq dX4_readClause_9 (tgt := 24) rfl (by exact zf1) ?_
              refine Eq_aln dX4_readClause_12 rfl ?_
              refine Eq_getR dX4_readClause_13 fl_X4_9 (ws_6 hW1) rfl (wp_6_0 hW1) ?_
              refine Eq_bp (v := nI 58) dX4_readClause_16 rfl ?_
              refine Eq_W1 (N := m_X9_pass) dX4_readClause_18 lk_X4_32 mV_X9_pass (c_pass hW1 hA1 (c := 58) (by omega)) (by decide) (ws_1 hW1) rfl (by decide) (Nat.le_of_ble_eq_true rfl) (Nat.le_of_ble_eq_true rfl) (fun vq hq1 hq2 => ?_)
              rw [if_pos e2] at hq2
              obtain ⟨rfl, hf2, hA2⟩ := hq2
              have hW2 := hf2.Wd hW1
              have hR2 := hR1.fx hf2 (by decide)
              refine Et_if_ne 26 dX4_readClause_21 rfl (by exact zf1) ?_
              refine Eq_aln dX4_readClause_26 rfl ?_
              refine Eq_getR dX4_readClause_27 fl_X4_9 (ws_6 hW2) rfl (wp_6_0 hW2) ?_
              refine Eq_W0 (N := m_X9_next) dX4_readClause_30 lk_X4_36 mV_X9_next (c_next hW2 hA2) (by decide) (ws_1 hW2) rfl (by decide) (Nat.le_of_ble_eq_true rfl) (Nat.le_of_ble_eq_true rfl) (fun vq hq1 hq2 => ?_)
              obtain ⟨rfl, hf3, hA3⟩ := hq2
              have hW3 := hf3.Wd hW2
              have hR3 := hR2.fx hf3 (by decide)
              have hff := (hf1.mono (A' := [7]) (B' := [(6, 2), (1, 2)]) (by decide) (by decide)).tr ((hf2.mono (by decide) (by decide)).tr (hf3.mono (by decide) (by decide)))
              refine Eq_isn dX4_readClause_33 (by decide) ?_
              refine Eam_nl (pc' := 34) (l' := [_, _, _]) rfl rfl ?_
              refine Eq_iln dX4_readClause_34 rfl ?_
              refine Eq_bp (v := nI 33) dX4_readClause_35 rfl ?_
              refine Ef_ic_eq dX4_readClause_37 (tgt := 50) rfl (by exact fun z => e33 ((oNlt (fun k hk => by have := h2 k hk; omega) 33 (by omega)).mp z)) ?_
              refine Eq_iln dX4_readClause_40 rfl ?_
              refine Eq_bp (v := nI 40) dX4_readClause_41 rfl ?_
              refine Et_ic_eq 50 dX4_readClause_43 rfl (by rw [e40]; rfl) ?_
              refine Eq_ic (v := nI 0) dX4_readClause_50 rfl ?_
              refine Eq_isn dX4_readClause_51 (by decide) ?_
              refine Eam_nl (pc' := 52) (l' := [_, _, _]) rfl rfl ?_
              refine Eq_iln dX4_readClause_52 rfl ?_
              refine Et_if_eq 87 dX4_readClause_53 rfl (by rfl) ?_
              refine Eq_aln dX4_readClause_87 rfl ?_
              refine Eq_ic (v := nI 0) dX4_readClause_88 rfl ?_
              refine Eq_iln dX4_readClause_89 rfl ?_
              refine Eq_W2 (N := m_X4_readCondition) dX4_readClause_90 lk_X4_58 mV_X4_readCondition (c_cond6 _ _ _ hW3 hA3 hR3 (by omega)) (by decide) (ws_6 hW3) rfl (by decide) (Nat.le_of_ble_eq_true rfl) (Nat.le_of_ble_eq_true rfl) (fun vq hq1 hq2 => ?_)
              obtain ⟨rfl, hf5, hA5, hR5⟩ := hq2.s hq
              have hW5 := hf5.Wd hW3
              have hff5 := hff.tr hf5
              refine Ef_if_eq dX4_readClause_93 (tgt := 107) rfl (by exact zf1) ?_
              refine Eq_aln dX4_readClause_96 rfl ?_
              refine Eq_W0 (N := m_X4_readConsequence) dX4_readClause_97 lk_X4_62 mV_X4_readConsequence (c_readConsequence hW5 hA5 hR5 (by simp only [List.length_append, List.length_map]; omega) (by omega)) (by decide) (ws_6 hW5) rfl (by decide) (Nat.le_of_ble_eq_true rfl) (Nat.le_of_ble_eq_true rfl) (fun vq hq1 hq2 => ?_)
              have hq3 := hq2.n hr
              obtain ⟨rfl, hf6, hA6⟩ := hq3
              refine Et_if_eq 107 dX4_readClause_100 rfl (by rfl) ?_
              refine Eq_ic (v := nI 0) dX4_readClause_107 rfl ?_
              first | refine Eq_zrn dX4_readClause_108 rfl (by first | omega | exact b2_le) ?_ | refine Eq_zr dX4_readClause_108 rfl (by first | exact Or.inl rfl | exact Or.inr rfl | assumption) ?_
              exact hq2.tr hff5
            | some c =>
              refine Eq_aln dX4_readClause_0 rfl ?_
              refine Eq_getR dX4_readClause_1 fl_X4_9 (ws_6 hW) rfl (wp_6_0 hW) ?_
              refine Eq_bp (v := nI 121) dX4_readClause_4 rfl ?_
              refine Eq_W1 (N := m_X9_pass) dX4_readClause_6 lk_X4_32 mV_X9_pass (c_pass hW hA (c := 121) (by omega)) (by decide) (ws_1 hW) rfl (by decide) (Nat.le_of_ble_eq_true rfl) (Nat.le_of_ble_eq_true rfl) (fun vq hq1 hq2 => ?_)
              rw [if_pos e1] at hq2
              obtain ⟨rfl, hf1, hA1⟩ := hq2
              have hW1 := hf1.Wd hW
              have hR1 := hR.fx hf1 (by decide)
              refine Ef_if_eq dX4_readClause_9 (tgt := 24) rfl (by exact zf1) ?_
              refine Eq_aln dX4_readClause_12 rfl ?_
              refine Eq_getR dX4_readClause_13 fl_X4_9 (ws_6 hW1) rfl (wp_6_0 hW1) ?_
              refine Eq_bp (v := nI 58) dX4_readClause_16 rfl ?_
              refine Eq_W1 (N := m_X9_pass) dX4_readClause_18 lk_X4_32 mV_X9_pass (c_pass hW1 hA1 (c := 58) (by omega)) (by decide) (ws_1 hW1) rfl (by decide) (Nat.le_of_ble_eq_true rfl) (Nat.le_of_ble_eq_true rfl) (fun vq hq1 hq2 => ?_)
              rw [if_pos e2] at hq2
              obtain ⟨rfl, hf2, hA2⟩ := hq2
              have hW2 := hf2.Wd hW1
              have hR2 := hR1.fx hf2 (by decide)
              refine Et_if_ne 26 dX4_readClause_21 rfl (by exact zf1) ?_
              refine Eq_aln dX4_readClause_26 rfl ?_
              refine Eq_getR dX4_readClause_27 fl_X4_9 (ws_6 hW2) rfl (wp_6_0 hW2) ?_
              refine Eq_W0 (N := m_X9_next) dX4_readClause_30 lk_X4_36 mV_X9_next (c_next hW2 hA2) (by decide) (ws_1 hW2) rfl (by decide) (Nat.le_of_ble_eq_true rfl) (Nat.le_of_ble_eq_true rfl) (fun vq hq1 hq2 => ?_)
              obtain ⟨rfl, hf3, hA3⟩ := hq2
              have hW3 := hf3.Wd hW2
              have hR3 := hR2.fx hf3 (by decide)
              have hff := (hf1.mono (A' := [7]) (B' := [(6, 2), (1, 2)]) (by decide) (by decide)).tr ((hf2.mono (by decide) (by decide)).tr (hf3.mono (by decide) (by decide)))
              refine Eq_isn dX4_readClause_33 (by decide) ?_
              refine Eam_nl (pc' := 34) (l' := [_, _, _]) rfl rfl ?_
              refine Eq_iln dX4_readClause_34 rfl ?_
              refine Eq_bp (v := nI 33) dX4_readClause_35 rfl ?_
              refine Ef_ic_eq dX4_readClause_37 (tgt := 50) rfl (by exact fun z => e33 ((oNlt (fun k hk => by have := h2 k hk; omega) 33 (by omega)).mp z)) ?_
              refine Eq_iln dX4_readClause_40 rfl ?_
              refine Eq_bp (v := nI 40) dX4_readClause_41 rfl ?_
              refine Et_ic_eq 50 dX4_readClause_43 rfl (by rw [e40]; rfl) ?_
              refine Eq_ic (v := nI 0) dX4_readClause_50 rfl ?_
              refine Eq_isn dX4_readClause_51 (by decide) ?_
              refine Eam_nl (pc' := 52) (l' := [_, _, _]) rfl rfl ?_
              refine Eq_iln dX4_readClause_52 rfl ?_
              refine Et_if_eq 87 dX4_readClause_53 rfl (by rfl) ?_
              refine Eq_aln dX4_readClause_87 rfl ?_
              refine Eq_ic (v := nI 0) dX4_readClause_88 rfl ?_
              refine Eq_iln dX4_readClause_89 rfl ?_
              refine Eq_W2 (N := m_X4_readCondition) dX4_readClause_90 lk_X4_58 mV_X4_readCondition (c_cond6 _ _ _ hW3 hA3 hR3 (by omega)) (by decide) (ws_6 hW3) rfl (by decide) (Nat.le_of_ble_eq_true rfl) (Nat.le_of_ble_eq_true rfl) (fun vq hq1 hq2 => ?_)
              obtain ⟨rfl, hf5, hA5, hR5⟩ := hq2.s hq
              have hW5 := hf5.Wd hW3
              have hff5 := hff.tr hf5
              refine Ef_if_eq dX4_readClause_93 (tgt := 107) rfl (by exact zf1) ?_
              refine Eq_aln dX4_readClause_96 rfl ?_
              refine Eq_W0 (N := m_X4_readConsequence) dX4_readClause_97 lk_X4_62 mV_X4_readConsequence (c_readConsequence hW5 hA5 hR5 (by simp only [List.length_append, List.length_map]; omega) (by omega)) (by decide) (ws_6 hW5) rfl (by decide) (Nat.le_of_ble_eq_true rfl) (Nat.le_of_ble_eq_true rfl) (fun vq hq1 hq2 => ?_)
              have hq3 := hq2.s hr
              obtain ⟨rfl, hf6, hA6⟩ := hq3
              refine Ef_if_eq dX4_readClause_100 (tgt := 107) rfl (by exact zf1) ?_
              refine Eq_ic (v := nI 1) dX4_readClause_103 rfl ?_
              refine Eam_x_goto (tgt := 108) dX4_readClause_104 rfl ?_
              first | refine Eq_zrn dX4_readClause_108 rfl (by first | omega | exact b2_le) ?_ | refine Eq_zr dX4_readClause_108 rfl (by first | exact Or.inl rfl | exact Or.inr rfl | assumption) ?_
              exact hq2.tr hff5
        · rw [if_neg (fun z => z.elim e33 e40)]
          have h3 := smP_pr (tp := tp) (tl := tl) 6 (nx tl tp (nx tl tp (nx tl tp a + 1) + 1)) z2
          cases hq : (smP tl tp 6 (nx tl tp (nx tl tp (nx tl tp a + 1) + 1))).2 with
          | none =>
            rw [bdc_n hq]
            refine Eq_aln dX4_readClause_0 rfl ?_
            refine Eq_getR dX4_readClause_1 fl_X4_9 (ws_6 hW) rfl (wp_6_0 hW) ?_
            refine Eq_bp (v := nI 121) dX4_readClause_4 rfl ?_
            refine Eq_W1 (N := m_X9_pass) dX4_readClause_6 lk_X4_32 mV_X9_pass (c_pass hW hA (c := 121) (by omega)) (by decide) (ws_1 hW) rfl (by decide) (Nat.le_of_ble_eq_true rfl) (Nat.le_of_ble_eq_true rfl) (fun vq hq1 hq2 => ?_)
            rw [if_pos e1] at hq2
            obtain ⟨rfl, hf1, hA1⟩ := hq2
            have hW1 := hf1.Wd hW
            have hR1 := hR.fx hf1 (by decide)
            refine Ef_if_eq dX4_readClause_9 (tgt := 24) rfl (by exact zf1) ?_
            refine Eq_aln dX4_readClause_12 rfl ?_
            refine Eq_getR dX4_readClause_13 fl_X4_9 (ws_6 hW1) rfl (wp_6_0 hW1) ?_
            refine Eq_bp (v := nI 58) dX4_readClause_16 rfl ?_
            refine Eq_W1 (N := m_X9_pass) dX4_readClause_18 lk_X4_32 mV_X9_pass (c_pass hW1 hA1 (c := 58) (by omega)) (by decide) (ws_1 hW1) rfl (by decide) (Nat.le_of_ble_eq_true rfl) (Nat.le_of_ble_eq_true rfl) (fun vq hq1 hq2 => ?_)
            rw [if_pos e2] at hq2
            obtain ⟨rfl, hf2, hA2⟩ := hq2
            have hW2 := hf2.Wd hW1
            have hR2 := hR1.fx hf2 (by decide)
            refine Et_if_ne 26 dX4_readClause_21 rfl (by exact zf1) ?_
            refine Eq_aln dX4_readClause_26 rfl ?_
            refine Eq_getR dX4_readClause_27 fl_X4_9 (ws_6 hW2) rfl (wp_6_0 hW2) ?_
            refine Eq_W0 (N := m_X9_next) dX4_readClause_30 lk_X4_36 mV_X9_next (c_next hW2 hA2) (by decide) (ws_1 hW2) rfl (by decide) (Nat.le_of_ble_eq_true rfl) (Nat.le_of_ble_eq_true rfl) (fun vq hq1 hq2 => ?_)
            obtain ⟨rfl, hf3, hA3⟩ := hq2
            have hW3 := hf3.Wd hW2
            have hR3 := hR2.fx hf3 (by decide)
            have hff := (hf1.mono (A' := [7]) (B' := [(6, 2), (1, 2)]) (by decide) (by decide)).tr ((hf2.mono (by decide) (by decide)).tr (hf3.mono (by decide) (by decide)))
            refine Eq_isn dX4_readClause_33 (by decide) ?_
            refine Eam_nl (pc' := 34) (l' := [_, _, _]) rfl rfl ?_
            refine Eq_iln dX4_readClause_34 rfl ?_
            refine Eq_bp (v := nI 33) dX4_readClause_35 rfl ?_
            refine Ef_ic_eq dX4_readClause_37 (tgt := 50) rfl (by exact fun z => e33 ((oNlt (fun k hk => by have := h2 k hk; omega) 33 (by omega)).mp z)) ?_
            refine Eq_iln dX4_readClause_40 rfl ?_
            refine Eq_bp (v := nI 40) dX4_readClause_41 rfl ?_
            refine Ef_ic_eq dX4_readClause_43 (tgt := 50) rfl (by exact fun z => e40 ((oNlt (fun k hk => by have := h2 k hk; omega) 40 (by omega)).mp z)) ?_
            refine Eq_ic (v := nI 1) dX4_readClause_46 rfl ?_
            refine Eam_x_goto (tgt := 51) dX4_readClause_47 rfl ?_
            refine Eq_isn dX4_readClause_51 (by decide) ?_
            refine Eam_nl (pc' := 52) (l' := [_, _, _]) rfl rfl ?_
            refine Eq_iln dX4_readClause_52 rfl ?_
            refine Ef_if_eq dX4_readClause_53 (tgt := 87) rfl (by exact zf1) ?_
            refine Eq_aln dX4_readClause_56 rfl ?_
            refine Eq_ic (v := nI 0) dX4_readClause_57 rfl ?_
            refine Eq_W1 (N := m_X4_readSum) dX4_readClause_58 lk_X4_48 mV_X4_readSum (c_sum6 _ _ _ hW3 hA3 hR3 (by omega)) (by decide) (ws_6 hW3) rfl (by decide) (Nat.le_of_ble_eq_true rfl) (Nat.le_of_ble_eq_true rfl) (fun vq hq1 hq2 => ?_)
            obtain ⟨rfl, hf4, hA4⟩ := hq2.n hq
            have hW4 := hf4.Wd hW3
            have hff4 := hff.tr hf4
            refine Ef_if_ne dX4_readClause_61 (tgt := 66) rfl (by rfl) ?_
            refine Eq_ic (v := nI 0) dX4_readClause_64 rfl ?_
            first | refine Eq_zrn dX4_readClause_65 rfl (by first | omega | exact b2_le) ?_ | refine Eq_zr dX4_readClause_65 rfl (by first | exact Or.inl rfl | exact Or.inr rfl | assumption) ?_
            exact ⟨hff4, rfl, hA4⟩
          | some ts =>
            rw [bdc_s hq]
            have h4 := h3.2.2 ts hq
            have w1 := nx_ge (tl := tl) (tp := tp) (a := (smP tl tp 6 (nx tl tp (nx tl tp (nx tl tp a + 1) + 1))).1)
            have w2 := nx_le (tp := tp) h3.2.1
            by_cases er : rel (sgn tl tp (nx tl tp (smP tl tp 6 (nx tl tp (nx tl tp (nx tl tp a + 1) + 1))).1)) = none
            · rw [if_pos er]
              refine Eq_aln dX4_readClause_0 rfl ?_
              refine Eq_getR dX4_readClause_1 fl_X4_9 (ws_6 hW) rfl (wp_6_0 hW) ?_
              refine Eq_bp (v := nI 121) dX4_readClause_4 rfl ?_
              refine Eq_W1 (N := m_X9_pass) dX4_readClause_6 lk_X4_32 mV_X9_pass (c_pass hW hA (c := 121) (by omega)) (by decide) (ws_1 hW) rfl (by decide) (Nat.le_of_ble_eq_true rfl) (Nat.le_of_ble_eq_true rfl) (fun vq hq1 hq2 => ?_)
              rw [if_pos e1] at hq2
              obtain ⟨rfl, hf1, hA1⟩ := hq2
              have hW1 := hf1.Wd hW
              have hR1 := hR.fx hf1 (by decide)
              refine Ef_if_eq dX4_readClause_9 (tgt := 24) rfl (by exact zf1) ?_
              refine Eq_aln dX4_readClause_12 rfl ?_
              refine Eq_getR dX4_readClause_13 fl_X4_9 (ws_6 hW1) rfl (wp_6_0 hW1) ?_
              refine Eq_bp (v := nI 58) dX4_readClause_16 rfl ?_
              refine Eq_W1 (N := m_X9_pass) dX4_readClause_18 lk_X4_32 mV_X9_pass (c_pass hW1 hA1 (c := 58) (by omega)) (by decide) (ws_1 hW1) rfl (by decide) (Nat.le_of_ble_eq_true rfl) (Nat.le_of_ble_eq_true rfl) (fun vq hq1 hq2 => ?_)
              rw [if_pos e2] at hq2
              obtain ⟨rfl, hf2, hA2⟩ := hq2
              have hW2 := hf2.Wd hW1
              have hR2 := hR1.fx hf2 (by decide)
              refine Et_if_ne 26 dX4_readClause_21 rfl (by exact zf1) ?_
              refine Eq_aln dX4_readClause_26 rfl ?_
              refine Eq_getR dX4_readClause_27 fl_X4_9 (ws_6 hW2) rfl (wp_6_0 hW2) ?_
              refine Eq_W0 (N := m_X9_next) dX4_readClause_30 lk_X4_36 mV_X9_next (c_next hW2 hA2) (by decide) (ws_1 hW2) rfl (by decide) (Nat.le_of_ble_eq_true rfl) (Nat.le_of_ble_eq_true rfl) (fun vq hq1 hq2 => ?_)
              obtain ⟨rfl, hf3, hA3⟩ := hq2
              have hW3 := hf3.Wd hW2
              have hR3 := hR2.fx hf3 (by decide)
              have hff := (hf1.mono (A' := [7]) (B' := [(6, 2), (1, 2)]) (by decide) (by decide)).tr ((hf2.mono (by decide) (by decide)).tr (hf3.mono (by decide) (by decide)))
              refine Eq_isn dX4_readClause_33 (by decide) ?_
              refine Eam_nl (pc' := 34) (l' := [_, _, _]) rfl rfl ?_
              refine Eq_iln dX4_readClause_34 rfl ?_
              refine Eq_bp (v := nI 33) dX4_readClause_35 rfl ?_
              refine Ef_ic_eq dX4_readClause_37 (tgt := 50) rfl (by exact fun z => e33 ((oNlt (fun k hk => by have := h2 k hk; omega) 33 (by omega)).mp z)) ?_
              refine Eq_iln dX4_readClause_40 rfl ?_
              refine Eq_bp (v := nI 40) dX4_readClause_41 rfl ?_
              refine Ef_ic_eq dX4_readClause_43 (tgt := 50) rfl (by exact fun z => e40 ((oNlt (fun k hk => by have := h2 k hk; omega) 40 (by omega)).mp z)) ?_
              refine Eq_ic (v := nI 1) dX4_readClause_46 rfl ?_
              refine Eam_x_goto (tgt := 51) dX4_readClause_47 rfl ?_
              refine Eq_isn dX4_readClause_51 (by decide) ?_
              refine Eam_nl (pc' := 52) (l' := [_, _, _]) rfl rfl ?_
              refine Eq_iln dX4_readClause_52 rfl ?_
              refine Ef_if_eq dX4_readClause_53 (tgt := 87) rfl (by exact zf1) ?_
              refine Eq_aln dX4_readClause_56 rfl ?_
              refine Eq_ic (v := nI 0) dX4_readClause_57 rfl ?_
              refine Eq_W1 (N := m_X4_readSum) dX4_readClause_58 lk_X4_48 mV_X4_readSum (c_sum6 _ _ _ hW3 hA3 hR3 (by omega)) (by decide) (ws_6 hW3) rfl (by decide) (Nat.le_of_ble_eq_true rfl) (Nat.le_of_ble_eq_true rfl) (fun vq hq1 hq2 => ?_)
              obtain ⟨rfl, hf4, hA4, hR4⟩ := hq2.s hq
              have hW4 := hf4.Wd hW3
              have hff4 := hff.tr hf4
              refine Et_if_ne 66 dX4_readClause_61 rfl (by exact zf1) ?_
              refine Eq_aln dX4_readClause_66 rfl ?_
              refine Eq_getR dX4_readClause_67 fl_X4_9 (ws_6 hW4) rfl (wp_6_0 hW4) ?_
              refine Eq_W0 (N := m_X9_next) dX4_readClause_70 lk_X4_36 mV_X9_next (c_next hW4 hA4) (by decide) (ws_1 hW4) rfl (by decide) (Nat.le_of_ble_eq_true rfl) (Nat.le_of_ble_eq_true rfl) (fun vq hq1 hq2 => ?_)
              obtain ⟨rfl, hf7, hA7⟩ := hq2
              have hW7 := hf7.Wd hW4
              have hR7 := hR4.fx hf7 (by decide)
              have hff7 := hff4.tr (hf7.mono (by decide) (by decide))
              refine Eq_S1 (N := m_X4_isRelation) dX4_readClause_73 lk_X4_51 mS_X4_isRelation ((by have z := c_isRelation (h := hq1) (sgn256 hA (nx tl tp (smP tl tp 6 (nx tl tp (nx tl tp (nx tl tp a + 1) + 1))).1)); rw [if_pos er] at z; exact z)) (by decide) (Nat.le_of_ble_eq_true rfl) (Nat.le_of_ble_eq_true rfl) ?_
              refine Ef_if_ne dX4_readClause_76 (tgt := 87) rfl (by rfl) ?_
              refine Eq_aln dX4_readClause_79 rfl ?_
              refine Eq_bp (v := -59) dX4_readClause_80 rfl ?_
              refine Eq_W1 (N := m_X4_write) dX4_readClause_82 lk_X4_54 mV_X4_write (c_write hW7 hR7 (by simp only [List.length_append, List.length_map]; omega)) (by decide) (ws_6 hW7) rfl (by decide) (Nat.le_of_ble_eq_true rfl) (Nat.le_of_ble_eq_true rfl) (fun vq hq1 hq2 => ?_)
              obtain ⟨rfl, hf8, hR8⟩ := hq2
              refine Eq_ic (v := nI 1) dX4_readClause_85 rfl ?_
              first | refine Eq_zrn dX4_readClause_86 rfl (by first | omega | exact b2_le) ?_ | refine Eq_zr dX4_readClause_86 rfl (by first | exact Or.inl rfl | exact Or.inr rfl | assumption) ?_
              exact ⟨hff7.tr (hf8.mono (by decide) (by decide)), rfl, hA7.fx hf8 (by decide), by unfold cly; rw [if_pos rfl, ← List.append_assoc]; exact hR8⟩
            · rw [if_neg er]
              have h5 := bgn_pr (tp := tp) (a := nx tl tp (nx tl tp (nx tl tp a + 1) + 1)) h3.2.1 h4.1
              cases hb : (bgn tl tp (smP tl tp 6 (nx tl tp (nx tl tp (nx tl tp a + 1) + 1))).1 ts).2 with
              | none =>
                rw [bdc_n hb]
                refine Eq_aln dX4_readClause_0 rfl ?_
                refine Eq_getR dX4_readClause_1 fl_X4_9 (ws_6 hW) rfl (wp_6_0 hW) ?_
                refine Eq_bp (v := nI 121) dX4_readClause_4 rfl ?_
                refine Eq_W1 (N := m_X9_pass) dX4_readClause_6 lk_X4_32 mV_X9_pass (c_pass hW hA (c := 121) (by omega)) (by decide) (ws_1 hW) rfl (by decide) (Nat.le_of_ble_eq_true rfl) (Nat.le_of_ble_eq_true rfl) (fun vq hq1 hq2 => ?_)
                rw [if_pos e1] at hq2
                obtain ⟨rfl, hf1, hA1⟩ := hq2
                have hW1 := hf1.Wd hW
                have hR1 := hR.fx hf1 (by decide)
                refine Ef_if_eq dX4_readClause_9 (tgt := 24) rfl (by exact zf1) ?_
                refine Eq_aln dX4_readClause_12 rfl ?_
                refine Eq_getR dX4_readClause_13 fl_X4_9 (ws_6 hW1) rfl (wp_6_0 hW1) ?_
                refine Eq_bp (v := nI 58) dX4_readClause_16 rfl ?_
                refine Eq_W1 (N := m_X9_pass) dX4_readClause_18 lk_X4_32 mV_X9_pass (c_pass hW1 hA1 (c := 58) (by omega)) (by decide) (ws_1 hW1) rfl (by decide) (Nat.le_of_ble_eq_true rfl) (Nat.le_of_ble_eq_true rfl) (fun vq hq1 hq2 => ?_)
                rw [if_pos e2] at hq2
                obtain ⟨rfl, hf2, hA2⟩ := hq2
                have hW2 := hf2.Wd hW1
                have hR2 := hR1.fx hf2 (by decide)
                refine Et_if_ne 26 dX4_readClause_21 rfl (by exact zf1) ?_
                refine Eq_aln dX4_readClause_26 rfl ?_
                refine Eq_getR dX4_readClause_27 fl_X4_9 (ws_6 hW2) rfl (wp_6_0 hW2) ?_
                refine Eq_W0 (N := m_X9_next) dX4_readClause_30 lk_X4_36 mV_X9_next (c_next hW2 hA2) (by decide) (ws_1 hW2) rfl (by decide) (Nat.le_of_ble_eq_true rfl) (Nat.le_of_ble_eq_true rfl) (fun vq hq1 hq2 => ?_)
                obtain ⟨rfl, hf3, hA3⟩ := hq2
                have hW3 := hf3.Wd hW2
                have hR3 := hR2.fx hf3 (by decide)
                have hff := (hf1.mono (A' := [7]) (B' := [(6, 2), (1, 2)]) (by decide) (by decide)).tr ((hf2.mono (by decide) (by decide)).tr (hf3.mono (by decide) (by decide)))
                refine Eq_isn dX4_readClause_33 (by decide) ?_
                refine Eam_nl (pc' := 34) (l' := [_, _, _]) rfl rfl ?_
                refine Eq_iln dX4_readClause_34 rfl ?_
                refine Eq_bp (v := nI 33) dX4_readClause_35 rfl ?_
                refine Ef_ic_eq dX4_readClause_37 (tgt := 50) rfl (by exact fun z => e33 ((oNlt (fun k hk => by have := h2 k hk; omega) 33 (by omega)).mp z)) ?_
                refine Eq_iln dX4_readClause_40 rfl ?_
                refine Eq_bp (v := nI 40) dX4_readClause_41 rfl ?_
                refine Ef_ic_eq dX4_readClause_43 (tgt := 50) rfl (by exact fun z => e40 ((oNlt (fun k hk => by have := h2 k hk; omega) 40 (by omega)).mp z)) ?_
                refine Eq_ic (v := nI 1) dX4_readClause_46 rfl ?_
                refine Eam_x_goto (tgt := 51) dX4_readClause_47 rfl ?_
                refine Eq_isn dX4_readClause_51 (by decide) ?_
                refine Eam_nl (pc' := 52) (l' := [_, _, _]) rfl rfl ?_
                refine Eq_iln dX4_readClause_52 rfl ?_
                refine Ef_if_eq dX4_readClause_53 (tgt := 87) rfl (by exact zf1) ?_
                refine Eq_aln dX4_readClause_56 rfl ?_
                refine Eq_ic (v := nI 0) dX4_readClause_57 rfl ?_
                refine Eq_W1 (N := m_X4_readSum) dX4_readClause_58 lk_X4_48 mV_X4_readSum (c_sum6 _ _ _ hW3 hA3 hR3 (by omega)) (by decide) (ws_6 hW3) rfl (by decide) (Nat.le_of_ble_eq_true rfl) (Nat.le_of_ble_eq_true rfl) (fun vq hq1 hq2 => ?_)
                obtain ⟨rfl, hf4, hA4, hR4⟩ := hq2.s hq
                have hW4 := hf4.Wd hW3
                have hff4 := hff.tr hf4
                refine Et_if_ne 66 dX4_readClause_61 rfl (by exact zf1) ?_
                refine Eq_aln dX4_readClause_66 rfl ?_
                refine Eq_getR dX4_readClause_67 fl_X4_9 (ws_6 hW4) rfl (wp_6_0 hW4) ?_
                refine Eq_W0 (N := m_X9_next) dX4_readClause_70 lk_X4_36 mV_X9_next (c_next hW4 hA4) (by decide) (ws_1 hW4) rfl (by decide) (Nat.le_of_ble_eq_true rfl) (Nat.le_of_ble_eq_true rfl) (fun vq hq1 hq2 => ?_)
                obtain ⟨rfl, hf7, hA7⟩ := hq2
                have hW7 := hf7.Wd hW4
                have hR7 := hR4.fx hf7 (by decide)
                have hff7 := hff4.tr (hf7.mono (by decide) (by decide))
                refine Eq_S1 (N := m_X4_isRelation) dX4_readClause_73 lk_X4_51 mS_X4_isRelation ((by have z := c_isRelation (h := hq1) (sgn256 hA (nx tl tp (smP tl tp 6 (nx tl tp (nx tl tp (nx tl tp a + 1) + 1))).1)); rw [if_neg er] at z; exact z)) (by decide) (Nat.le_of_ble_eq_true rfl) (Nat.le_of_ble_eq_true rfl) ?_
                refine Et_if_ne 87 dX4_readClause_76 rfl (by exact zf1) ?_
                refine Eq_aln dX4_readClause_87 rfl ?_
                refine Eq_ic (v := nI 0) dX4_readClause_88 rfl ?_
                refine Eq_iln dX4_readClause_89 rfl ?_
                refine Eq_W2 (N := m_X4_readCondition) dX4_readClause_90 lk_X4_58 mV_X4_readCondition (c_bgn6x hW7 hA7 hR7 (by simp only [List.length_append, List.length_map]; omega)) (by decide) (ws_6 hW7) rfl (by decide) (Nat.le_of_ble_eq_true rfl) (Nat.le_of_ble_eq_true rfl) (fun vq hq1 hq2 => ?_)
                obtain ⟨rfl, hf5, hA5⟩ := hq2.n hb
                have hW5 := hf5.Wd hW7
                have hff5 := hff7.tr hf5
                refine Et_if_eq 107 dX4_readClause_93 rfl (by rfl) ?_
                refine Eq_ic (v := nI 0) dX4_readClause_107 rfl ?_
                first | refine Eq_zrn dX4_readClause_108 rfl (by first | omega | exact b2_le) ?_ | refine Eq_zr dX4_readClause_108 rfl (by first | exact Or.inl rfl | exact Or.inr rfl | assumption) ?_
                exact ⟨hff5, rfl, hA5⟩
              | some vs =>
                rw [bdc_s hb]
                have h6 := h5.2.2 vs hb
                have hcq := csq_pr (tp := tp) (tl := tl) (ts := vs) h5.2.1
                cases hr : (csq tl tp (bgn tl tp (smP tl tp 6 (nx tl tp (nx tl tp (nx tl tp a + 1) + 1))).1 ts).1 vs).2 with
                | none =>
                  refine Eq_aln dX4_readClause_0 rfl ?_
                  refine Eq_getR dX4_readClause_1 fl_X4_9 (ws_6 hW) rfl (wp_6_0 hW) ?_
                  refine Eq_bp (v := nI 121) dX4_readClause_4 rfl ?_
                  refine Eq_W1 (N := m_X9_pass) dX4_readClause_6 lk_X4_32 mV_X9_pass (c_pass hW hA (c := 121) (by omega)) (by decide) (ws_1 hW) rfl (by decide) (Nat.le_of_ble_eq_true rfl) (Nat.le_of_ble_eq_true rfl) (fun vq hq1 hq2 => ?_)
                  rw [if_pos e1] at hq2
                  obtain ⟨rfl, hf1, hA1⟩ := hq2
                  have hW1 := hf1.Wd hW
                  have hR1 := hR.fx hf1 (by decide)
                  refine Ef_if_eq dX4_readClause_9 (tgt := 24) rfl (by exact zf1) ?_
                  refine Eq_aln dX4_readClause_12 rfl ?_
                  refine Eq_getR dX4_readClause_13 fl_X4_9 (ws_6 hW1) rfl (wp_6_0 hW1) ?_
                  refine Eq_bp (v := nI 58) dX4_readClause_16 rfl ?_
                  refine Eq_W1 (N := m_X9_pass) dX4_readClause_18 lk_X4_32 mV_X9_pass (c_pass hW1 hA1 (c := 58) (by omega)) (by decide) (ws_1 hW1) rfl (by decide) (Nat.le_of_ble_eq_true rfl) (Nat.le_of_ble_eq_true rfl) (fun vq hq1 hq2 => ?_)
                  rw [if_pos e2] at hq2
                  obtain ⟨rfl, hf2, hA2⟩ := hq2
                  have hW2 := hf2.Wd hW1
                  have hR2 := hR1.fx hf2 (by decide)
                  refine Et_if_ne 26 dX4_readClause_21 rfl (by exact zf1) ?_
                  refine Eq_aln dX4_readClause_26 rfl ?_
                  refine Eq_getR dX4_readClause_27 fl_X4_9 (ws_6 hW2) rfl (wp_6_0 hW2) ?_
                  refine Eq_W0 (N := m_X9_next) dX4_readClause_30 lk_X4_36 mV_X9_next (c_next hW2 hA2) (by decide) (ws_1 hW2) rfl (by decide) (Nat.le_of_ble_eq_true rfl) (Nat.le_of_ble_eq_true rfl) (fun vq hq1 hq2 => ?_)
                  obtain ⟨rfl, hf3, hA3⟩ := hq2
                  have hW3 := hf3.Wd hW2
                  have hR3 := hR2.fx hf3 (by decide)
                  have hff := (hf1.mono (A' := [7]) (B' := [(6, 2), (1, 2)]) (by decide) (by decide)).tr ((hf2.mono (by decide) (by decide)).tr (hf3.mono (by decide) (by decide)))
                  refine Eq_isn dX4_readClause_33 (by decide) ?_
                  refine Eam_nl (pc' := 34) (l' := [_, _, _]) rfl rfl ?_
                  refine Eq_iln dX4_readClause_34 rfl ?_
                  refine Eq_bp (v := nI 33) dX4_readClause_35 rfl ?_
                  refine Ef_ic_eq dX4_readClause_37 (tgt := 50) rfl (by exact fun z => e33 ((oNlt (fun k hk => by have := h2 k hk; omega) 33 (by omega)).mp z)) ?_
                  refine Eq_iln dX4_readClause_40 rfl ?_
                  refine Eq_bp (v := nI 40) dX4_readClause_41 rfl ?_
                  refine Ef_ic_eq dX4_readClause_43 (tgt := 50) rfl (by exact fun z => e40 ((oNlt (fun k hk => by have := h2 k hk; omega) 40 (by omega)).mp z)) ?_
                  refine Eq_ic (v := nI 1) dX4_readClause_46 rfl ?_
                  refine Eam_x_goto (tgt := 51) dX4_readClause_47 rfl ?_
                  refine Eq_isn dX4_readClause_51 (by decide) ?_
                  refine Eam_nl (pc' := 52) (l' := [_, _, _]) rfl rfl ?_
                  refine Eq_iln dX4_readClause_52 rfl ?_
                  refine Ef_if_eq dX4_readClause_53 (tgt := 87) rfl (by exact zf1) ?_
                  refine Eq_aln dX4_readClause_56 rfl ?_
                  refine Eq_ic (v := nI 0) dX4_readClause_57 rfl ?_
                  refine Eq_W1 (N := m_X4_readSum) dX4_readClause_58 lk_X4_48 mV_X4_readSum (c_sum6 _ _ _ hW3 hA3 hR3 (by omega)) (by decide) (ws_6 hW3) rfl (by decide) (Nat.le_of_ble_eq_true rfl) (Nat.le_of_ble_eq_true rfl) (fun vq hq1 hq2 => ?_)
                  obtain ⟨rfl, hf4, hA4, hR4⟩ := hq2.s hq
                  have hW4 := hf4.Wd hW3
                  have hff4 := hff.tr hf4
                  refine Et_if_ne 66 dX4_readClause_61 rfl (by exact zf1) ?_
                  refine Eq_aln dX4_readClause_66 rfl ?_
                  refine Eq_getR dX4_readClause_67 fl_X4_9 (ws_6 hW4) rfl (wp_6_0 hW4) ?_
                  refine Eq_W0 (N := m_X9_next) dX4_readClause_70 lk_X4_36 mV_X9_next (c_next hW4 hA4) (by decide) (ws_1 hW4) rfl (by decide) (Nat.le_of_ble_eq_true rfl) (Nat.le_of_ble_eq_true rfl) (fun vq hq1 hq2 => ?_)
                  obtain ⟨rfl, hf7, hA7⟩ := hq2
                  have hW7 := hf7.Wd hW4
                  have hR7 := hR4.fx hf7 (by decide)
                  have hff7 := hff4.tr (hf7.mono (by decide) (by decide))
                  refine Eq_S1 (N := m_X4_isRelation) dX4_readClause_73 lk_X4_51 mS_X4_isRelation ((by have z := c_isRelation (h := hq1) (sgn256 hA (nx tl tp (smP tl tp 6 (nx tl tp (nx tl tp (nx tl tp a + 1) + 1))).1)); rw [if_neg er] at z; exact z)) (by decide) (Nat.le_of_ble_eq_true rfl) (Nat.le_of_ble_eq_true rfl) ?_
                  refine Et_if_ne 87 dX4_readClause_76 rfl (by exact zf1) ?_
                  refine Eq_aln dX4_readClause_87 rfl ?_
                  refine Eq_ic (v := nI 0) dX4_readClause_88 rfl ?_
                  refine Eq_iln dX4_readClause_89 rfl ?_
                  refine Eq_W2 (N := m_X4_readCondition) dX4_readClause_90 lk_X4_58 mV_X4_readCondition (c_bgn6x hW7 hA7 hR7 (by simp only [List.length_append, List.length_map]; omega)) (by decide) (ws_6 hW7) rfl (by decide) (Nat.le_of_ble_eq_true rfl) (Nat.le_of_ble_eq_true rfl) (fun vq hq1 hq2 => ?_)
                  obtain ⟨rfl, hf5, hA5, hR5⟩ := hq2.s hb
                  have hW5 := hf5.Wd hW7
                  have hff5 := hff7.tr hf5
                  refine Ef_if_eq dX4_readClause_93 (tgt := 107) rfl (by exact zf1) ?_
                  refine Eq_aln dX4_readClause_96 rfl ?_
                  refine Eq_W0 (N := m_X4_readConsequence) dX4_readClause_97 lk_X4_62 mV_X4_readConsequence (c_readConsequence hW5 hA5 hR5 (by simp only [List.length_append, List.length_map]; omega) (by omega)) (by decide) (ws_6 hW5) rfl (by decide) (Nat.le_of_ble_eq_true rfl) (Nat.le_of_ble_eq_true rfl) (fun vq hq1 hq2 => ?_)
                  have hq3 := hq2.n hr
                  obtain ⟨rfl, hf6, hA6⟩ := hq3
                  refine Et_if_eq 107 dX4_readClause_100 rfl (by rfl) ?_
                  refine Eq_ic (v := nI 0) dX4_readClause_107 rfl ?_
                  first | refine Eq_zrn dX4_readClause_108 rfl (by first | omega | exact b2_le) ?_ | refine Eq_zr dX4_readClause_108 rfl (by first | exact Or.inl rfl | exact Or.inr rfl | assumption) ?_
                  exact hq2.tr hff5
                | some c =>
                  refine Eq_aln dX4_readClause_0 rfl ?_
                  refine Eq_getR dX4_readClause_1 fl_X4_9 (ws_6 hW) rfl (wp_6_0 hW) ?_
                  refine Eq_bp (v := nI 121) dX4_readClause_4 rfl ?_
                  refine Eq_W1 (N := m_X9_pass) dX4_readClause_6 lk_X4_32 mV_X9_pass (c_pass hW hA (c := 121) (by omega)) (by decide) (ws_1 hW) rfl (by decide) (Nat.le_of_ble_eq_true rfl) (Nat.le_of_ble_eq_true rfl) (fun vq hq1 hq2 => ?_)
                  rw [if_pos e1] at hq2
                  obtain ⟨rfl, hf1, hA1⟩ := hq2
                  have hW1 := hf1.Wd hW
                  have hR1 := hR.fx hf1 (by decide)
                  refine Ef_if_eq dX4_readClause_9 (tgt := 24) rfl (by exact zf1) ?_
                  refine Eq_aln dX4_readClause_12 rfl ?_
                  refine Eq_getR dX4_readClause_13 fl_X4_9 (ws_6 hW1) rfl (wp_6_0 hW1) ?_
                  refine Eq_bp (v := nI 58) dX4_readClause_16 rfl ?_
                  refine Eq_W1 (N := m_X9_pass) dX4_readClause_18 lk_X4_32 mV_X9_pass (c_pass hW1 hA1 (c := 58) (by omega)) (by decide) (ws_1 hW1) rfl (by decide) (Nat.le_of_ble_eq_true rfl) (Nat.le_of_ble_eq_true rfl) (fun vq hq1 hq2 => ?_)
                  rw [if_pos e2] at hq2
                  obtain ⟨rfl, hf2, hA2⟩ := hq2
                  have hW2 := hf2.Wd hW1
                  have hR2 := hR1.fx hf2 (by decide)
                  refine Et_if_ne 26 dX4_readClause_21 rfl (by exact zf1) ?_
                  refine Eq_aln dX4_readClause_26 rfl ?_
                  refine Eq_getR dX4_readClause_27 fl_X4_9 (ws_6 hW2) rfl (wp_6_0 hW2) ?_
                  refine Eq_W0 (N := m_X9_next) dX4_readClause_30 lk_X4_36 mV_X9_next (c_next hW2 hA2) (by decide) (ws_1 hW2) rfl (by decide) (Nat.le_of_ble_eq_true rfl) (Nat.le_of_ble_eq_true rfl) (fun vq hq1 hq2 => ?_)
                  obtain ⟨rfl, hf3, hA3⟩ := hq2
                  have hW3 := hf3.Wd hW2
                  have hR3 := hR2.fx hf3 (by decide)
                  have hff := (hf1.mono (A' := [7]) (B' := [(6, 2), (1, 2)]) (by decide) (by decide)).tr ((hf2.mono (by decide) (by decide)).tr (hf3.mono (by decide) (by decide)))
                  refine Eq_isn dX4_readClause_33 (by decide) ?_
                  refine Eam_nl (pc' := 34) (l' := [_, _, _]) rfl rfl ?_
                  refine Eq_iln dX4_readClause_34 rfl ?_
                  refine Eq_bp (v := nI 33) dX4_readClause_35 rfl ?_
                  refine Ef_ic_eq dX4_readClause_37 (tgt := 50) rfl (by exact fun z => e33 ((oNlt (fun k hk => by have := h2 k hk; omega) 33 (by omega)).mp z)) ?_
                  refine Eq_iln dX4_readClause_40 rfl ?_
                  refine Eq_bp (v := nI 40) dX4_readClause_41 rfl ?_
                  refine Ef_ic_eq dX4_readClause_43 (tgt := 50) rfl (by exact fun z => e40 ((oNlt (fun k hk => by have := h2 k hk; omega) 40 (by omega)).mp z)) ?_
                  refine Eq_ic (v := nI 1) dX4_readClause_46 rfl ?_
                  refine Eam_x_goto (tgt := 51) dX4_readClause_47 rfl ?_
                  refine Eq_isn dX4_readClause_51 (by decide) ?_
                  refine Eam_nl (pc' := 52) (l' := [_, _, _]) rfl rfl ?_
                  refine Eq_iln dX4_readClause_52 rfl ?_
                  refine Ef_if_eq dX4_readClause_53 (tgt := 87) rfl (by exact zf1) ?_
                  refine Eq_aln dX4_readClause_56 rfl ?_
                  refine Eq_ic (v := nI 0) dX4_readClause_57 rfl ?_
                  refine Eq_W1 (N := m_X4_readSum) dX4_readClause_58 lk_X4_48 mV_X4_readSum (c_sum6 _ _ _ hW3 hA3 hR3 (by omega)) (by decide) (ws_6 hW3) rfl (by decide) (Nat.le_of_ble_eq_true rfl) (Nat.le_of_ble_eq_true rfl) (fun vq hq1 hq2 => ?_)
                  obtain ⟨rfl, hf4, hA4, hR4⟩ := hq2.s hq
                  have hW4 := hf4.Wd hW3
                  have hff4 := hff.tr hf4
                  refine Et_if_ne 66 dX4_readClause_61 rfl (by exact zf1) ?_
                  refine Eq_aln dX4_readClause_66 rfl ?_
                  refine Eq_getR dX4_readClause_67 fl_X4_9 (ws_6 hW4) rfl (wp_6_0 hW4) ?_
                  refine Eq_W0 (N := m_X9_next) dX4_readClause_70 lk_X4_36 mV_X9_next (c_next hW4 hA4) (by decide) (ws_1 hW4) rfl (by decide) (Nat.le_of_ble_eq_true rfl) (Nat.le_of_ble_eq_true rfl) (fun vq hq1 hq2 => ?_)
                  obtain ⟨rfl, hf7, hA7⟩ := hq2
                  have hW7 := hf7.Wd hW4
                  have hR7 := hR4.fx hf7 (by decide)
                  have hff7 := hff4.tr (hf7.mono (by decide) (by decide))
                  refine Eq_S1 (N := m_X4_isRelation) dX4_readClause_73 lk_X4_51 mS_X4_isRelation ((by have z := c_isRelation (h := hq1) (sgn256 hA (nx tl tp (smP tl tp 6 (nx tl tp (nx tl tp (nx tl tp a + 1) + 1))).1)); rw [if_neg er] at z; exact z)) (by decide) (Nat.le_of_ble_eq_true rfl) (Nat.le_of_ble_eq_true rfl) ?_
                  refine Et_if_ne 87 dX4_readClause_76 rfl (by exact zf1) ?_
                  refine Eq_aln dX4_readClause_87 rfl ?_
                  refine Eq_ic (v := nI 0) dX4_readClause_88 rfl ?_
                  refine Eq_iln dX4_readClause_89 rfl ?_
                  refine Eq_W2 (N := m_X4_readCondition) dX4_readClause_90 lk_X4_58 mV_X4_readCondition (c_bgn6x hW7 hA7 hR7 (by simp only [List.length_append, List.length_map]; omega)) (by decide) (ws_6 hW7) rfl (by decide) (Nat.le_of_ble_eq_true rfl) (Nat.le_of_ble_eq_true rfl) (fun vq hq1 hq2 => ?_)
                  obtain ⟨rfl, hf5, hA5, hR5⟩ := hq2.s hb
                  have hW5 := hf5.Wd hW7
                  have hff5 := hff7.tr hf5
                  refine Ef_if_eq dX4_readClause_93 (tgt := 107) rfl (by exact zf1) ?_
                  refine Eq_aln dX4_readClause_96 rfl ?_
                  refine Eq_W0 (N := m_X4_readConsequence) dX4_readClause_97 lk_X4_62 mV_X4_readConsequence (c_readConsequence hW5 hA5 hR5 (by simp only [List.length_append, List.length_map]; omega) (by omega)) (by decide) (ws_6 hW5) rfl (by decide) (Nat.le_of_ble_eq_true rfl) (Nat.le_of_ble_eq_true rfl) (fun vq hq1 hq2 => ?_)
                  have hq3 := hq2.s hr
                  obtain ⟨rfl, hf6, hA6⟩ := hq3
                  refine Ef_if_eq dX4_readClause_100 (tgt := 107) rfl (by exact zf1) ?_
                  refine Eq_ic (v := nI 1) dX4_readClause_103 rfl ?_
                  refine Eam_x_goto (tgt := 108) dX4_readClause_104 rfl ?_
                  first | refine Eq_zrn dX4_readClause_108 rfl (by first | omega | exact b2_le) ?_ | refine Eq_zr dX4_readClause_108 rfl (by first | exact Or.inl rfl | exact Or.inr rfl | assumption) ?_
                  exact hq2.tr hff5
    · rw [if_neg e2]
      refine Eq_aln dX4_readClause_0 rfl ?_
      refine Eq_getR dX4_readClause_1 fl_X4_9 (ws_6 hW) rfl (wp_6_0 hW) ?_
      refine Eq_bp (v := nI 121) dX4_readClause_4 rfl ?_
      refine Eq_W1 (N := m_X9_pass) dX4_readClause_6 lk_X4_32 mV_X9_pass (c_pass hW hA (c := 121) (by omega)) (by decide) (ws_1 hW) rfl (by decide) (Nat.le_of_ble_eq_true rfl) (Nat.le_of_ble_eq_true rfl) (fun vq hq1 hq2 => ?_)
      rw [if_pos e1] at hq2
      obtain ⟨rfl, hf1, hA1⟩ := hq2
      have hW1 := hf1.Wd hW
      have hR1 := hR.fx hf1 (by decide)
      refine Ef_if_eq dX4_readClause_9 (tgt := 24) rfl (by exact zf1) ?_
      refine Eq_aln dX4_readClause_12 rfl ?_
      refine Eq_getR dX4_readClause_13 fl_X4_9 (ws_6 hW1) rfl (wp_6_0 hW1) ?_
      refine Eq_bp (v := nI 58) dX4_readClause_16 rfl ?_
      refine Eq_W1 (N := m_X9_pass) dX4_readClause_18 lk_X4_32 mV_X9_pass (c_pass hW1 hA1 (c := 58) (by omega)) (by decide) (ws_1 hW1) rfl (by decide) (Nat.le_of_ble_eq_true rfl) (Nat.le_of_ble_eq_true rfl) (fun vq hq1 hq2 => ?_)
      rw [if_neg e2] at hq2
      obtain ⟨rfl, hf2, hA2⟩ := hq2
      have hW2 := hf2.Wd hW1
      have hR2 := hR1.fx hf2 (by decide)
      refine Ef_if_ne dX4_readClause_21 (tgt := 26) rfl (by rfl) ?_
      refine Eq_ic (v := nI 0) dX4_readClause_24 rfl ?_
      first | refine Eq_zrn dX4_readClause_25 rfl (by first | omega | exact b2_le) ?_ | refine Eq_zr dX4_readClause_25 rfl (by first | exact Or.inl rfl | exact Or.inr rfl | assumption) ?_
      exact ⟨(hf1.mono (by decide) (by decide)).tr (hf2.mono (by decide) (by decide)), rfl, hA2⟩
  · rw [if_neg e1]
    refine Eq_aln dX4_readClause_0 rfl ?_
    refine Eq_getR dX4_readClause_1 fl_X4_9 (ws_6 hW) rfl (wp_6_0 hW) ?_
    refine Eq_bp (v := nI 121) dX4_readClause_4 rfl ?_
    refine Eq_W1 (N := m_X9_pass) dX4_readClause_6 lk_X4_32 mV_X9_pass (c_pass hW hA (c := 121) (by omega)) (by decide) (ws_1 hW) rfl (by decide) (Nat.le_of_ble_eq_true rfl) (Nat.le_of_ble_eq_true rfl) (fun vq hq1 hq2 => ?_)
    rw [if_neg e1] at hq2
    obtain ⟨rfl, hf1, hA1⟩ := hq2
    have hW1 := hf1.Wd hW
    have hR1 := hR.fx hf1 (by decide)
    refine Et_if_eq 24 dX4_readClause_9 rfl (by rfl) ?_
    refine Eq_ic (v := nI 0) dX4_readClause_24 rfl ?_
    first | refine Eq_zrn dX4_readClause_25 rfl (by first | omega | exact b2_le) ?_ | refine Eq_zr dX4_readClause_25 rfl (by first | exact Or.inl rfl | exact Or.inr rfl | assumption) ?_
    exact ⟨hf1.mono (by decide) (by decide), rfl, hA1⟩
def MRQ (tl : Nat) (tp : Nat → Nat) (r : Nat × Option (List (Tks × Tks))) (w : Option Value) (h2 : am_H) : Prop := match r.2 with
  | none => w = some (.int (nI r.1)) ∧ ∃ a, TA h2 tl tp a
  | some M => w = some (.int (-1)) ∧ (∃ a, TA h2 tl tp a) ∧ WR h2 (lay 0 M)
theorem mcs_n {tl : Nat} {tp : Nat → Nat} {k a : Nat} {M : List (Tks × Tks)} (h : (mcl tl tp a).2 = none) : mcs tl tp (k + 1) a M = ((mcl tl tp a).1, none) := by simp only [mcs, h]
theorem mcs_y {tl : Nat} {tp : Nat → Nat} {k a : Nat} {M : List (Tks × Tks)} {c : Tks × Tks} (h : (mcl tl tp a).2 = some c) (hc : sgn tl tp (nx tl tp (mcl tl tp a).1) = some 59) : mcs tl tp (k + 1) a M = mcs tl tp k (nx tl tp (mcl tl tp a).1 + 1) (M ++ [c]) := by simp only [mcs, h]; rw [if_pos hc]
theorem mcs_e {tl : Nat} {tp : Nat → Nat} {k a : Nat} {M : List (Tks × Tks)} {c : Tks × Tks} (h : (mcl tl tp a).2 = some c) (hc : ¬ sgn tl tp (nx tl tp (mcl tl tp a).1) = some 59) (he : sgn tl tp (nx tl tp (mcl tl tp a).1) = none) : mcs tl tp (k + 1) a M = (nx tl tp (mcl tl tp a).1, some (M ++ [c])) := by simp only [mcs, h]; rw [if_neg hc, if_pos he]
theorem mcs_f {tl : Nat} {tp : Nat → Nat} {k a : Nat} {M : List (Tks × Tks)} {c : Tks × Tks} (h : (mcl tl tp a).2 = some c) (hc : ¬ sgn tl tp (nx tl tp (mcl tl tp a).1) = some 59) (he : ¬ sgn tl tp (nx tl tp (mcl tl tp a).1) = none) : mcs tl tp (k + 1) a M = (nx tl tp (mcl tl tp a).1, none) := by simp only [mcs, h]; rw [if_neg hc, if_neg he]
set_option maxHeartbeats 2000000 in
theorem c_mread_ok {tl : Nat} {tp : Nat → Nat} {p : Nat} {M : List (Tks × Tks)} {h : am_H} (hW : Wd h) (hA : TA h tl tp p) (hR : WR h (lay 0 M)) (hp : nx tl tp p = p) {l2 : Option Value} : am_E 29 m_X4_read 53 [some (.ref 6), some (.int (nI 1)), l2] [] h (fun w h2 => Fx [7] [(6, 2), (1, 2)] h h2 ∧ MRQ tl tp (if sgn tl tp p = none then (p, some M) else (p, none)) w h2) := by
  have h2 := sgn256 hA (nx tl tp p)
  by_cases e : sgn tl tp p = none
  · rw [if_pos e]
    refine Eq_iln dX4_read_53 rfl ?_
    refine Ef_if_eq dX4_read_54 (tgt := 72) rfl (by exact zf1) ?_
    refine Eq_aln dX4_read_57 rfl ?_
    refine Eq_getR dX4_read_58 fl_X4_9 (ws_6 hW) rfl (wp_6_0 hW) ?_
    refine Eq_W0 (N := m_X9_next) dX4_read_61 lk_X4_36 mV_X9_next (c_next hW hA) (by decide) (ws_1 hW) rfl (by decide) (Nat.le_of_ble_eq_true rfl) (Nat.le_of_ble_eq_true rfl) (fun vq hq1 hq2 => ?_)
    obtain ⟨rfl, hf1, hA1⟩ := hq2
    have hW1 := hf1.Wd hW
    have hR1 := hR.fx hf1 (by decide)
    refine Eq_ic (v := -1) dX4_read_64 rfl ?_
    refine Ef_ic_ne dX4_read_65 (tgt := 72) rfl (by rw [hp, e]; rfl) ?_
    refine Eq_ic (v := -1) dX4_read_68 rfl ?_
    refine Eam_x_goto (tgt := 79) dX4_read_69 rfl ?_
    refine Eq_ir dX4_read_79 rfl ?_
    exact ⟨hf1.mono (by decide) (by decide), rfl, ⟨_, hA1⟩, hR1⟩
  · rw [if_neg e]
    refine Eq_iln dX4_read_53 rfl ?_
    refine Ef_if_eq dX4_read_54 (tgt := 72) rfl (by exact zf1) ?_
    refine Eq_aln dX4_read_57 rfl ?_
    refine Eq_getR dX4_read_58 fl_X4_9 (ws_6 hW) rfl (wp_6_0 hW) ?_
    refine Eq_W0 (N := m_X9_next) dX4_read_61 lk_X4_36 mV_X9_next (c_next hW hA) (by decide) (ws_1 hW) rfl (by decide) (Nat.le_of_ble_eq_true rfl) (Nat.le_of_ble_eq_true rfl) (fun vq hq1 hq2 => ?_)
    obtain ⟨rfl, hf1, hA1⟩ := hq2
    have hW1 := hf1.Wd hW
    have hR1 := hR.fx hf1 (by decide)
    refine Eq_ic (v := -1) dX4_read_64 rfl ?_
    refine Et_ic_ne 72 dX4_read_65 rfl (by exact fun z => e (by rw [← hp]; exact (oNn (fun k hk => by have := h2 k hk; omega)).mp z)) ?_
    refine Eq_aln dX4_read_72 rfl ?_
    refine Eq_getR dX4_read_73 fl_X4_9 (ws_6 hW1) rfl (wp_6_0 hW1) ?_
    refine Eq_getI dX4_read_76 fl_X4_40 (ws_1 hW1) rfl hA1.2.1 ?_
    refine Eq_ir dX4_read_79 rfl ?_
    exact ⟨hf1.mono (by decide) (by decide), by rw [hp], ⟨_, hA1⟩⟩
theorem MCQ.int2 {tl : Nat} {tp : Nat → Nat} {r : Nat × Option (Tks × Tks)} {l : List Int32} {h h2 : am_H} {w : Option Value} (m : MCQ tl tp r l h w h2) : ∃ x, w = some (.int x) := by
  cases m.int with
  | inl z => exact ⟨_, z.1⟩
  | inr z => exact ⟨_, z.1⟩
set_option maxHeartbeats 2000000 in
theorem c_mread_lp {tl : Nat} {tp : Nat → Nat} : ∀ k a M h h0 w j, tl < a + k → a ≤ tl → 2 * j ≤ a + 2 → Wd h → MCQ tl tp (mcl tl tp a) (lay 0 M) h0 w h → (lay 0 M).length ≤ a → am_E 29 m_X4_read 19 [some (.ref 6), w, some (.int (nI j))] [] h (fun w2 h2 => Fx [7] [(6, 2), (1, 2)] h h2 ∧ MRQ tl tp (mcs tl tp k a M) w2 h2) := by
  intro k
  induction k with
  | zero => intro a M h h0 w j hk hl; omega
  | succ k ih =>
    intro a M h h0 w j hk hl hj hW hC hlM
    have hcl := mcl_pr (tp := tp) hl
    have hx1 := nx_ge (tl := tl) (tp := tp) (a := (mcl tl tp a).1)
    cases hq : (mcl tl tp a).2 with
    | none =>
      obtain ⟨rfl, _, hA⟩ := hC.n hq
      rw [mcs_n hq]
      show am_E _ _ _ _ _ _ (fun w2 h2 => Fx [7] [(6, 2), (1, 2)] h h2 ∧ w2 = some (.int (nI (mcl tl tp a).1)) ∧ ∃ a, TA h2 tl tp a)
      refine Eq_iln dX4_read_19 rfl ?_
      refine Et_if_eq 53 dX4_read_20 rfl (by rfl) ?_
      refine Eq_iln dX4_read_53 rfl ?_
      refine Et_if_eq 72 dX4_read_54 rfl (by rfl) ?_
      refine Eq_aln dX4_read_72 rfl ?_
      refine Eq_getR dX4_read_73 fl_X4_9 (ws_6 hW) rfl (wp_6_0 hW) ?_
      refine Eq_getI dX4_read_76 fl_X4_40 (ws_1 hW) rfl hA.2.1 ?_
      refine Eq_ir dX4_read_79 rfl ?_
      exact ⟨Fx.rf, rfl, ⟨_, hA⟩⟩
    | some c =>
      obtain ⟨rfl, _, hA, hR⟩ := hC.s hq
      have hlt := hcl.2.2 c hq
      have hlay : lay 0 (M ++ [c]) = lay 0 M ++ cly (lay 0 M).length c := by rw [lay_app, Nat.zero_add]
      have hll : (lay 0 (M ++ [c])).length ≤ (mcl tl tp a).1 := by
        have := hlt.2 (lay 0 M).length
        rw [hlay, List.length_append]
        omega
      rw [← hlay] at hR
      have htl := hA.1.2.1
      by_cases e : sgn tl tp (nx tl tp (mcl tl tp a).1) = some 59
      · rw [mcs_y hq e]
        have hxl := (sgn_lt e).1
        refine Eq_iln dX4_read_19 rfl ?_
        refine Ef_if_eq dX4_read_20 (tgt := 53) rfl (by exact zf1) ?_
        refine Eq_iln dX4_read_23 rfl ?_
        refine Eq_sp (v := nI 160) dX4_read_24 rfl ?_
        refine Ef_ic_ge dX4_read_27 (tgt := 53) rfl (by exact nI_ge (b := 160) (by omega) (by omega)) ?_
        refine Eq_aln dX4_read_30 rfl ?_
        refine Eq_getR dX4_read_31 fl_X4_9 (ws_6 hW) rfl (wp_6_0 hW) ?_
        refine Eq_bp (v := nI 59) dX4_read_34 rfl ?_
        refine Eq_W1 (N := m_X9_pass) dX4_read_36 lk_X4_32 mV_X9_pass (c_pass hW hA (c := 59) (by omega)) (by decide) (ws_1 hW) rfl (by decide) (Nat.le_of_ble_eq_true rfl) (Nat.le_of_ble_eq_true rfl) (fun vq hq1 hq2 => ?_)
        rw [if_pos e] at hq2
        obtain ⟨rfl, hf1, hA1⟩ := hq2
        have hW1 := hf1.Wd hW
        have hR1 := hR.fx hf1 (by decide)
        refine Ef_if_eq dX4_read_39 (tgt := 53) rfl (by exact zf1) ?_
        refine Eq_aln dX4_read_42 rfl ?_
        refine Eq_W0 (N := m_X4_readClause) dX4_read_43 lk_X4_28 mV_X4_readClause (c_mclause hW1 hA1 hR1 (by omega)) (by decide) (ws_6 hW1) rfl (by decide) (Nat.le_of_ble_eq_true rfl) (Nat.le_of_ble_eq_true rfl) (fun vq hq1 hq2 => ?_)
        obtain ⟨xq, rfl⟩ := hq2.int2
        refine Eq_isn dX4_read_46 (by decide) ?_
        refine Eam_nl (pc' := 47) (l' := [_, _, _]) rfl rfl ?_
        refine Eq_inc dX4_read_47 rfl (by decide) ?_
        refine Eam_nl (pc' := 50) (l' := [_, _, _]) rfl rfl ?_
        refine Eam_x_goto (tgt := 19) dX4_read_50 rfl ?_
        obtain ⟨v5, h5, z1, z2, z3⟩ := ih (nx tl tp (mcl tl tp a).1 + 1) (M ++ [c]) hq1 _ _ (j + 1) (by omega) (by omega) (by omega) (hq2.1.Wd hW1) hq2 (by omega)
        exact ⟨v5, h5, z1, ((hf1.mono (by decide) (by decide)).tr hq2.1).tr z2, z3⟩
      · have hm : mcs tl tp (k + 1) a M = if sgn tl tp (nx tl tp (mcl tl tp a).1) = none then (nx tl tp (mcl tl tp a).1, some (M ++ [c])) else (nx tl tp (mcl tl tp a).1, none) := by
          split
          next e2 => exact mcs_e hq e e2
          next e2 => exact mcs_f hq e e2
        rw [hm]
        refine Eq_iln dX4_read_19 rfl ?_
        refine Ef_if_eq dX4_read_20 (tgt := 53) rfl (by exact zf1) ?_
        refine Eq_iln dX4_read_23 rfl ?_
        refine Eq_sp (v := nI 160) dX4_read_24 rfl ?_
        refine Ef_ic_ge dX4_read_27 (tgt := 53) rfl (by exact nI_ge (b := 160) (by omega) (by omega)) ?_
        refine Eq_aln dX4_read_30 rfl ?_
        refine Eq_getR dX4_read_31 fl_X4_9 (ws_6 hW) rfl (wp_6_0 hW) ?_
        refine Eq_bp (v := nI 59) dX4_read_34 rfl ?_
        refine Eq_W1 (N := m_X9_pass) dX4_read_36 lk_X4_32 mV_X9_pass (c_pass hW hA (c := 59) (by omega)) (by decide) (ws_1 hW) rfl (by decide) (Nat.le_of_ble_eq_true rfl) (Nat.le_of_ble_eq_true rfl) (fun vq hq1 hq2 => ?_)
        rw [if_neg e] at hq2
        obtain ⟨rfl, hf1, hA1⟩ := hq2
        have hW1 := hf1.Wd hW
        have hR1 := hR.fx hf1 (by decide)
        refine Et_if_eq 53 dX4_read_39 rfl (by rfl) ?_
        obtain ⟨v5, h5, z1, z2, z3⟩ := c_mread_ok hW1 hA1 hR1 nx_nx
        exact ⟨v5, h5, z1, (hf1.mono (by decide) (by decide)).tr z2, z3⟩
set_option maxHeartbeats 2000000 in
theorem c_mread {tl : Nat} {tp : Nat → Nat} {h : am_H} {a : Nat} (hW : Wd h) (hA : TA h tl tp a) : am_D 29 m_X4_read [.ref 6] h (fun w h2 => Fx [7] [(6, 2), (1, 2)] h h2 ∧ MRQ tl tp (mcs tl tp 161 0 []) w h2) := by
  have k1 : Fx [7] [(6, 2), (1, 2)] h (am_wI h 6 2 (nI 0)) := Fx.wI (Or.inr (by decide))
  have hA0 := hA.fx (Fx.wI (A := []) (B := [(6, 2)]) (r := 6) (j := 2) (v := nI 0) (Or.inr (by decide))) (by decide)
  have k2 : Fx [7] [(6, 2), (1, 2)] h (am_wI (am_wI h 6 2 (nI 0)) 1 2 (nI 0)) := k1.tr (Fx.wI (Or.inr (by decide)))
  have hA1 := hA0.mv (b := 0) (by omega)
  have htl := hA.1.2.1
  refine Eq_aln dX4_read_0 rfl ?_
  refine Eq_ic (v := nI 0) dX4_read_1 rfl ?_
  refine Eam_x_putI dX4_read_2 (fw_X4_21 rfl) (ws_6 hW) (Or.inl rfl) ?_
  refine Eq_aln dX4_read_5 rfl ?_
  refine Eq_getR dX4_read_6 fl_X4_9 (ws_6 hW) rfl (wp_6_0 hW) ?_
  refine Eq_V0 (N := m_X9_rewind) dX4_read_9 lk_X4_25 mV_X9_rewind (c_rewind (k1.Wd hW)) (by decide) (ws_1 hW) rfl (by decide) (Nat.le_of_ble_eq_true rfl) (Nat.le_of_ble_eq_true rfl) ?_
  refine Eq_aln dX4_read_12 rfl ?_
  refine Eq_W0 (N := m_X4_readClause) dX4_read_13 lk_X4_28 mV_X4_readClause (c_mclause (l := []) (k2.Wd hW) hA1 ⟨rfl, by simp, fun i hi => by simp at hi⟩ (by simp)) (by decide) (ws_6 hW) rfl (by decide) (Nat.le_of_ble_eq_true rfl) (Nat.le_of_ble_eq_true rfl) (fun vq hq1 hq2 => ?_)
  obtain ⟨xq, rfl⟩ := hq2.int2
  refine Eq_isn dX4_read_16 (by decide) ?_
  refine Eam_nl (pc' := 17) (l' := [_, _, _]) rfl rfl ?_
  refine Eq_ic (v := nI 1) dX4_read_17 rfl ?_
  refine Eq_isn dX4_read_18 (by decide) ?_
  refine Eam_nl (pc' := 19) (l' := [_, _, _]) rfl rfl ?_
  obtain ⟨v5, h5, z1, z2, z3⟩ := c_mread_lp 161 0 [] hq1 _ _ 1 (by omega) (by omega) (by omega) ((k2.tr hq2.1).Wd hW) hq2 (by simp [lay])
  exact ⟨v5, h5, z1, (k2.tr hq2.1).tr z2, z3⟩
