/-! the reference reads a whole text of manners -/
set_option maxHeartbeats 2000000 in
theorem r_cl_a {tl : Nat} {tp : Nat → Nat} {n : Nat} {M : List (Tks × Tks)} {h : am_H} (hW : Wd h) (hn : n ≤ 4) (hM : M.length < 90) (htl : tl ≤ 160) {x : Nat} (hA : RA h tl tp x) (hx : x ≤ tl) (hw : am_i h 50 4 = -1) (hC : CW h n (flt M)) (hl : (flt M).length ≤ x) (hK : KE h n M) (h55 : am_i h 55 n = nI M.length) (h56 : am_i h 56 (90 * n + M.length) = nI (flt M).length) (hd : am_i h 50 5 = nI 0) : am_E 35 m_X12_clause 128 [some (.ref 50), some (.int (nI (90 * n + M.length))), some (.int (nI 1))] [] h (MLQ tl tp n M (bdc (cndW tl tp (unP tl tp 6) x) (csq tl tp)) h) := by
  have hpi := cndW_pr (tp := tp) (unP_pr (tp := tp) (tl := tl) 6) x hx
  cases hq : (cndW tl tp (unP tl tp 6) x).2 with
  | none =>
    rw [bdc_n hq]
    refine Eq_iln dX12_clause_128 rfl ?_
    refine Ef_if_eq dX12_clause_129 (tgt := 139) rfl (by exact zf1) ?_
    refine Eq_aln dX12_clause_132 rfl ?_
    refine Eq_W0 (N := m_X12_condition) dX12_clause_133 lk_X12_169 mV_X12_condition (r_cond6 _ _ _ hW hA hx hC hl hw hd) (by decide) (ws_50 hW) rfl (by decide) (Nat.le_of_ble_eq_true rfl) (Nat.le_of_ble_eq_true rfl) (fun vq hq1 hq2 => ?_)
    obtain ⟨rfl, hn2, hw2, b2, c, hA2, hb2, hc2, hc3⟩ := hq2.n hq
    have hW2 := hn2.1.Wd hW
    refine Eam_x_goto (tgt := 183) dX12_clause_136 rfl ?_
    obtain ⟨v5, h5, z1, z2⟩ := r_cl_bad (M := M) (x := nI 1) hW2 hn hM htl (hn2.t.trans hC.1) hA2 hpi.2.1 hw2 hc2
    exact ⟨v5, h5, z1, z2.tr hn2.g⟩
  | some ts =>
    rw [bdc_s hq]
    have hul := hpi.2.2 ts hq
    refine Eq_iln dX12_clause_128 rfl ?_
    refine Ef_if_eq dX12_clause_129 (tgt := 139) rfl (by exact zf1) ?_
    refine Eq_aln dX12_clause_132 rfl ?_
    refine Eq_W0 (N := m_X12_condition) dX12_clause_133 lk_X12_169 mV_X12_condition (r_cond6 _ _ _ hW hA hx hC hl hw hd) (by decide) (ws_50 hW) rfl (by decide) (Nat.le_of_ble_eq_true rfl) (Nat.le_of_ble_eq_true rfl) (fun vq hq1 hq2 => ?_)
    obtain ⟨rfl, hn2, hw2, hA2, hC2, hd2⟩ := hq2.s hq
    have hW2 := hn2.1.Wd hW
    have hK2 := hK.fx hn2.1 (by decide)
    have h552 : am_i hq1 55 n = nI M.length := (hn2.1.i (by decide) (by simp)).trans h55
    have h562 : am_i hq1 56 (90 * n + M.length) = nI (flt M).length := (hn2.1.i (by decide) (by simp)).trans h56
    refine Eam_x_goto (tgt := 183) dX12_clause_136 rfl ?_
    obtain ⟨v5, h5, z1, z2⟩ := r_cl_csq (M := M) hW2 hn hM htl hC2.1 hA2 hpi.2.1 hw2 hC2 (by simp only [List.length_append]; omega) hK2 h552 h562 (hd2.trans hd)
    exact ⟨v5, h5, z1, z2.tr hn2.g⟩
set_option maxHeartbeats 2000000 in
theorem r_cl_b {tl : Nat} {tp : Nat → Nat} {n : Nat} {M : List (Tks × Tks)} {h : am_H} (hW : Wd h) (hn : n ≤ 4) (hM : M.length < 90) (htl : tl ≤ 160) {x : Nat} (hA : RA h tl tp x) (hx : x ≤ tl) (hw : am_i h 50 4 = -1) (hC : CW h n (flt M)) (hl : (flt M).length ≤ x) (hK : KE h n M) (h55 : am_i h 55 n = nI M.length) (h56 : am_i h 56 (90 * n + M.length) = nI (flt M).length) (hd : am_i h 50 5 = nI 0) : am_E 35 m_X12_clause 128 [some (.ref 50), some (.int (nI (90 * n + M.length))), some (.int (nI 0))] [] h (MLQ tl tp n M (bdc (smP tl tp 6 x) (fun b ts => if rel (sgn tl tp (nx tl tp b)) = none then (nx tl tp b, some ([], ts)) else bdc (bgn tl tp b ts) (csq tl tp))) h) := by
  have hpi := smP_pr (tp := tp) (tl := tl) 6 x hx
  cases hq : (smP tl tp 6 x).2 with
  | none =>
    rw [bdc_n hq]
    refine Eq_iln dX12_clause_128 rfl ?_
    refine Et_if_eq 139 dX12_clause_129 rfl (by rfl) ?_
    refine Eq_aln dX12_clause_139 rfl ?_
    refine Eq_W0 (N := m_X12_sum) dX12_clause_140 lk_X12_150 mV_X12_sum (r_sum6 _ _ _ hW hA hx hC hl hw hd) (by decide) (ws_50 hW) rfl (by decide) (Nat.le_of_ble_eq_true rfl) (Nat.le_of_ble_eq_true rfl) (fun vq hq1 hq2 => ?_)
    obtain ⟨rfl, hn2, hw2, b2, c, hA2, hb2, hc2, hc3⟩ := hq2.n hq
    have hW2 := hn2.1.Wd hW
    refine Eq_aln dX12_clause_143 rfl ?_
    refine Eq_getI dX12_clause_144 fl_X12_117 (ws_50 hW2) rfl hw2 ?_
    refine Eq_ic (v := -1) dX12_clause_147 rfl ?_
    refine Et_ic_ne 165 dX12_clause_148 rfl (by exact nI_m1 (by omega)) ?_
    refine Eq_ic (v := nI 0) dX12_clause_165 rfl ?_
    refine Eq_isn dX12_clause_166 (by decide) ?_
    refine Eam_nl (pc' := 167) (l' := [_, _, _]) rfl rfl ?_
    refine Eq_iln dX12_clause_167 rfl ?_
    refine Et_if_eq 183 dX12_clause_168 rfl (by rfl) ?_
    obtain ⟨v5, h5, z1, z2⟩ := r_cl_bad (M := M) (x := nI 0) hW2 hn hM htl (hn2.t.trans hC.1) hA2 hpi.2.1 hw2 hc2
    exact ⟨v5, h5, z1, z2.tr hn2.g⟩
  | some ts =>
    rw [bdc_s hq]
    have hul := hpi.2.2 ts hq
    have hxb1 := nx_ge (tl := tl) (tp := tp) (a := (smP tl tp 6 x).1)
    have hxb2 := nx_le (tp := tp) hpi.2.1
    by_cases er : rel (sgn tl tp (nx tl tp (smP tl tp 6 x).1)) = none
    · rw [if_pos er]
      refine Eq_iln dX12_clause_128 rfl ?_
      refine Et_if_eq 139 dX12_clause_129 rfl (by rfl) ?_
      refine Eq_aln dX12_clause_139 rfl ?_
      refine Eq_W0 (N := m_X12_sum) dX12_clause_140 lk_X12_150 mV_X12_sum (r_sum6 _ _ _ hW hA hx hC hl hw hd) (by decide) (ws_50 hW) rfl (by decide) (Nat.le_of_ble_eq_true rfl) (Nat.le_of_ble_eq_true rfl) (fun vq hq1 hq2 => ?_)
      obtain ⟨rfl, hn2, hw2, hA2, hC2, hd2⟩ := hq2.s hq
      have hW2 := hn2.1.Wd hW
      have hK2 := hK.fx hn2.1 (by decide)
      have h552 : am_i hq1 55 n = nI M.length := (hn2.1.i (by decide) (by simp)).trans h55
      have h562 : am_i hq1 56 (90 * n + M.length) = nI (flt M).length := (hn2.1.i (by decide) (by simp)).trans h56
      refine Eq_aln dX12_clause_143 rfl ?_
      refine Eq_getI dX12_clause_144 fl_X12_117 (ws_50 hW2) rfl hw2 ?_
      refine Eq_ic (v := -1) dX12_clause_147 rfl ?_
      refine Ef_ic_ne dX12_clause_148 (tgt := 165) rfl (by rfl) ?_
      refine Eq_aln dX12_clause_151 rfl ?_
      refine Eq_W0 (N := m_X12_look) dX12_clause_152 lk_X12_129 mV_X12_look (r_look hW2 hA2) (by decide) (ws_50 hW2) rfl (by decide) (Nat.le_of_ble_eq_true rfl) (Nat.le_of_ble_eq_true rfl) (fun vq hq1 hq2 => ?_)
      obtain ⟨rfl, hf3, hA3⟩ := hq2
      have hW3 := hf3.Wd hW2
      have hn3 : NF n h hq1 := hn2.tr (NF.of3 hf3)
      have hC3 := hC2.fx hf3 (by decide)
      have hw3 : am_i hq1 50 4 = -1 := (hf3.i (by decide) (by decide)).trans hw2
      have hd3 : am_i hq1 50 5 = nI 0 := ((hf3.i (by decide) (by decide)).trans hd2).trans hd
      have hK3 := hK.fx hn3.1 (by decide)
      have h553 : am_i hq1 55 n = nI M.length := (hn3.1.i (by decide) (by simp)).trans h55
      have h563 : am_i hq1 56 (90 * n + M.length) = nI (flt M).length := (hn3.1.i (by decide) (by simp)).trans h56
      refine Eq_S1 (N := m_X12_isSign) dX12_clause_155 lk_X12_163 mS_X12_isSign ((by have z := r_isSign (h := hq1) (rsgn256 hA (nx tl tp (smP tl tp 6 x).1)); rw [if_pos er] at z; exact z)) (by decide) (Nat.le_of_ble_eq_true rfl) (Nat.le_of_ble_eq_true rfl) ?_
      refine Et_if_eq 165 dX12_clause_158 rfl (by rfl) ?_
      refine Eq_ic (v := nI 0) dX12_clause_165 rfl ?_
      refine Eq_isn dX12_clause_166 (by decide) ?_
      refine Eam_nl (pc' := 167) (l' := [_, _, _]) rfl rfl ?_
      refine Eq_iln dX12_clause_167 rfl ?_
      refine Et_if_eq 183 dX12_clause_168 rfl (by rfl) ?_
      obtain ⟨v5, h5, z1, z2⟩ := r_cl_sum (M := M) hW3 hn hM htl hC3.1 hA3 hw3 hC3 hK3 h553 h563 hd3
      exact ⟨v5, h5, z1, z2.tr hn3.g⟩
    · rw [if_neg er, ← bgn_nx]
      unfold bgn
      have hrp := rlt_pr (tp := tp) (smP_pr (tp := tp) 6) hxb2 (a := x) (ts := ts) (by omega)
      cases hr : (rlt tl tp (smP tl tp 6) (nx tl tp (smP tl tp 6 x).1) ts).2 with
      | none =>
        rw [bd_n hr, bd_n rfl, bdc_n rfl]
        refine Eq_iln dX12_clause_128 rfl ?_
        refine Et_if_eq 139 dX12_clause_129 rfl (by rfl) ?_
        refine Eq_aln dX12_clause_139 rfl ?_
        refine Eq_W0 (N := m_X12_sum) dX12_clause_140 lk_X12_150 mV_X12_sum (r_sum6 _ _ _ hW hA hx hC hl hw hd) (by decide) (ws_50 hW) rfl (by decide) (Nat.le_of_ble_eq_true rfl) (Nat.le_of_ble_eq_true rfl) (fun vq hq1 hq2 => ?_)
        obtain ⟨rfl, hn2, hw2, hA2, hC2, hd2⟩ := hq2.s hq
        have hW2 := hn2.1.Wd hW
        have hK2 := hK.fx hn2.1 (by decide)
        have h552 : am_i hq1 55 n = nI M.length := (hn2.1.i (by decide) (by simp)).trans h55
        have h562 : am_i hq1 56 (90 * n + M.length) = nI (flt M).length := (hn2.1.i (by decide) (by simp)).trans h56
        refine Eq_aln dX12_clause_143 rfl ?_
        refine Eq_getI dX12_clause_144 fl_X12_117 (ws_50 hW2) rfl hw2 ?_
        refine Eq_ic (v := -1) dX12_clause_147 rfl ?_
        refine Ef_ic_ne dX12_clause_148 (tgt := 165) rfl (by rfl) ?_
        refine Eq_aln dX12_clause_151 rfl ?_
        refine Eq_W0 (N := m_X12_look) dX12_clause_152 lk_X12_129 mV_X12_look (r_look hW2 hA2) (by decide) (ws_50 hW2) rfl (by decide) (Nat.le_of_ble_eq_true rfl) (Nat.le_of_ble_eq_true rfl) (fun vq hq1 hq2 => ?_)
        obtain ⟨rfl, hf3, hA3⟩ := hq2
        have hW3 := hf3.Wd hW2
        have hn3 : NF n h hq1 := hn2.tr (NF.of3 hf3)
        have hC3 := hC2.fx hf3 (by decide)
        have hw3 : am_i hq1 50 4 = -1 := (hf3.i (by decide) (by decide)).trans hw2
        have hd3 : am_i hq1 50 5 = nI 0 := ((hf3.i (by decide) (by decide)).trans hd2).trans hd
        have hK3 := hK.fx hn3.1 (by decide)
        have h553 : am_i hq1 55 n = nI M.length := (hn3.1.i (by decide) (by simp)).trans h55
        have h563 : am_i hq1 56 (90 * n + M.length) = nI (flt M).length := (hn3.1.i (by decide) (by simp)).trans h56
        refine Eq_S1 (N := m_X12_isSign) dX12_clause_155 lk_X12_163 mS_X12_isSign ((by have z := r_isSign (h := hq1) (rsgn256 hA (nx tl tp (smP tl tp 6 x).1)); rw [if_neg er] at z; exact z)) (by decide) (Nat.le_of_ble_eq_true rfl) (Nat.le_of_ble_eq_true rfl) ?_
        refine Ef_if_eq dX12_clause_158 (tgt := 165) rfl (by exact zf1) ?_
        refine Eq_ic (v := nI 1) dX12_clause_161 rfl ?_
        refine Eam_x_goto (tgt := 166) dX12_clause_162 rfl ?_
        refine Eq_isn dX12_clause_166 (by decide) ?_
        refine Eam_nl (pc' := 167) (l' := [_, _, _]) rfl rfl ?_
        refine Eq_iln dX12_clause_167 rfl ?_
        refine Ef_if_eq dX12_clause_168 (tgt := 183) rfl (by exact zf1) ?_
        refine Eq_aln dX12_clause_171 rfl ?_
        refine Eq_W0 (N := m_X12_compare) dX12_clause_172 lk_X12_172 mV_X12_compare (r_compare r_sum6 (smP_pr 6) (by omega) (a := x) (l := flt M) (ts := ts) hW3 hA3 hxb2 hC3 hl (by omega) hw3 hd3) (by decide) (ws_50 hW3) rfl (by decide) (Nat.le_of_ble_eq_true rfl) (Nat.le_of_ble_eq_true rfl) (fun vq hq1 hq2 => ?_)
        obtain ⟨rfl, hn4, hw4, b4, c, hA4, hb4, hc4, hc5⟩ := hq2.n hr
        have hW4 := hn4.1.Wd hW3
        refine Eq_aln dX12_clause_175 rfl ?_
        refine Eq_V0 (N := m_X12_goOnAnd) dX12_clause_176 lk_X12_175 mV_X12_goOnAnd (r_goOnAnd_bad hW4 hw4 (by omega)) (by decide) (ws_50 hW4) rfl (by decide) (Nat.le_of_ble_eq_true rfl) (Nat.le_of_ble_eq_true rfl) ?_
        refine Eq_aln dX12_clause_179 rfl ?_
        refine Eq_V0 (N := m_X12_goOnOr) dX12_clause_180 lk_X12_178 mV_X12_goOnOr (r_goOnOr_bad hW4 hw4 (by omega)) (by decide) (ws_50 hW4) rfl (by decide) (Nat.le_of_ble_eq_true rfl) (Nat.le_of_ble_eq_true rfl) ?_
        obtain ⟨v5, h5, z1, z2⟩ := r_cl_bad (M := M) (x := nI 1) hW4 hn hM htl (hn4.t.trans hC3.1) hA4 hrp.2.1 hw4 hc4
        exact ⟨v5, h5, z1, z2.tr (hn3.tr hn4).g⟩
      | some us =>
        rw [bd_s hr]
        have hru := hrp.2.2 us hr
        have hch := chn_pr (tp := tp) opA_0 (unP_pr (tp := tp) 6) 161 _ us x hrp.2.1 hru.1 hru.2
        cases ha : (chn tl tp opA (unP tl tp 6) 161 (rlt tl tp (smP tl tp 6) (nx tl tp (smP tl tp 6 x).1) ts).1 us).2 with
        | none =>
          rw [bd_n ha, bdc_n rfl]
          refine Eq_iln dX12_clause_128 rfl ?_
          refine Et_if_eq 139 dX12_clause_129 rfl (by rfl) ?_
          refine Eq_aln dX12_clause_139 rfl ?_
          refine Eq_W0 (N := m_X12_sum) dX12_clause_140 lk_X12_150 mV_X12_sum (r_sum6 _ _ _ hW hA hx hC hl hw hd) (by decide) (ws_50 hW) rfl (by decide) (Nat.le_of_ble_eq_true rfl) (Nat.le_of_ble_eq_true rfl) (fun vq hq1 hq2 => ?_)
          obtain ⟨rfl, hn2, hw2, hA2, hC2, hd2⟩ := hq2.s hq
          have hW2 := hn2.1.Wd hW
          have hK2 := hK.fx hn2.1 (by decide)
          have h552 : am_i hq1 55 n = nI M.length := (hn2.1.i (by decide) (by simp)).trans h55
          have h562 : am_i hq1 56 (90 * n + M.length) = nI (flt M).length := (hn2.1.i (by decide) (by simp)).trans h56
          refine Eq_aln dX12_clause_143 rfl ?_
          refine Eq_getI dX12_clause_144 fl_X12_117 (ws_50 hW2) rfl hw2 ?_
          refine Eq_ic (v := -1) dX12_clause_147 rfl ?_
          refine Ef_ic_ne dX12_clause_148 (tgt := 165) rfl (by rfl) ?_
          refine Eq_aln dX12_clause_151 rfl ?_
          refine Eq_W0 (N := m_X12_look) dX12_clause_152 lk_X12_129 mV_X12_look (r_look hW2 hA2) (by decide) (ws_50 hW2) rfl (by decide) (Nat.le_of_ble_eq_true rfl) (Nat.le_of_ble_eq_true rfl) (fun vq hq1 hq2 => ?_)
          obtain ⟨rfl, hf3, hA3⟩ := hq2
          have hW3 := hf3.Wd hW2
          have hn3 : NF n h hq1 := hn2.tr (NF.of3 hf3)
          have hC3 := hC2.fx hf3 (by decide)
          have hw3 : am_i hq1 50 4 = -1 := (hf3.i (by decide) (by decide)).trans hw2
          have hd3 : am_i hq1 50 5 = nI 0 := ((hf3.i (by decide) (by decide)).trans hd2).trans hd
          have hK3 := hK.fx hn3.1 (by decide)
          have h553 : am_i hq1 55 n = nI M.length := (hn3.1.i (by decide) (by simp)).trans h55
          have h563 : am_i hq1 56 (90 * n + M.length) = nI (flt M).length := (hn3.1.i (by decide) (by simp)).trans h56
          refine Eq_S1 (N := m_X12_isSign) dX12_clause_155 lk_X12_163 mS_X12_isSign ((by have z := r_isSign (h := hq1) (rsgn256 hA (nx tl tp (smP tl tp 6 x).1)); rw [if_neg er] at z; exact z)) (by decide) (Nat.le_of_ble_eq_true rfl) (Nat.le_of_ble_eq_true rfl) ?_
          refine Ef_if_eq dX12_clause_158 (tgt := 165) rfl (by exact zf1) ?_
          refine Eq_ic (v := nI 1) dX12_clause_161 rfl ?_
          refine Eam_x_goto (tgt := 166) dX12_clause_162 rfl ?_
          refine Eq_isn dX12_clause_166 (by decide) ?_
          refine Eam_nl (pc' := 167) (l' := [_, _, _]) rfl rfl ?_
          refine Eq_iln dX12_clause_167 rfl ?_
          refine Ef_if_eq dX12_clause_168 (tgt := 183) rfl (by exact zf1) ?_
          refine Eq_aln dX12_clause_171 rfl ?_
          refine Eq_W0 (N := m_X12_compare) dX12_clause_172 lk_X12_172 mV_X12_compare (r_compare r_sum6 (smP_pr 6) (by omega) (a := x) (l := flt M) (ts := ts) hW3 hA3 hxb2 hC3 hl (by omega) hw3 hd3) (by decide) (ws_50 hW3) rfl (by decide) (Nat.le_of_ble_eq_true rfl) (Nat.le_of_ble_eq_true rfl) (fun vq hq1 hq2 => ?_)
          obtain ⟨rfl, hn4, hw4, hA4, hC4, hd4⟩ := hq2.s hr
          have hW4 := hn4.1.Wd hW3
          refine Eq_aln dX12_clause_175 rfl ?_
          refine Eq_W0 (N := m_X12_goOnAnd) dX12_clause_176 lk_X12_175 mV_X12_goOnAnd (r_goOnAnd r_unit6 (unP_pr 6) (by omega) (a := x) hl htl hrp.2.1 hW4 hA4 hC4 hru.1 hw4 (hd4.trans hd3)) (by decide) (ws_50 hW4) rfl (by decide) (Nat.le_of_ble_eq_true rfl) (Nat.le_of_ble_eq_true rfl) (fun vq hq1 hq2 => ?_)
          obtain ⟨rfl, hn5, hw5, b5, c, hA5, hb5, hc5, hc6⟩ := hq2.n ha
          have hW5 := hn5.1.Wd hW4
          refine Eq_aln dX12_clause_179 rfl ?_
          refine Eq_V0 (N := m_X12_goOnOr) dX12_clause_180 lk_X12_178 mV_X12_goOnOr (r_goOnOr_bad hW5 hw5 (by omega)) (by decide) (ws_50 hW5) rfl (by decide) (Nat.le_of_ble_eq_true rfl) (Nat.le_of_ble_eq_true rfl) ?_
          obtain ⟨v5, h5, z1, z2⟩ := r_cl_bad (M := M) (x := nI 1) hW5 hn hM htl (hn5.t.trans hC4.1) hA5 hch.2.1 hw5 hc5
          exact ⟨v5, h5, z1, z2.tr (hn3.tr (hn4.tr hn5)).g⟩
        | some vs =>
          rw [bd_s ha]
          have hcu := hch.2.2 vs ha
          have hco := chn_pr (tp := tp) opO_0 (chs_pr (tp := tp) opA_0 (unP_pr (tp := tp) 6)) 161 _ vs x hch.2.1 hcu.1 hcu.2
          cases hb : (chn tl tp opO (chs tl tp opA (unP tl tp 6)) 161 (chn tl tp opA (unP tl tp 6) 161 (rlt tl tp (smP tl tp 6) (nx tl tp (smP tl tp 6 x).1) ts).1 us).1 vs).2 with
          | none =>
            rw [bdc_n hb]
            refine Eq_iln dX12_clause_128 rfl ?_
            refine Et_if_eq 139 dX12_clause_129 rfl (by rfl) ?_
            refine Eq_aln dX12_clause_139 rfl ?_
            refine Eq_W0 (N := m_X12_sum) dX12_clause_140 lk_X12_150 mV_X12_sum (r_sum6 _ _ _ hW hA hx hC hl hw hd) (by decide) (ws_50 hW) rfl (by decide) (Nat.le_of_ble_eq_true rfl) (Nat.le_of_ble_eq_true rfl) (fun vq hq1 hq2 => ?_)
            obtain ⟨rfl, hn2, hw2, hA2, hC2, hd2⟩ := hq2.s hq
            have hW2 := hn2.1.Wd hW
            have hK2 := hK.fx hn2.1 (by decide)
            have h552 : am_i hq1 55 n = nI M.length := (hn2.1.i (by decide) (by simp)).trans h55
            have h562 : am_i hq1 56 (90 * n + M.length) = nI (flt M).length := (hn2.1.i (by decide) (by simp)).trans h56
            refine Eq_aln dX12_clause_143 rfl ?_
            refine Eq_getI dX12_clause_144 fl_X12_117 (ws_50 hW2) rfl hw2 ?_
            refine Eq_ic (v := -1) dX12_clause_147 rfl ?_
            refine Ef_ic_ne dX12_clause_148 (tgt := 165) rfl (by rfl) ?_
            refine Eq_aln dX12_clause_151 rfl ?_
            refine Eq_W0 (N := m_X12_look) dX12_clause_152 lk_X12_129 mV_X12_look (r_look hW2 hA2) (by decide) (ws_50 hW2) rfl (by decide) (Nat.le_of_ble_eq_true rfl) (Nat.le_of_ble_eq_true rfl) (fun vq hq1 hq2 => ?_)
            obtain ⟨rfl, hf3, hA3⟩ := hq2
            have hW3 := hf3.Wd hW2
            have hn3 : NF n h hq1 := hn2.tr (NF.of3 hf3)
            have hC3 := hC2.fx hf3 (by decide)
            have hw3 : am_i hq1 50 4 = -1 := (hf3.i (by decide) (by decide)).trans hw2
            have hd3 : am_i hq1 50 5 = nI 0 := ((hf3.i (by decide) (by decide)).trans hd2).trans hd
            have hK3 := hK.fx hn3.1 (by decide)
            have h553 : am_i hq1 55 n = nI M.length := (hn3.1.i (by decide) (by simp)).trans h55
            have h563 : am_i hq1 56 (90 * n + M.length) = nI (flt M).length := (hn3.1.i (by decide) (by simp)).trans h56
            refine Eq_S1 (N := m_X12_isSign) dX12_clause_155 lk_X12_163 mS_X12_isSign ((by have z := r_isSign (h := hq1) (rsgn256 hA (nx tl tp (smP tl tp 6 x).1)); rw [if_neg er] at z; exact z)) (by decide) (Nat.le_of_ble_eq_true rfl) (Nat.le_of_ble_eq_true rfl) ?_
            refine Ef_if_eq dX12_clause_158 (tgt := 165) rfl (by exact zf1) ?_
            refine Eq_ic (v := nI 1) dX12_clause_161 rfl ?_
            refine Eam_x_goto (tgt := 166) dX12_clause_162 rfl ?_
            refine Eq_isn dX12_clause_166 (by decide) ?_
            refine Eam_nl (pc' := 167) (l' := [_, _, _]) rfl rfl ?_
            refine Eq_iln dX12_clause_167 rfl ?_
            refine Ef_if_eq dX12_clause_168 (tgt := 183) rfl (by exact zf1) ?_
            refine Eq_aln dX12_clause_171 rfl ?_
            refine Eq_W0 (N := m_X12_compare) dX12_clause_172 lk_X12_172 mV_X12_compare (r_compare r_sum6 (smP_pr 6) (by omega) (a := x) (l := flt M) (ts := ts) hW3 hA3 hxb2 hC3 hl (by omega) hw3 hd3) (by decide) (ws_50 hW3) rfl (by decide) (Nat.le_of_ble_eq_true rfl) (Nat.le_of_ble_eq_true rfl) (fun vq hq1 hq2 => ?_)
            obtain ⟨rfl, hn4, hw4, hA4, hC4, hd4⟩ := hq2.s hr
            have hW4 := hn4.1.Wd hW3
            refine Eq_aln dX12_clause_175 rfl ?_
            refine Eq_W0 (N := m_X12_goOnAnd) dX12_clause_176 lk_X12_175 mV_X12_goOnAnd (r_goOnAnd r_unit6 (unP_pr 6) (by omega) (a := x) hl htl hrp.2.1 hW4 hA4 hC4 hru.1 hw4 (hd4.trans hd3)) (by decide) (ws_50 hW4) rfl (by decide) (Nat.le_of_ble_eq_true rfl) (Nat.le_of_ble_eq_true rfl) (fun vq hq1 hq2 => ?_)
            obtain ⟨rfl, hn5, hw5, hA5, hC5, hd5⟩ := hq2.s ha
            have hW5 := hn5.1.Wd hW4
            refine Eq_aln dX12_clause_179 rfl ?_
            refine Eq_W0 (N := m_X12_goOnOr) dX12_clause_180 lk_X12_178 mV_X12_goOnOr (r_goOnOr r_unit6 (unP_pr 6) (by omega) (a := x) hl htl hch.2.1 hW5 hA5 hC5 hcu.1 hw5 (hd5.trans (hd4.trans hd3))) (by decide) (ws_50 hW5) rfl (by decide) (Nat.le_of_ble_eq_true rfl) (Nat.le_of_ble_eq_true rfl) (fun vq hq1 hq2 => ?_)
            obtain ⟨rfl, hn6, hw6, b6, c, hA6, hb6, hc6, hc7⟩ := hq2.n hb
            have hW6 := hn6.1.Wd hW5
            obtain ⟨v5, h5, z1, z2⟩ := r_cl_bad (M := M) (x := nI 1) hW6 hn hM htl (hn6.t.trans hC5.1) hA6 hco.2.1 hw6 hc6
            exact ⟨v5, h5, z1, z2.tr (hn3.tr (hn4.tr (hn5.tr hn6))).g⟩
          | some ws =>
            rw [bdc_s hb]
            have hcw := hco.2.2 ws hb
            refine Eq_iln dX12_clause_128 rfl ?_
            refine Et_if_eq 139 dX12_clause_129 rfl (by rfl) ?_
            refine Eq_aln dX12_clause_139 rfl ?_
            refine Eq_W0 (N := m_X12_sum) dX12_clause_140 lk_X12_150 mV_X12_sum (r_sum6 _ _ _ hW hA hx hC hl hw hd) (by decide) (ws_50 hW) rfl (by decide) (Nat.le_of_ble_eq_true rfl) (Nat.le_of_ble_eq_true rfl) (fun vq hq1 hq2 => ?_)
            obtain ⟨rfl, hn2, hw2, hA2, hC2, hd2⟩ := hq2.s hq
            have hW2 := hn2.1.Wd hW
            have hK2 := hK.fx hn2.1 (by decide)
            have h552 : am_i hq1 55 n = nI M.length := (hn2.1.i (by decide) (by simp)).trans h55
            have h562 : am_i hq1 56 (90 * n + M.length) = nI (flt M).length := (hn2.1.i (by decide) (by simp)).trans h56
            refine Eq_aln dX12_clause_143 rfl ?_
            refine Eq_getI dX12_clause_144 fl_X12_117 (ws_50 hW2) rfl hw2 ?_
            refine Eq_ic (v := -1) dX12_clause_147 rfl ?_
            refine Ef_ic_ne dX12_clause_148 (tgt := 165) rfl (by rfl) ?_
            refine Eq_aln dX12_clause_151 rfl ?_
            refine Eq_W0 (N := m_X12_look) dX12_clause_152 lk_X12_129 mV_X12_look (r_look hW2 hA2) (by decide) (ws_50 hW2) rfl (by decide) (Nat.le_of_ble_eq_true rfl) (Nat.le_of_ble_eq_true rfl) (fun vq hq1 hq2 => ?_)
            obtain ⟨rfl, hf3, hA3⟩ := hq2
            have hW3 := hf3.Wd hW2
            have hn3 : NF n h hq1 := hn2.tr (NF.of3 hf3)
            have hC3 := hC2.fx hf3 (by decide)
            have hw3 : am_i hq1 50 4 = -1 := (hf3.i (by decide) (by decide)).trans hw2
            have hd3 : am_i hq1 50 5 = nI 0 := ((hf3.i (by decide) (by decide)).trans hd2).trans hd
            have hK3 := hK.fx hn3.1 (by decide)
            have h553 : am_i hq1 55 n = nI M.length := (hn3.1.i (by decide) (by simp)).trans h55
            have h563 : am_i hq1 56 (90 * n + M.length) = nI (flt M).length := (hn3.1.i (by decide) (by simp)).trans h56
            refine Eq_S1 (N := m_X12_isSign) dX12_clause_155 lk_X12_163 mS_X12_isSign ((by have z := r_isSign (h := hq1) (rsgn256 hA (nx tl tp (smP tl tp 6 x).1)); rw [if_neg er] at z; exact z)) (by decide) (Nat.le_of_ble_eq_true rfl) (Nat.le_of_ble_eq_true rfl) ?_
            refine Ef_if_eq dX12_clause_158 (tgt := 165) rfl (by exact zf1) ?_
            refine Eq_ic (v := nI 1) dX12_clause_161 rfl ?_
            refine Eam_x_goto (tgt := 166) dX12_clause_162 rfl ?_
            refine Eq_isn dX12_clause_166 (by decide) ?_
            refine Eam_nl (pc' := 167) (l' := [_, _, _]) rfl rfl ?_
            refine Eq_iln dX12_clause_167 rfl ?_
            refine Ef_if_eq dX12_clause_168 (tgt := 183) rfl (by exact zf1) ?_
            refine Eq_aln dX12_clause_171 rfl ?_
            refine Eq_W0 (N := m_X12_compare) dX12_clause_172 lk_X12_172 mV_X12_compare (r_compare r_sum6 (smP_pr 6) (by omega) (a := x) (l := flt M) (ts := ts) hW3 hA3 hxb2 hC3 hl (by omega) hw3 hd3) (by decide) (ws_50 hW3) rfl (by decide) (Nat.le_of_ble_eq_true rfl) (Nat.le_of_ble_eq_true rfl) (fun vq hq1 hq2 => ?_)
            obtain ⟨rfl, hn4, hw4, hA4, hC4, hd4⟩ := hq2.s hr
            have hW4 := hn4.1.Wd hW3
            refine Eq_aln dX12_clause_175 rfl ?_
            refine Eq_W0 (N := m_X12_goOnAnd) dX12_clause_176 lk_X12_175 mV_X12_goOnAnd (r_goOnAnd r_unit6 (unP_pr 6) (by omega) (a := x) hl htl hrp.2.1 hW4 hA4 hC4 hru.1 hw4 (hd4.trans hd3)) (by decide) (ws_50 hW4) rfl (by decide) (Nat.le_of_ble_eq_true rfl) (Nat.le_of_ble_eq_true rfl) (fun vq hq1 hq2 => ?_)
            obtain ⟨rfl, hn5, hw5, hA5, hC5, hd5⟩ := hq2.s ha
            have hW5 := hn5.1.Wd hW4
            refine Eq_aln dX12_clause_179 rfl ?_
            refine Eq_W0 (N := m_X12_goOnOr) dX12_clause_180 lk_X12_178 mV_X12_goOnOr (r_goOnOr r_unit6 (unP_pr 6) (by omega) (a := x) hl htl hch.2.1 hW5 hA5 hC5 hcu.1 hw5 (hd5.trans (hd4.trans hd3))) (by decide) (ws_50 hW5) rfl (by decide) (Nat.le_of_ble_eq_true rfl) (Nat.le_of_ble_eq_true rfl) (fun vq hq1 hq2 => ?_)
            obtain ⟨rfl, hn6, hw6, hA6, hC6, hd6⟩ := hq2.s hb
            have hn7 : NF n h hq1 := hn3.tr (hn4.tr (hn5.tr hn6))
            have hW6 := hn6.1.Wd hW5
            have hK7 := hK.fx hn7.1 (by decide)
            have h557 : am_i hq1 55 n = nI M.length := (hn7.1.i (by decide) (by simp)).trans h55
            have h567 : am_i hq1 56 (90 * n + M.length) = nI (flt M).length := (hn7.1.i (by decide) (by simp)).trans h56
            obtain ⟨v5, h5, z1, z2⟩ := r_cl_csq (M := M) hW6 hn hM htl hC6.1 hA6 hco.2.1 hw6 hC6 (by simp only [List.length_append]; omega) hK7 h557 h567 (hd6.trans (hd5.trans (hd4.trans hd3)))
            exact ⟨v5, h5, z1, z2.tr hn7.g⟩
set_option maxHeartbeats 2000000 in
theorem r_clause {tl : Nat} {tp : Nat → Nat} {n a : Nat} {M : List (Tks × Tks)} {h : am_H} (hW : Wd h) (hA : RA h tl tp a) (ha : a ≤ tl) (hC : CW h n (flt M)) (hK : KL h n M) (hl : (flt M).length ≤ a) (h2M : 2 * M.length ≤ a) (hw : am_i h 50 4 = -1) (hd : am_i h 50 5 = nI 0) : am_D 35 m_X12_clause [.ref 50] h (MLQ tl tp n M (mcl tl tp a) h) := by
  have htl := hA.1.2.1
  have hn := hC.2.1
  have hM : M.length < 90 := by omega
  have x1 := nx_ge (tl := tl) (tp := tp) (a := a)
  have x2 := nx_le (tp := tp) ha
  have s1 := rsgn256 hA (nx tl tp a)
  have s2 := rsgn256 hA (nx tl tp (nx tl tp a + 1))
  have s3 := rsgn256 hA (nx tl tp (nx tl tp (nx tl tp a + 1) + 1))
  unfold mcl
  by_cases e1 : sgn tl tp (nx tl tp a) = some 121
  · rw [if_pos e1]
    have l1 := (sgn_lt e1).1
    have y1 := nx_ge (tl := tl) (tp := tp) (a := nx tl tp a + 1)
    have y2 := nx_le (tp := tp) (show nx tl tp a + 1 ≤ tl by omega)
    by_cases e2 : sgn tl tp (nx tl tp (nx tl tp a + 1)) = some 58
    · rw [if_pos e2]
      have l2 := (sgn_lt e2).1
      have z1x := nx_ge (tl := tl) (tp := tp) (a := nx tl tp (nx tl tp a + 1) + 1)
      have z2x := nx_le (tp := tp) (show nx tl tp (nx tl tp a + 1) + 1 ≤ tl by omega)
      by_cases e33 : sgn tl tp (nx tl tp (nx tl tp (nx tl tp a + 1) + 1)) = some 33
      · rw [if_pos (Or.inl e33)]
        refine Eq_bp (v := nI 90) dX12_clause_0 rfl ?_
        refine Eq_aln dX12_clause_2 rfl ?_
        refine Eq_getI dX12_clause_3 fl_X12_120 (ws_50 hW) rfl (by first | exact wI_e0 | exact hC.1 | exact hCm.1 | exact hCn.1 | exact hw | exact hwk | exact hwn | exact hw2 | exact hA2.2.1 | exact hA1.2.1) ?_
        first | refine Eq_mul dX12_clause_6 ?_ | refine Eam_x_pu dX12_clause_6 rfl ?_
        refine Eq_aln dX12_clause_7 rfl ?_
        refine Eq_getR dX12_clause_8 fl_X12_22 (ws_50 hW) rfl (wp_50_9 hW) ?_
        refine Eq_aln dX12_clause_11 rfl ?_
        refine Eq_getI dX12_clause_12 fl_X12_120 (ws_50 hW) rfl (by first | exact wI_e0 | exact hC.1 | exact hCm.1 | exact hCn.1 | exact hw | exact hwk | exact hwn | exact hw2 | exact hA2.2.1 | exact hA1.2.1) ?_
        refine Eq_ald dX12_clause_15 (ws_55 hW) (by omega) (by omega) (by first | exact hK.1 | exact hCm.2.2.1) ?_
        first | refine Eq_add dX12_clause_16 ?_ | refine Eam_x_pu dX12_clause_16 rfl ?_
        refine Eq_isn dX12_clause_17 (by decide) ?_
        refine Eam_nl (pc' := 18) (l' := [_, _, _]) rfl rfl ?_
        refine Eq_aln dX12_clause_18 rfl ?_
        refine Eq_getI dX12_clause_19 fl_X12_117 (ws_50 hW) rfl (by first | exact wI_e0 | exact hC.1 | exact hCm.1 | exact hCn.1 | exact hw | exact hwk | exact hwn | exact hw2 | exact hA2.2.1 | exact hA1.2.1) ?_
        refine Eq_ic (v := -1) dX12_clause_22 rfl ?_
        refine Ef_ic_ne dX12_clause_23 (tgt := 39) rfl (by rfl) ?_
        refine Eq_aln dX12_clause_26 rfl ?_
        refine Eq_W0 (N := m_X12_look) dX12_clause_27 lk_X12_129 mV_X12_look (r_look hW hA) (by decide) (ws_50 hW) rfl (by decide) (Nat.le_of_ble_eq_true rfl) (Nat.le_of_ble_eq_true rfl) (fun vq hq1 hq2 => ?_)
        obtain ⟨rfl, hf1, hA1⟩ := hq2
        have hW1 := hf1.Wd hW
        have hw1 : am_i hq1 50 4 = -1 := (hf1.i (by decide) (by decide)).trans hw
        have k1 : Fx [] [(50, 3)] h (am_wI hq1 50 3 (nI (nx tl tp a + 1))) := hf1.tr (Fx.wI (Or.inr (by decide)))
        have hWk := k1.Wd hW
        have hAk := hA1.mv (b := nx tl tp a + 1) (by omega)
        have hwk : am_i (am_wI hq1 50 3 (nI (nx tl tp a + 1))) 50 4 = -1 := hw1
        refine Eq_bp (v := nI 121) dX12_clause_30 rfl ?_
        refine Et_ic_eq 39 dX12_clause_32 rfl (by rw [e1]; rfl) ?_
        refine Eq_aln dX12_clause_39 rfl ?_
        refine Eam_x_pu dX12_clause_40 rfl ?_
        refine Eq_getI dX12_clause_41 fl_X12_110 (ws_50 hW1) rfl (by first | exact wI_e0 | exact hC.1 | exact hCm.1 | exact hCn.1 | exact hw | exact hwk | exact hwn | exact hw2 | exact hA2.2.1 | exact hA1.2.1) ?_
        refine Eq_ic (v := nI 1) dX12_clause_44 rfl ?_
        first | refine Eq_add dX12_clause_45 ?_ | refine Eam_x_pu dX12_clause_45 rfl ?_
        refine Eam_x_putI dX12_clause_46 (fw_X12_110 rfl) (ws_50 hW1) (Or.inl rfl) ?_
        refine Eq_aln dX12_clause_49 rfl ?_
        refine Eq_getI dX12_clause_50 fl_X12_117 (ws_50 hW1) rfl (by first | exact wI_e0 | exact hC.1 | exact hCm.1 | exact hCn.1 | exact hw | exact hwk | exact hwn | exact hw2 | exact hA2.2.1 | exact hA1.2.1) ?_
        refine Eq_ic (v := -1) dX12_clause_53 rfl ?_
        refine Ef_ic_ne dX12_clause_54 (tgt := 70) rfl (by rfl) ?_
        refine Eq_aln dX12_clause_57 rfl ?_
        refine Eq_W0 (N := m_X12_look) dX12_clause_58 lk_X12_129 mV_X12_look (r_look hWk hAk) (by decide) (ws_50 hW1) rfl (by decide) (Nat.le_of_ble_eq_true rfl) (Nat.le_of_ble_eq_true rfl) (fun vq hq1 hq2 => ?_)
        obtain ⟨rfl, hf2, hA2⟩ := hq2
        have hW2 := hf2.Wd hWk
        have hw2 : am_i hq1 50 4 = -1 := (hf2.i (by decide) (by decide)).trans hw1
        have k2 : Fx [] [(50, 3)] h (am_wI hq1 50 3 (nI (nx tl tp (nx tl tp a + 1) + 1))) := (k1.tr hf2).tr (Fx.wI (Or.inr (by decide)))
        have hAm := hA2.mv (b := nx tl tp (nx tl tp a + 1) + 1) (by omega)
        have hCm := hC.fx k2 (by decide)
        have k3 : Fx [56] [(50, 3)] h (am_wI (am_wI hq1 50 3 (nI (nx tl tp (nx tl tp a + 1) + 1))) 56 (90 * n + M.length) (nI (flt M).length)) := (k2.mono (by decide) (by decide)).tr (Fx.wI (Or.inl (by decide)))
        have hWn := k3.Wd hW
        have hAn := hAm.fx (Fx.wI (A := [56]) (B := []) (r := 56) (j := 90 * n + M.length) (v := nI (flt M).length) (Or.inl (by decide))) (by decide)
        have hCn := hC.fx k3 (by decide)
        have hgn : NG n h (am_wI (am_wI hq1 50 3 (nI (nx tl tp (nx tl tp a + 1) + 1))) 56 (90 * n + M.length) (nI (flt M).length)) := (NF.of3 k2).g.tr (NG.w56 hM)
        have hKn : KE (am_wI (am_wI hq1 50 3 (nI (nx tl tp (nx tl tp a + 1) + 1))) 56 (90 * n + M.length) (nI (flt M).length)) n M := (hK.2.fx k2 (by decide)).w
        have h55n : am_i (am_wI (am_wI hq1 50 3 (nI (nx tl tp (nx tl tp a + 1) + 1))) 56 (90 * n + M.length) (nI (flt M).length)) 55 n = nI M.length := (by rw [wI_ne (by decide), k2.i (by decide) (by simp)]; exact hK.1)
        have hwn : am_i (am_wI (am_wI hq1 50 3 (nI (nx tl tp (nx tl tp a + 1) + 1))) 56 (90 * n + M.length) (nI (flt M).length)) 50 4 = -1 := (k3.i (by decide) (by decide)).trans hw
        have hdn : am_i (am_wI (am_wI hq1 50 3 (nI (nx tl tp (nx tl tp a + 1) + 1))) 56 (90 * n + M.length) (nI (flt M).length)) 50 5 = nI 0 := (k3.i (by decide) (by decide)).trans hd
        refine Eq_bp (v := nI 58) dX12_clause_61 rfl ?_
        refine Et_ic_eq 70 dX12_clause_63 rfl (by rw [e2]; rfl) ?_
        refine Eq_aln dX12_clause_70 rfl ?_
        refine Eam_x_pu dX12_clause_71 rfl ?_
        refine Eq_getI dX12_clause_72 fl_X12_110 (ws_50 hW2) rfl (by first | exact wI_e0 | exact hC.1 | exact hCm.1 | exact hCn.1 | exact hw | exact hwk | exact hwn | exact hw2 | exact hA2.2.1 | exact hA1.2.1) ?_
        refine Eq_ic (v := nI 1) dX12_clause_75 rfl ?_
        first | refine Eq_add dX12_clause_76 ?_ | refine Eam_x_pu dX12_clause_76 rfl ?_
        refine Eam_x_putI dX12_clause_77 (fw_X12_110 rfl) (ws_50 hW2) (Or.inl rfl) ?_
        refine Eq_aln dX12_clause_80 rfl ?_
        refine Eq_getI dX12_clause_81 fl_X12_117 (ws_50 hW2) rfl (by first | exact wI_e0 | exact hC.1 | exact hCm.1 | exact hCn.1 | exact hw | exact hwk | exact hwn | exact hw2 | exact hA2.2.1 | exact hA1.2.1) ?_
        refine Eq_ic (v := -1) dX12_clause_84 rfl ?_
        refine Et_ic_eq 89 dX12_clause_85 rfl (by rfl) ?_
        refine Eq_aln dX12_clause_89 rfl ?_
        refine Eq_getR dX12_clause_90 fl_X12_25 (ws_50 hW2) rfl (wp_50_10 hW2) ?_
        refine Eq_iln dX12_clause_93 rfl ?_
        refine Eq_aln dX12_clause_94 rfl ?_
        refine Eq_getR dX12_clause_95 fl_X12_19 (ws_50 hW2) rfl (wp_50_8 hW2) ?_
        refine Eq_aln dX12_clause_98 rfl ?_
        refine Eq_getI dX12_clause_99 fl_X12_120 (ws_50 hW2) rfl (by first | exact wI_e0 | exact hC.1 | exact hCm.1 | exact hCn.1 | exact hw | exact hwk | exact hwn | exact hw2 | exact hA2.2.1 | exact hA1.2.1) ?_
        refine Eq_ald dX12_clause_102 (ws_54 hW2) (by omega) (by omega) (by first | exact hK.1 | exact hCm.2.2.1) ?_
        refine Eq_ast dX12_clause_103 (ws_56 hW2) (by omega) (by omega) ?_
        refine Eq_aln dX12_clause_104 rfl ?_
        refine Eq_W0 (N := m_X12_look) dX12_clause_105 lk_X12_129 mV_X12_look (r_look hWn hAn) (by decide) (ws_50 hW2) rfl (by decide) (Nat.le_of_ble_eq_true rfl) (Nat.le_of_ble_eq_true rfl) (fun vq hq1 hq2 => ?_)
        obtain ⟨rfl, hf3, hA3⟩ := hq2
        have hW3 := hf3.Wd hWn
        refine Eq_bp (v := nI 33) dX12_clause_108 rfl ?_
        refine Et_ic_eq 122 dX12_clause_110 rfl (by rw [e33]; rfl) ?_
        refine Eq_ic (v := nI 1) dX12_clause_122 rfl ?_
        refine Eam_x_goto (tgt := 127) dX12_clause_123 rfl ?_
        refine Eq_isn dX12_clause_127 (by decide) ?_
        refine Eam_nl (pc' := 128) (l' := [_, _, _]) rfl rfl ?_
        obtain ⟨v5, h5, z1, z2⟩ := r_cl_a (M := M) (x := nx tl tp (nx tl tp (nx tl tp a + 1) + 1)) hW3 hn hM htl hA3 z2x (hf3.i (by decide) (by decide) |>.trans hwn) (hCn.fx hf3 (by decide)) (by omega) (hKn.fx hf3 (by decide)) ((hf3.i (by decide) (by simp)).trans h55n) ((hf3.i (by decide) (by simp)).trans wI_e0) ((hf3.i (by decide) (by decide)).trans hdn)
        exact ⟨v5, h5, z1, z2.tr (hgn.tr (NF.of3 hf3).g)⟩
      · by_cases e40 : sgn tl tp (nx tl tp (nx tl tp (nx tl tp a + 1) + 1)) = some 40
        · rw [if_pos (Or.inr e40)]
          refine Eq_bp (v := nI 90) dX12_clause_0 rfl ?_
          refine Eq_aln dX12_clause_2 rfl ?_
          refine Eq_getI dX12_clause_3 fl_X12_120 (ws_50 hW) rfl (by first | exact wI_e0 | exact hC.1 | exact hCm.1 | exact hCn.1 | exact hw | exact hwk | exact hwn | exact hw2 | exact hA2.2.1 | exact hA1.2.1) ?_
          first | refine Eq_mul dX12_clause_6 ?_ | refine Eam_x_pu dX12_clause_6 rfl ?_
          refine Eq_aln dX12_clause_7 rfl ?_
          refine Eq_getR dX12_clause_8 fl_X12_22 (ws_50 hW) rfl (wp_50_9 hW) ?_
          refine Eq_aln dX12_clause_11 rfl ?_
          refine Eq_getI dX12_clause_12 fl_X12_120 (ws_50 hW) rfl (by first | exact wI_e0 | exact hC.1 | exact hCm.1 | exact hCn.1 | exact hw | exact hwk | exact hwn | exact hw2 | exact hA2.2.1 | exact hA1.2.1) ?_
          refine Eq_ald dX12_clause_15 (ws_55 hW) (by omega) (by omega) (by first | exact hK.1 | exact hCm.2.2.1) ?_
          first | refine Eq_add dX12_clause_16 ?_ | refine Eam_x_pu dX12_clause_16 rfl ?_
          refine Eq_isn dX12_clause_17 (by decide) ?_
          refine Eam_nl (pc' := 18) (l' := [_, _, _]) rfl rfl ?_
          refine Eq_aln dX12_clause_18 rfl ?_
          refine Eq_getI dX12_clause_19 fl_X12_117 (ws_50 hW) rfl (by first | exact wI_e0 | exact hC.1 | exact hCm.1 | exact hCn.1 | exact hw | exact hwk | exact hwn | exact hw2 | exact hA2.2.1 | exact hA1.2.1) ?_
          refine Eq_ic (v := -1) dX12_clause_22 rfl ?_
          refine Ef_ic_ne dX12_clause_23 (tgt := 39) rfl (by rfl) ?_
          refine Eq_aln dX12_clause_26 rfl ?_
          refine Eq_W0 (N := m_X12_look) dX12_clause_27 lk_X12_129 mV_X12_look (r_look hW hA) (by decide) (ws_50 hW) rfl (by decide) (Nat.le_of_ble_eq_true rfl) (Nat.le_of_ble_eq_true rfl) (fun vq hq1 hq2 => ?_)
          obtain ⟨rfl, hf1, hA1⟩ := hq2
          have hW1 := hf1.Wd hW
          have hw1 : am_i hq1 50 4 = -1 := (hf1.i (by decide) (by decide)).trans hw
          have k1 : Fx [] [(50, 3)] h (am_wI hq1 50 3 (nI (nx tl tp a + 1))) := hf1.tr (Fx.wI (Or.inr (by decide)))
          have hWk := k1.Wd hW
          have hAk := hA1.mv (b := nx tl tp a + 1) (by omega)
          have hwk : am_i (am_wI hq1 50 3 (nI (nx tl tp a + 1))) 50 4 = -1 := hw1
          refine Eq_bp (v := nI 121) dX12_clause_30 rfl ?_
          refine Et_ic_eq 39 dX12_clause_32 rfl (by rw [e1]; rfl) ?_
          refine Eq_aln dX12_clause_39 rfl ?_
          refine Eam_x_pu dX12_clause_40 rfl ?_
          refine Eq_getI dX12_clause_41 fl_X12_110 (ws_50 hW1) rfl (by first | exact wI_e0 | exact hC.1 | exact hCm.1 | exact hCn.1 | exact hw | exact hwk | exact hwn | exact hw2 | exact hA2.2.1 | exact hA1.2.1) ?_
          refine Eq_ic (v := nI 1) dX12_clause_44 rfl ?_
          first | refine Eq_add dX12_clause_45 ?_ | refine Eam_x_pu dX12_clause_45 rfl ?_
          refine Eam_x_putI dX12_clause_46 (fw_X12_110 rfl) (ws_50 hW1) (Or.inl rfl) ?_
          refine Eq_aln dX12_clause_49 rfl ?_
          refine Eq_getI dX12_clause_50 fl_X12_117 (ws_50 hW1) rfl (by first | exact wI_e0 | exact hC.1 | exact hCm.1 | exact hCn.1 | exact hw | exact hwk | exact hwn | exact hw2 | exact hA2.2.1 | exact hA1.2.1) ?_
          refine Eq_ic (v := -1) dX12_clause_53 rfl ?_
          refine Ef_ic_ne dX12_clause_54 (tgt := 70) rfl (by rfl) ?_
          refine Eq_aln dX12_clause_57 rfl ?_
          refine Eq_W0 (N := m_X12_look) dX12_clause_58 lk_X12_129 mV_X12_look (r_look hWk hAk) (by decide) (ws_50 hW1) rfl (by decide) (Nat.le_of_ble_eq_true rfl) (Nat.le_of_ble_eq_true rfl) (fun vq hq1 hq2 => ?_)
          obtain ⟨rfl, hf2, hA2⟩ := hq2
          have hW2 := hf2.Wd hWk
          have hw2 : am_i hq1 50 4 = -1 := (hf2.i (by decide) (by decide)).trans hw1
          have k2 : Fx [] [(50, 3)] h (am_wI hq1 50 3 (nI (nx tl tp (nx tl tp a + 1) + 1))) := (k1.tr hf2).tr (Fx.wI (Or.inr (by decide)))
          have hAm := hA2.mv (b := nx tl tp (nx tl tp a + 1) + 1) (by omega)
          have hCm := hC.fx k2 (by decide)
          have k3 : Fx [56] [(50, 3)] h (am_wI (am_wI hq1 50 3 (nI (nx tl tp (nx tl tp a + 1) + 1))) 56 (90 * n + M.length) (nI (flt M).length)) := (k2.mono (by decide) (by decide)).tr (Fx.wI (Or.inl (by decide)))
          have hWn := k3.Wd hW
          have hAn := hAm.fx (Fx.wI (A := [56]) (B := []) (r := 56) (j := 90 * n + M.length) (v := nI (flt M).length) (Or.inl (by decide))) (by decide)
          have hCn := hC.fx k3 (by decide)
          have hgn : NG n h (am_wI (am_wI hq1 50 3 (nI (nx tl tp (nx tl tp a + 1) + 1))) 56 (90 * n + M.length) (nI (flt M).length)) := (NF.of3 k2).g.tr (NG.w56 hM)
          have hKn : KE (am_wI (am_wI hq1 50 3 (nI (nx tl tp (nx tl tp a + 1) + 1))) 56 (90 * n + M.length) (nI (flt M).length)) n M := (hK.2.fx k2 (by decide)).w
          have h55n : am_i (am_wI (am_wI hq1 50 3 (nI (nx tl tp (nx tl tp a + 1) + 1))) 56 (90 * n + M.length) (nI (flt M).length)) 55 n = nI M.length := (by rw [wI_ne (by decide), k2.i (by decide) (by simp)]; exact hK.1)
          have hwn : am_i (am_wI (am_wI hq1 50 3 (nI (nx tl tp (nx tl tp a + 1) + 1))) 56 (90 * n + M.length) (nI (flt M).length)) 50 4 = -1 := (k3.i (by decide) (by decide)).trans hw
          have hdn : am_i (am_wI (am_wI hq1 50 3 (nI (nx tl tp (nx tl tp a + 1) + 1))) 56 (90 * n + M.length) (nI (flt M).length)) 50 5 = nI 0 := (k3.i (by decide) (by decide)).trans hd
          refine Eq_bp (v := nI 58) dX12_clause_61 rfl ?_
          refine Et_ic_eq 70 dX12_clause_63 rfl (by rw [e2]; rfl) ?_
          refine Eq_aln dX12_clause_70 rfl ?_
          refine Eam_x_pu dX12_clause_71 rfl ?_
          refine Eq_getI dX12_clause_72 fl_X12_110 (ws_50 hW2) rfl (by first | exact wI_e0 | exact hC.1 | exact hCm.1 | exact hCn.1 | exact hw | exact hwk | exact hwn | exact hw2 | exact hA2.2.1 | exact hA1.2.1) ?_
          refine Eq_ic (v := nI 1) dX12_clause_75 rfl ?_
          first | refine Eq_add dX12_clause_76 ?_ | refine Eam_x_pu dX12_clause_76 rfl ?_
          refine Eam_x_putI dX12_clause_77 (fw_X12_110 rfl) (ws_50 hW2) (Or.inl rfl) ?_
          refine Eq_aln dX12_clause_80 rfl ?_
          refine Eq_getI dX12_clause_81 fl_X12_117 (ws_50 hW2) rfl (by first | exact wI_e0 | exact hC.1 | exact hCm.1 | exact hCn.1 | exact hw | exact hwk | exact hwn | exact hw2 | exact hA2.2.1 | exact hA1.2.1) ?_
          refine Eq_ic (v := -1) dX12_clause_84 rfl ?_
          refine Et_ic_eq 89 dX12_clause_85 rfl (by rfl) ?_
          refine Eq_aln dX12_clause_89 rfl ?_
          refine Eq_getR dX12_clause_90 fl_X12_25 (ws_50 hW2) rfl (wp_50_10 hW2) ?_
          refine Eq_iln dX12_clause_93 rfl ?_
          refine Eq_aln dX12_clause_94 rfl ?_
          refine Eq_getR dX12_clause_95 fl_X12_19 (ws_50 hW2) rfl (wp_50_8 hW2) ?_
          refine Eq_aln dX12_clause_98 rfl ?_
          refine Eq_getI dX12_clause_99 fl_X12_120 (ws_50 hW2) rfl (by first | exact wI_e0 | exact hC.1 | exact hCm.1 | exact hCn.1 | exact hw | exact hwk | exact hwn | exact hw2 | exact hA2.2.1 | exact hA1.2.1) ?_
          refine Eq_ald dX12_clause_102 (ws_54 hW2) (by omega) (by omega) (by first | exact hK.1 | exact hCm.2.2.1) ?_
          refine Eq_ast dX12_clause_103 (ws_56 hW2) (by omega) (by omega) ?_
          refine Eq_aln dX12_clause_104 rfl ?_
          refine Eq_W0 (N := m_X12_look) dX12_clause_105 lk_X12_129 mV_X12_look (r_look hWn hAn) (by decide) (ws_50 hW2) rfl (by decide) (Nat.le_of_ble_eq_true rfl) (Nat.le_of_ble_eq_true rfl) (fun vq hq1 hq2 => ?_)
          obtain ⟨rfl, hf3, hA3⟩ := hq2
          have hW3 := hf3.Wd hWn
          refine Eq_bp (v := nI 33) dX12_clause_108 rfl ?_
          refine Ef_ic_eq dX12_clause_110 (tgt := 122) rfl (by exact fun z => e33 ((oNlt (fun k hk => by have := s3 k hk; omega) 33 (by omega)).mp z)) ?_
          refine Eq_aln dX12_clause_113 rfl ?_
          refine Eq_W0 (N := m_X12_look) dX12_clause_114 lk_X12_129 mV_X12_look (r_look hW3 hA3) (by decide) (ws_50 hW3) rfl (by decide) (Nat.le_of_ble_eq_true rfl) (Nat.le_of_ble_eq_true rfl) (fun vq hq1 hq2 => ?_)
          obtain ⟨rfl, hf4, hA4⟩ := hq2
          have hW4 := hf4.Wd hW3
          refine Eq_bp (v := nI 40) dX12_clause_117 rfl ?_
          refine Ef_ic_ne dX12_clause_119 (tgt := 126) rfl (by rw [nx_nx, e40]; rfl) ?_
          refine Eq_ic (v := nI 1) dX12_clause_122 rfl ?_
          refine Eam_x_goto (tgt := 127) dX12_clause_123 rfl ?_
          refine Eq_isn dX12_clause_127 (by decide) ?_
          refine Eam_nl (pc' := 128) (l' := [_, _, _]) rfl rfl ?_
          obtain ⟨v5, h5, z1, z2⟩ := r_cl_a (M := M) (x := nx tl tp (nx tl tp (nx tl tp a + 1) + 1)) hW4 hn hM htl (by rw [← nx_nx (tl := tl) (tp := tp) (a := nx tl tp (nx tl tp a + 1) + 1)]; exact hA4) z2x ((hf3.tr hf4).i (by decide) (by decide) |>.trans hwn) (hCn.fx (hf3.tr hf4) (by decide)) (by omega) (hKn.fx (hf3.tr hf4) (by decide)) (((hf3.tr hf4).i (by decide) (by simp)).trans h55n) (((hf3.tr hf4).i (by decide) (by simp)).trans wI_e0) (((hf3.tr hf4).i (by decide) (by decide)).trans hdn)
          exact ⟨v5, h5, z1, z2.tr (hgn.tr (NF.of3 (hf3.tr hf4)).g)⟩
        · rw [if_neg (fun z => z.elim e33 e40)]
          refine Eq_bp (v := nI 90) dX12_clause_0 rfl ?_
          refine Eq_aln dX12_clause_2 rfl ?_
          refine Eq_getI dX12_clause_3 fl_X12_120 (ws_50 hW) rfl (by first | exact wI_e0 | exact hC.1 | exact hCm.1 | exact hCn.1 | exact hw | exact hwk | exact hwn | exact hw2 | exact hA2.2.1 | exact hA1.2.1) ?_
          first | refine Eq_mul dX12_clause_6 ?_ | refine Eam_x_pu dX12_clause_6 rfl ?_
          refine Eq_aln dX12_clause_7 rfl ?_
          refine Eq_getR dX12_clause_8 fl_X12_22 (ws_50 hW) rfl (wp_50_9 hW) ?_
          refine Eq_aln dX12_clause_11 rfl ?_
          refine Eq_getI dX12_clause_12 fl_X12_120 (ws_50 hW) rfl (by first | exact wI_e0 | exact hC.1 | exact hCm.1 | exact hCn.1 | exact hw | exact hwk | exact hwn | exact hw2 | exact hA2.2.1 | exact hA1.2.1) ?_
          refine Eq_ald dX12_clause_15 (ws_55 hW) (by omega) (by omega) (by first | exact hK.1 | exact hCm.2.2.1) ?_
          first | refine Eq_add dX12_clause_16 ?_ | refine Eam_x_pu dX12_clause_16 rfl ?_
          refine Eq_isn dX12_clause_17 (by decide) ?_
          refine Eam_nl (pc' := 18) (l' := [_, _, _]) rfl rfl ?_
          refine Eq_aln dX12_clause_18 rfl ?_
          refine Eq_getI dX12_clause_19 fl_X12_117 (ws_50 hW) rfl (by first | exact wI_e0 | exact hC.1 | exact hCm.1 | exact hCn.1 | exact hw | exact hwk | exact hwn | exact hw2 | exact hA2.2.1 | exact hA1.2.1) ?_
          refine Eq_ic (v := -1) dX12_clause_22 rfl ?_
          refine Ef_ic_ne dX12_clause_23 (tgt := 39) rfl (by rfl) ?_
          refine Eq_aln dX12_clause_26 rfl ?_
          refine Eq_W0 (N := m_X12_look) dX12_clause_27 lk_X12_129 mV_X12_look (r_look hW hA) (by decide) (ws_50 hW) rfl (by decide) (Nat.le_of_ble_eq_true rfl) (Nat.le_of_ble_eq_true rfl) (fun vq hq1 hq2 => ?_)
          obtain ⟨rfl, hf1, hA1⟩ := hq2
          have hW1 := hf1.Wd hW
          have hw1 : am_i hq1 50 4 = -1 := (hf1.i (by decide) (by decide)).trans hw
          have k1 : Fx [] [(50, 3)] h (am_wI hq1 50 3 (nI (nx tl tp a + 1))) := hf1.tr (Fx.wI (Or.inr (by decide)))
          have hWk := k1.Wd hW
          have hAk := hA1.mv (b := nx tl tp a + 1) (by omega)
          have hwk : am_i (am_wI hq1 50 3 (nI (nx tl tp a + 1))) 50 4 = -1 := hw1
          refine Eq_bp (v := nI 121) dX12_clause_30 rfl ?_
          refine Et_ic_eq 39 dX12_clause_32 rfl (by rw [e1]; rfl) ?_
          refine Eq_aln dX12_clause_39 rfl ?_
          refine Eam_x_pu dX12_clause_40 rfl ?_
          refine Eq_getI dX12_clause_41 fl_X12_110 (ws_50 hW1) rfl (by first | exact wI_e0 | exact hC.1 | exact hCm.1 | exact hCn.1 | exact hw | exact hwk | exact hwn | exact hw2 | exact hA2.2.1 | exact hA1.2.1) ?_
          refine Eq_ic (v := nI 1) dX12_clause_44 rfl ?_
          first | refine Eq_add dX12_clause_45 ?_ | refine Eam_x_pu dX12_clause_45 rfl ?_
          refine Eam_x_putI dX12_clause_46 (fw_X12_110 rfl) (ws_50 hW1) (Or.inl rfl) ?_
          refine Eq_aln dX12_clause_49 rfl ?_
          refine Eq_getI dX12_clause_50 fl_X12_117 (ws_50 hW1) rfl (by first | exact wI_e0 | exact hC.1 | exact hCm.1 | exact hCn.1 | exact hw | exact hwk | exact hwn | exact hw2 | exact hA2.2.1 | exact hA1.2.1) ?_
          refine Eq_ic (v := -1) dX12_clause_53 rfl ?_
          refine Ef_ic_ne dX12_clause_54 (tgt := 70) rfl (by rfl) ?_
          refine Eq_aln dX12_clause_57 rfl ?_
          refine Eq_W0 (N := m_X12_look) dX12_clause_58 lk_X12_129 mV_X12_look (r_look hWk hAk) (by decide) (ws_50 hW1) rfl (by decide) (Nat.le_of_ble_eq_true rfl) (Nat.le_of_ble_eq_true rfl) (fun vq hq1 hq2 => ?_)
          obtain ⟨rfl, hf2, hA2⟩ := hq2
          have hW2 := hf2.Wd hWk
          have hw2 : am_i hq1 50 4 = -1 := (hf2.i (by decide) (by decide)).trans hw1
          have k2 : Fx [] [(50, 3)] h (am_wI hq1 50 3 (nI (nx tl tp (nx tl tp a + 1) + 1))) := (k1.tr hf2).tr (Fx.wI (Or.inr (by decide)))
          have hAm := hA2.mv (b := nx tl tp (nx tl tp a + 1) + 1) (by omega)
          have hCm := hC.fx k2 (by decide)
          have k3 : Fx [56] [(50, 3)] h (am_wI (am_wI hq1 50 3 (nI (nx tl tp (nx tl tp a + 1) + 1))) 56 (90 * n + M.length) (nI (flt M).length)) := (k2.mono (by decide) (by decide)).tr (Fx.wI (Or.inl (by decide)))
          have hWn := k3.Wd hW
          have hAn := hAm.fx (Fx.wI (A := [56]) (B := []) (r := 56) (j := 90 * n + M.length) (v := nI (flt M).length) (Or.inl (by decide))) (by decide)
          have hCn := hC.fx k3 (by decide)
          have hgn : NG n h (am_wI (am_wI hq1 50 3 (nI (nx tl tp (nx tl tp a + 1) + 1))) 56 (90 * n + M.length) (nI (flt M).length)) := (NF.of3 k2).g.tr (NG.w56 hM)
          have hKn : KE (am_wI (am_wI hq1 50 3 (nI (nx tl tp (nx tl tp a + 1) + 1))) 56 (90 * n + M.length) (nI (flt M).length)) n M := (hK.2.fx k2 (by decide)).w
          have h55n : am_i (am_wI (am_wI hq1 50 3 (nI (nx tl tp (nx tl tp a + 1) + 1))) 56 (90 * n + M.length) (nI (flt M).length)) 55 n = nI M.length := (by rw [wI_ne (by decide), k2.i (by decide) (by simp)]; exact hK.1)
          have hwn : am_i (am_wI (am_wI hq1 50 3 (nI (nx tl tp (nx tl tp a + 1) + 1))) 56 (90 * n + M.length) (nI (flt M).length)) 50 4 = -1 := (k3.i (by decide) (by decide)).trans hw
          have hdn : am_i (am_wI (am_wI hq1 50 3 (nI (nx tl tp (nx tl tp a + 1) + 1))) 56 (90 * n + M.length) (nI (flt M).length)) 50 5 = nI 0 := (k3.i (by decide) (by decide)).trans hd
          refine Eq_bp (v := nI 58) dX12_clause_61 rfl ?_
          refine Et_ic_eq 70 dX12_clause_63 rfl (by rw [e2]; rfl) ?_
          refine Eq_aln dX12_clause_70 rfl ?_
          refine Eam_x_pu dX12_clause_71 rfl ?_
          refine Eq_getI dX12_clause_72 fl_X12_110 (ws_50 hW2) rfl (by first | exact wI_e0 | exact hC.1 | exact hCm.1 | exact hCn.1 | exact hw | exact hwk | exact hwn | exact hw2 | exact hA2.2.1 | exact hA1.2.1) ?_
          refine Eq_ic (v := nI 1) dX12_clause_75 rfl ?_
          first | refine Eq_add dX12_clause_76 ?_ | refine Eam_x_pu dX12_clause_76 rfl ?_
          refine Eam_x_putI dX12_clause_77 (fw_X12_110 rfl) (ws_50 hW2) (Or.inl rfl) ?_
          refine Eq_aln dX12_clause_80 rfl ?_
          refine Eq_getI dX12_clause_81 fl_X12_117 (ws_50 hW2) rfl (by first | exact wI_e0 | exact hC.1 | exact hCm.1 | exact hCn.1 | exact hw | exact hwk | exact hwn | exact hw2 | exact hA2.2.1 | exact hA1.2.1) ?_
          refine Eq_ic (v := -1) dX12_clause_84 rfl ?_
          refine Et_ic_eq 89 dX12_clause_85 rfl (by rfl) ?_
          refine Eq_aln dX12_clause_89 rfl ?_
          refine Eq_getR dX12_clause_90 fl_X12_25 (ws_50 hW2) rfl (wp_50_10 hW2) ?_
          refine Eq_iln dX12_clause_93 rfl ?_
          refine Eq_aln dX12_clause_94 rfl ?_
          refine Eq_getR dX12_clause_95 fl_X12_19 (ws_50 hW2) rfl (wp_50_8 hW2) ?_
          refine Eq_aln dX12_clause_98 rfl ?_
          refine Eq_getI dX12_clause_99 fl_X12_120 (ws_50 hW2) rfl (by first | exact wI_e0 | exact hC.1 | exact hCm.1 | exact hCn.1 | exact hw | exact hwk | exact hwn | exact hw2 | exact hA2.2.1 | exact hA1.2.1) ?_
          refine Eq_ald dX12_clause_102 (ws_54 hW2) (by omega) (by omega) (by first | exact hK.1 | exact hCm.2.2.1) ?_
          refine Eq_ast dX12_clause_103 (ws_56 hW2) (by omega) (by omega) ?_
          refine Eq_aln dX12_clause_104 rfl ?_
          refine Eq_W0 (N := m_X12_look) dX12_clause_105 lk_X12_129 mV_X12_look (r_look hWn hAn) (by decide) (ws_50 hW2) rfl (by decide) (Nat.le_of_ble_eq_true rfl) (Nat.le_of_ble_eq_true rfl) (fun vq hq1 hq2 => ?_)
          obtain ⟨rfl, hf3, hA3⟩ := hq2
          have hW3 := hf3.Wd hWn
          refine Eq_bp (v := nI 33) dX12_clause_108 rfl ?_
          refine Ef_ic_eq dX12_clause_110 (tgt := 122) rfl (by exact fun z => e33 ((oNlt (fun k hk => by have := s3 k hk; omega) 33 (by omega)).mp z)) ?_
          refine Eq_aln dX12_clause_113 rfl ?_
          refine Eq_W0 (N := m_X12_look) dX12_clause_114 lk_X12_129 mV_X12_look (r_look hW3 hA3) (by decide) (ws_50 hW3) rfl (by decide) (Nat.le_of_ble_eq_true rfl) (Nat.le_of_ble_eq_true rfl) (fun vq hq1 hq2 => ?_)
          obtain ⟨rfl, hf4, hA4⟩ := hq2
          have hW4 := hf4.Wd hW3
          refine Eq_bp (v := nI 40) dX12_clause_117 rfl ?_
          refine Et_ic_ne 126 dX12_clause_119 rfl (by rw [nx_nx]; exact fun z => e40 ((oNlt (fun k hk => by have := s3 k hk; omega) 40 (by omega)).mp z)) ?_
          refine Eq_ic (v := nI 0) dX12_clause_126 rfl ?_
          refine Eq_isn dX12_clause_127 (by decide) ?_
          refine Eam_nl (pc' := 128) (l' := [_, _, _]) rfl rfl ?_
          obtain ⟨v5, h5, z1, z2⟩ := r_cl_b (M := M) (x := nx tl tp (nx tl tp (nx tl tp a + 1) + 1)) hW4 hn hM htl (by rw [← nx_nx (tl := tl) (tp := tp) (a := nx tl tp (nx tl tp a + 1) + 1)]; exact hA4) z2x ((hf3.tr hf4).i (by decide) (by decide) |>.trans hwn) (hCn.fx (hf3.tr hf4) (by decide)) (by omega) (hKn.fx (hf3.tr hf4) (by decide)) (((hf3.tr hf4).i (by decide) (by simp)).trans h55n) (((hf3.tr hf4).i (by decide) (by simp)).trans wI_e0) (((hf3.tr hf4).i (by decide) (by decide)).trans hdn)
          exact ⟨v5, h5, z1, z2.tr (hgn.tr (NF.of3 (hf3.tr hf4)).g)⟩
    · rw [if_neg e2]
      refine Eq_bp (v := nI 90) dX12_clause_0 rfl ?_
      refine Eq_aln dX12_clause_2 rfl ?_
      refine Eq_getI dX12_clause_3 fl_X12_120 (ws_50 hW) rfl (by first | exact wI_e0 | exact hC.1 | exact hw | exact hwk | exact hA2.2.1 | exact hA1.2.1 | (rw [wI_o (by decide), wI_e0]) | (rw [wI_o (by decide), wI_o (by decide), wI_e0])) ?_
      first | refine Eq_mul dX12_clause_6 ?_ | refine Eam_x_pu dX12_clause_6 rfl ?_
      refine Eq_aln dX12_clause_7 rfl ?_
      refine Eq_getR dX12_clause_8 fl_X12_22 (ws_50 hW) rfl (wp_50_9 hW) ?_
      refine Eq_aln dX12_clause_11 rfl ?_
      refine Eq_getI dX12_clause_12 fl_X12_120 (ws_50 hW) rfl (by first | exact wI_e0 | exact hC.1 | exact hw | exact hwk | exact hA2.2.1 | exact hA1.2.1 | (rw [wI_o (by decide), wI_e0]) | (rw [wI_o (by decide), wI_o (by decide), wI_e0])) ?_
      refine Eq_ald dX12_clause_15 (ws_55 hW) (by omega) (by omega) (by first | exact hK.1 | exact hCm.2.2.1) ?_
      first | refine Eq_add dX12_clause_16 ?_ | refine Eam_x_pu dX12_clause_16 rfl ?_
      refine Eq_isn dX12_clause_17 (by decide) ?_
      refine Eam_nl (pc' := 18) (l' := [_, _, _]) rfl rfl ?_
      refine Eq_aln dX12_clause_18 rfl ?_
      refine Eq_getI dX12_clause_19 fl_X12_117 (ws_50 hW) rfl (by first | exact wI_e0 | exact hC.1 | exact hw | exact hwk | exact hA2.2.1 | exact hA1.2.1 | (rw [wI_o (by decide), wI_e0]) | (rw [wI_o (by decide), wI_o (by decide), wI_e0])) ?_
      refine Eq_ic (v := -1) dX12_clause_22 rfl ?_
      refine Ef_ic_ne dX12_clause_23 (tgt := 39) rfl (by rfl) ?_
      refine Eq_aln dX12_clause_26 rfl ?_
      refine Eq_W0 (N := m_X12_look) dX12_clause_27 lk_X12_129 mV_X12_look (r_look hW hA) (by decide) (ws_50 hW) rfl (by decide) (Nat.le_of_ble_eq_true rfl) (Nat.le_of_ble_eq_true rfl) (fun vq hq1 hq2 => ?_)
      obtain ⟨rfl, hf1, hA1⟩ := hq2
      have hW1 := hf1.Wd hW
      have hw1 : am_i hq1 50 4 = -1 := (hf1.i (by decide) (by decide)).trans hw
      have k1 : Fx [] [(50, 3)] h (am_wI hq1 50 3 (nI (nx tl tp a + 1))) := hf1.tr (Fx.wI (Or.inr (by decide)))
      have hWk := k1.Wd hW
      have hAk := hA1.mv (b := nx tl tp a + 1) (by omega)
      have hwk : am_i (am_wI hq1 50 3 (nI (nx tl tp a + 1))) 50 4 = -1 := hw1
      refine Eq_bp (v := nI 121) dX12_clause_30 rfl ?_
      refine Et_ic_eq 39 dX12_clause_32 rfl (by rw [e1]; rfl) ?_
      refine Eq_aln dX12_clause_39 rfl ?_
      refine Eam_x_pu dX12_clause_40 rfl ?_
      refine Eq_getI dX12_clause_41 fl_X12_110 (ws_50 hW1) rfl (by first | exact wI_e0 | exact hC.1 | exact hw | exact hwk | exact hA2.2.1 | exact hA1.2.1 | (rw [wI_o (by decide), wI_e0]) | (rw [wI_o (by decide), wI_o (by decide), wI_e0])) ?_
      refine Eq_ic (v := nI 1) dX12_clause_44 rfl ?_
      first | refine Eq_add dX12_clause_45 ?_ | refine Eam_x_pu dX12_clause_45 rfl ?_
      refine Eam_x_putI dX12_clause_46 (fw_X12_110 rfl) (ws_50 hW1) (Or.inl rfl) ?_
      refine Eq_aln dX12_clause_49 rfl ?_
      refine Eq_getI dX12_clause_50 fl_X12_117 (ws_50 hW1) rfl (by first | exact wI_e0 | exact hC.1 | exact hw | exact hwk | exact hA2.2.1 | exact hA1.2.1 | (rw [wI_o (by decide), wI_e0]) | (rw [wI_o (by decide), wI_o (by decide), wI_e0])) ?_
      refine Eq_ic (v := -1) dX12_clause_53 rfl ?_
      refine Ef_ic_ne dX12_clause_54 (tgt := 70) rfl (by rfl) ?_
      refine Eq_aln dX12_clause_57 rfl ?_
      refine Eq_W0 (N := m_X12_look) dX12_clause_58 lk_X12_129 mV_X12_look (r_look hWk hAk) (by decide) (ws_50 hW1) rfl (by decide) (Nat.le_of_ble_eq_true rfl) (Nat.le_of_ble_eq_true rfl) (fun vq hq1 hq2 => ?_)
      obtain ⟨rfl, hf2, hA2⟩ := hq2
      have hW2 := hf2.Wd hWk
      have hw2 : am_i hq1 50 4 = -1 := (hf2.i (by decide) (by decide)).trans hw1
      refine Eq_bp (v := nI 58) dX12_clause_61 rfl ?_
      refine Ef_ic_eq dX12_clause_63 (tgt := 70) rfl (by exact fun z => e2 ((oNlt (fun k hk => by have := s2 k hk; omega) 58 (by omega)).mp z)) ?_
      refine Eq_aln dX12_clause_66 rfl ?_
      refine Eq_V0 (N := m_X12_bad) dX12_clause_67 lk_X12_126 mV_X12_bad (r_bad hW2 hA2 hw2) (by decide) (ws_50 hW2) rfl (by decide) (Nat.le_of_ble_eq_true rfl) (Nat.le_of_ble_eq_true rfl) ?_
      refine Eq_aln dX12_clause_70 rfl ?_
      refine Eam_x_pu dX12_clause_71 rfl ?_
      refine Eq_getI dX12_clause_72 fl_X12_110 (ws_50 hW2) rfl (by first | exact wI_e0 | exact hC.1 | exact hw | exact hwk | exact hA2.2.1 | exact hA1.2.1 | (rw [wI_o (by decide), wI_e0]) | (rw [wI_o (by decide), wI_o (by decide), wI_e0])) ?_
      refine Eq_ic (v := nI 1) dX12_clause_75 rfl ?_
      first | refine Eq_add dX12_clause_76 ?_ | refine Eam_x_pu dX12_clause_76 rfl ?_
      refine Eam_x_putI dX12_clause_77 (fw_X12_110 rfl) (ws_50 hW2) (Or.inl rfl) ?_
      refine Eq_aln dX12_clause_80 rfl ?_
      refine Eq_getI dX12_clause_81 fl_X12_117 (ws_50 hW2) rfl (by first | exact wI_e0 | exact hC.1 | exact hw | exact hwk | exact hA2.2.1 | exact hA1.2.1 | (rw [wI_o (by decide), wI_e0]) | (rw [wI_o (by decide), wI_o (by decide), wI_e0])) ?_
      refine Eq_ic (v := -1) dX12_clause_84 rfl ?_
      refine Ef_ic_eq dX12_clause_85 (tgt := 89) rfl (by exact nI_m1 (by omega)) ?_
      refine Eq_vr dX12_clause_88 rfl ?_
      exact ⟨rfl, ((NF.of3 k1).tr ((NF.of3 hf2).tr (NF.of4.tr NF.w3))).g, by rw [wI_o (by decide), wI_e0], _, (hA2.fx (Fx.wI (A := []) (B := [(50, 4)]) (Or.inr (by decide))) (by decide)).mv (by omega)⟩
  · rw [if_neg e1]
    refine Eq_bp (v := nI 90) dX12_clause_0 rfl ?_
    refine Eq_aln dX12_clause_2 rfl ?_
    refine Eq_getI dX12_clause_3 fl_X12_120 (ws_50 hW) rfl (by first | exact wI_e0 | exact hC.1 | exact hw | exact hA1.2.1 | (rw [wI_o (by decide), wI_e0]) | (rw [wI_o (by decide), wI_o (by decide), wI_e0])) ?_
    first | refine Eq_mul dX12_clause_6 ?_ | refine Eam_x_pu dX12_clause_6 rfl ?_
    refine Eq_aln dX12_clause_7 rfl ?_
    refine Eq_getR dX12_clause_8 fl_X12_22 (ws_50 hW) rfl (wp_50_9 hW) ?_
    refine Eq_aln dX12_clause_11 rfl ?_
    refine Eq_getI dX12_clause_12 fl_X12_120 (ws_50 hW) rfl (by first | exact wI_e0 | exact hC.1 | exact hw | exact hA1.2.1 | (rw [wI_o (by decide), wI_e0]) | (rw [wI_o (by decide), wI_o (by decide), wI_e0])) ?_
    refine Eq_ald dX12_clause_15 (ws_55 hW) (by omega) (by omega) (by first | exact hK.1 | exact hCm.2.2.1) ?_
    first | refine Eq_add dX12_clause_16 ?_ | refine Eam_x_pu dX12_clause_16 rfl ?_
    refine Eq_isn dX12_clause_17 (by decide) ?_
    refine Eam_nl (pc' := 18) (l' := [_, _, _]) rfl rfl ?_
    refine Eq_aln dX12_clause_18 rfl ?_
    refine Eq_getI dX12_clause_19 fl_X12_117 (ws_50 hW) rfl (by first | exact wI_e0 | exact hC.1 | exact hw | exact hA1.2.1 | (rw [wI_o (by decide), wI_e0]) | (rw [wI_o (by decide), wI_o (by decide), wI_e0])) ?_
    refine Eq_ic (v := -1) dX12_clause_22 rfl ?_
    refine Ef_ic_ne dX12_clause_23 (tgt := 39) rfl (by rfl) ?_
    refine Eq_aln dX12_clause_26 rfl ?_
    refine Eq_W0 (N := m_X12_look) dX12_clause_27 lk_X12_129 mV_X12_look (r_look hW hA) (by decide) (ws_50 hW) rfl (by decide) (Nat.le_of_ble_eq_true rfl) (Nat.le_of_ble_eq_true rfl) (fun vq hq1 hq2 => ?_)
    obtain ⟨rfl, hf1, hA1⟩ := hq2
    have hW1 := hf1.Wd hW
    have hw1 : am_i hq1 50 4 = -1 := (hf1.i (by decide) (by decide)).trans hw
    refine Eq_bp (v := nI 121) dX12_clause_30 rfl ?_
    refine Ef_ic_eq dX12_clause_32 (tgt := 39) rfl (by exact fun z => e1 ((oNlt (fun k hk => by have := s1 k hk; omega) 121 (by omega)).mp z)) ?_
    refine Eq_aln dX12_clause_35 rfl ?_
    refine Eq_V0 (N := m_X12_bad) dX12_clause_36 lk_X12_126 mV_X12_bad (r_bad hW1 hA1 hw1) (by decide) (ws_50 hW1) rfl (by decide) (Nat.le_of_ble_eq_true rfl) (Nat.le_of_ble_eq_true rfl) ?_
    refine Eq_aln dX12_clause_39 rfl ?_
    refine Eam_x_pu dX12_clause_40 rfl ?_
    refine Eq_getI dX12_clause_41 fl_X12_110 (ws_50 hW1) rfl (by first | exact wI_e0 | exact hC.1 | exact hw | exact hA1.2.1 | (rw [wI_o (by decide), wI_e0]) | (rw [wI_o (by decide), wI_o (by decide), wI_e0])) ?_
    refine Eq_ic (v := nI 1) dX12_clause_44 rfl ?_
    first | refine Eq_add dX12_clause_45 ?_ | refine Eam_x_pu dX12_clause_45 rfl ?_
    refine Eam_x_putI dX12_clause_46 (fw_X12_110 rfl) (ws_50 hW1) (Or.inl rfl) ?_
    refine Eq_aln dX12_clause_49 rfl ?_
    refine Eq_getI dX12_clause_50 fl_X12_117 (ws_50 hW1) rfl (by first | exact wI_e0 | exact hC.1 | exact hw | exact hA1.2.1 | (rw [wI_o (by decide), wI_e0]) | (rw [wI_o (by decide), wI_o (by decide), wI_e0])) ?_
    refine Eq_ic (v := -1) dX12_clause_53 rfl ?_
    refine Et_ic_ne 70 dX12_clause_54 rfl (by exact nI_m1 (by omega)) ?_
    refine Eq_aln dX12_clause_70 rfl ?_
    refine Eam_x_pu dX12_clause_71 rfl ?_
    refine Eq_getI dX12_clause_72 fl_X12_110 (ws_50 hW1) rfl (by first | exact wI_e0 | exact hC.1 | exact hw | exact hA1.2.1 | (rw [wI_o (by decide), wI_e0]) | (rw [wI_o (by decide), wI_o (by decide), wI_e0])) ?_
    refine Eq_ic (v := nI 1) dX12_clause_75 rfl ?_
    first | refine Eq_add dX12_clause_76 ?_ | refine Eam_x_pu dX12_clause_76 rfl ?_
    refine Eam_x_putI dX12_clause_77 (fw_X12_110 rfl) (ws_50 hW1) (Or.inl rfl) ?_
    refine Eq_aln dX12_clause_80 rfl ?_
    refine Eq_getI dX12_clause_81 fl_X12_117 (ws_50 hW1) rfl (by first | exact wI_e0 | exact hC.1 | exact hw | exact hA1.2.1 | (rw [wI_o (by decide), wI_e0]) | (rw [wI_o (by decide), wI_o (by decide), wI_e0])) ?_
    refine Eq_ic (v := -1) dX12_clause_84 rfl ?_
    refine Ef_ic_eq dX12_clause_85 (tgt := 89) rfl (by exact nI_m1 (by omega)) ?_
    refine Eq_vr dX12_clause_88 rfl ?_
    exact ⟨rfl, ((NF.of3 hf1).tr (NF.of4.tr (NF.w3.tr NF.w3))).g, by rw [wI_o (by decide), wI_o (by decide), wI_e0], _, ((hA1.fx (Fx.wI (A := []) (B := [(50, 4)]) (Or.inr (by decide))) (by decide)).mv (b := nx tl tp a + 1) (by omega)).mv (by omega)⟩
def RLQ (tl : Nat) (tp : Nat → Nat) (n : Nat) (r : Nat × Option (List (Tks × Tks))) (h : am_H) (w : Option Value) (h2 : am_H) : Prop := NG n h h2 ∧ (∃ b, RA h2 tl tp b) ∧ match r.2 with
  | none => w = some (.int (nI r.1))
  | some M => w = some (.int (-1)) ∧ CW h2 n (flt M) ∧ KL h2 n M
theorem RLQ.tr {tl : Nat} {tp : Nat → Nat} {n : Nat} {r : Nat × Option (List (Tks × Tks))} {h h1 h2 : am_H} {w : Option Value} (m : RLQ tl tp n r h1 w h2) (f : NG n h h1) : RLQ tl tp n r h w h2 := ⟨f.tr m.1, m.2⟩
set_option maxHeartbeats 2000000 in
theorem r_atEndB {h : am_H} (hW : Wd h) {p : Nat} (hp : p ≤ 1000) (hw : am_i h 50 4 = nI p) : am_C 2 m_X12_atEnd [.ref 50] h (some (.int (nI p)), h) := by
  refine q_aln dX12_atEnd_0 rfl ?_
  refine q_getI dX12_atEnd_1 fl_X12_117 (ws_50 hW) rfl hw ?_
  refine q_ic (v := -1) dX12_atEnd_4 rfl ?_
  refine t_ic_ne 20 dX12_atEnd_5 rfl (by exact nI_m1 (by omega)) ?_
  refine q_aln dX12_atEnd_20 rfl ?_
  refine q_getI dX12_atEnd_21 fl_X12_117 (ws_50 hW) rfl hw ?_
  refine q_ir dX12_atEnd_24 rfl ?_
  rfl
set_option maxHeartbeats 2000000 in
theorem r_atEnd {h : am_H} (hW : Wd h) {tl : Nat} {tp : Nat → Nat} {p : Nat} (hA : RA h tl tp p) (hw : am_i h 50 4 = -1) : am_D 2 m_X12_atEnd [.ref 50] h (fun v h2 => Fx [] [(50, 3), (50, 4)] h h2 ∧ (∃ b, RA h2 tl tp b) ∧ v = some (.int (if sgn tl tp (nx tl tp p) = none then -1 else nI (nx tl tp p)))) := by
  have s := rsgn256 hA (nx tl tp p)
  by_cases e : sgn tl tp (nx tl tp p) = none
  · rw [if_pos e]
    refine Eq_aln dX12_atEnd_0 rfl ?_
    refine Eq_getI dX12_atEnd_1 fl_X12_117 (ws_50 hW) rfl (by first | exact hw1 | exact hw) ?_
    refine Eq_ic (v := -1) dX12_atEnd_4 rfl ?_
    refine Ef_ic_ne dX12_atEnd_5 (tgt := 20) rfl (by rfl) ?_
    refine Eq_aln dX12_atEnd_8 rfl ?_
    refine Eq_W0 (N := m_X12_look) dX12_atEnd_9 lk_X12_129 mV_X12_look (r_look hW hA) (by decide) (ws_50 hW) rfl (by decide) (Nat.le_of_ble_eq_true rfl) (Nat.le_of_ble_eq_true rfl) (fun vq hq1 hq2 => ?_)
    obtain ⟨rfl, hf1, hA1⟩ := hq2
    have hW1 := hf1.Wd hW
    have hw1 : am_i hq1 50 4 = -1 := (hf1.i (by decide) (by decide)).trans hw
    refine Eq_ic (v := -1) dX12_atEnd_12 rfl ?_
    refine Et_ic_eq 20 dX12_atEnd_13 rfl (by rw [e]; rfl) ?_
    refine Eq_aln dX12_atEnd_20 rfl ?_
    refine Eq_getI dX12_atEnd_21 fl_X12_117 (ws_50 hW1) rfl (by first | exact hw1 | exact hw) ?_
    refine Eq_ir dX12_atEnd_24 rfl ?_
    exact ⟨hf1.mono (by decide) (by decide), ⟨_, hA1⟩, rfl⟩
  · rw [if_neg e]
    refine Eq_aln dX12_atEnd_0 rfl ?_
    refine Eq_getI dX12_atEnd_1 fl_X12_117 (ws_50 hW) rfl (by first | exact wI_e0 | exact hw) ?_
    refine Eq_ic (v := -1) dX12_atEnd_4 rfl ?_
    refine Ef_ic_ne dX12_atEnd_5 (tgt := 20) rfl (by rfl) ?_
    refine Eq_aln dX12_atEnd_8 rfl ?_
    refine Eq_W0 (N := m_X12_look) dX12_atEnd_9 lk_X12_129 mV_X12_look (r_look hW hA) (by decide) (ws_50 hW) rfl (by decide) (Nat.le_of_ble_eq_true rfl) (Nat.le_of_ble_eq_true rfl) (fun vq hq1 hq2 => ?_)
    obtain ⟨rfl, hf1, hA1⟩ := hq2
    have hW1 := hf1.Wd hW
    have hw1 : am_i hq1 50 4 = -1 := (hf1.i (by decide) (by decide)).trans hw
    refine Eq_ic (v := -1) dX12_atEnd_12 rfl ?_
    refine Ef_ic_eq dX12_atEnd_13 (tgt := 20) rfl (by exact fun z => e ((oNn (fun k hk => by have := s k hk; omega)).mp z)) ?_
    refine Eq_aln dX12_atEnd_16 rfl ?_
    refine Eq_V0 (N := m_X12_bad) dX12_atEnd_17 lk_X12_126 mV_X12_bad (r_bad hW1 hA1 hw1) (by decide) (ws_50 hW1) rfl (by decide) (Nat.le_of_ble_eq_true rfl) (Nat.le_of_ble_eq_true rfl) ?_
    refine Eq_aln dX12_atEnd_20 rfl ?_
    refine Eq_getI dX12_atEnd_21 fl_X12_117 (ws_50 hW1) rfl (by first | exact wI_e0 | exact hw) ?_
    refine Eq_ir dX12_atEnd_24 rfl ?_
    exact ⟨(hf1.mono (by decide) (by decide)).tr (Fx.wI (Or.inr (by decide))), ⟨_, hA1.fx (Fx.wI (A := []) (B := [(50, 4)]) (Or.inr (by decide))) (by decide)⟩, rfl⟩
set_option maxHeartbeats 2000000 in
theorem r_law_lp {tl : Nat} {tp : Nat → Nat} {n : Nat} {l1 : Int32} : ∀ k a M h h0, tl < a + k → a ≤ tl → Wd h → MLQ tl tp n M (mcl tl tp a) h0 none h → 2 * M.length ≤ a → (flt M).length ≤ a → tl ≤ 160 → am_E 36 m_X12_readLaw 9 [some (.ref 50), some (.int l1)] [] h (RLQ tl tp n (mcs tl tp k a M) h) := by
  intro k
  induction k with
  | zero => intro a M h h0 hk hl; omega
  | succ k ih =>
    intro a M h h0 hk hl hW hC h2M hfM htl
    have hcl := mcl_pr (tp := tp) hl
    have hx1 := nx_ge (tl := tl) (tp := tp) (a := (mcl tl tp a).1)
    cases hq : (mcl tl tp a).2 with
    | none =>
      obtain ⟨_, _, hw, b, hA⟩ := hC.n hq
      rw [mcs_n hq]
      refine Eq_aln dX12_readLaw_9 rfl ?_
      refine Eq_getI dX12_readLaw_10 fl_X12_117 (ws_50 hW) rfl hw ?_
      refine Eq_ic (v := -1) dX12_readLaw_13 rfl ?_
      refine Et_ic_ne 43 dX12_readLaw_14 rfl (by exact nI_m1 (by omega)) ?_
      refine Eq_aln dX12_readLaw_43 rfl ?_
      refine Eq_V0 (N := m_X12_atEnd) dX12_readLaw_44 lk_X12_187 mV_X12_atEnd (r_atEndB hW (by omega) hw) (by decide) (ws_50 hW) rfl (by decide) (Nat.le_of_ble_eq_true rfl) (Nat.le_of_ble_eq_true rfl) ?_
      refine Eq_ir dX12_readLaw_47 rfl ?_
      exact ⟨NG.rf, ⟨b, hA⟩, rfl⟩
    | some c =>
      obtain ⟨_, _, hw, hA, hCW, hKL, hd⟩ := hC.s hq
      have hlt := hcl.2.2 c hq
      have h22 := mcl_2 (tp := tp) hl c hq
      have hlen : (flt (M ++ [c])).length ≤ (mcl tl tp a).1 := by
        have := hlt.2 0
        rw [cly_len] at this
        rw [flt_app, List.length_append, List.length_append]
        split at this
        next e => rw [e]; simp only [List.length_nil]; omega
        next => omega
      have s := rsgn256 hA (nx tl tp (mcl tl tp a).1)
      by_cases e : sgn tl tp (nx tl tp (mcl tl tp a).1) = some 59
      · rw [mcs_y hq e]
        have hxl := (sgn_lt e).1
        refine Eq_aln dX12_readLaw_9 rfl ?_
        refine Eq_getI dX12_readLaw_10 fl_X12_117 (ws_50 hW) rfl (by first | exact hw | exact hA1.2.1) ?_
        refine Eq_ic (v := -1) dX12_readLaw_13 rfl ?_
        refine Ef_ic_ne dX12_readLaw_14 (tgt := 43) rfl (by rfl) ?_
        refine Eq_aln dX12_readLaw_17 rfl ?_
        refine Eq_W0 (N := m_X12_look) dX12_readLaw_18 lk_X12_129 mV_X12_look (r_look hW hA) (by decide) (ws_50 hW) rfl (by decide) (Nat.le_of_ble_eq_true rfl) (Nat.le_of_ble_eq_true rfl) (fun vq hq1 hq2 => ?_)
        obtain ⟨rfl, hf1, hA1⟩ := hq2
        have hW1 := hf1.Wd hW
        have k1 : Fx [] [(50, 3)] h (am_wI hq1 50 3 (nI (nx tl tp (mcl tl tp a).1 + 1))) := hf1.tr (Fx.wI (Or.inr (by decide)))
        have hAk := hA1.mv (b := nx tl tp (mcl tl tp a).1 + 1) (by omega)
        have hCk := hCW.fx k1 (by decide)
        have hKk : KL (am_wI hq1 50 3 (nI (nx tl tp (mcl tl tp a).1 + 1))) n (M ++ [c]) := ⟨(k1.i (by decide) (by simp)).trans hKL.1, hKL.2.fx k1 (by decide)⟩
        refine Eq_bp (v := nI 59) dX12_readLaw_21 rfl ?_
        refine Ef_ic_ne dX12_readLaw_23 (tgt := 43) rfl (by rw [e]; rfl) ?_
        refine Eq_aln dX12_readLaw_26 rfl ?_
        refine Eam_x_pu dX12_readLaw_27 rfl ?_
        refine Eq_getI dX12_readLaw_28 fl_X12_110 (ws_50 hW1) rfl (by first | exact hw | exact hA1.2.1) ?_
        refine Eq_ic (v := nI 1) dX12_readLaw_31 rfl ?_
        first | refine Eq_add dX12_readLaw_32 ?_ | refine Eam_x_pu dX12_readLaw_32 rfl ?_
        refine Eam_x_putI dX12_readLaw_33 (fw_X12_110 rfl) (ws_50 hW1) (Or.inl rfl) ?_
        refine Eq_aln dX12_readLaw_36 rfl ?_
        refine Eq_W0 (N := m_X12_clause) dX12_readLaw_37 lk_X12_184 mV_X12_clause (r_clause (k1.Wd hW) hAk (by omega) hCk hKk (by omega) (by simp only [List.length_append, List.length_cons, List.length_nil]; omega) ((k1.i (by decide) (by decide)).trans hw) ((k1.i (by decide) (by decide)).trans hd)) (by decide) (ws_50 hW1) rfl (by decide) (Nat.le_of_ble_eq_true rfl) (Nat.le_of_ble_eq_true rfl) (fun vq hq1 hq2 => ?_)
        have hq5 := hq2.1
        subst hq5
        refine Eam_x_goto (tgt := 9) dX12_readLaw_40 rfl ?_
        obtain ⟨v5, h5, z1, z2⟩ := ih (nx tl tp (mcl tl tp a).1 + 1) (M ++ [c]) hq1 _ (by omega) (by omega) (hq2.2.1.1.Wd (k1.Wd hW)) hq2 (by simp only [List.length_append, List.length_cons, List.length_nil]; omega) (by omega) htl
        exact ⟨v5, h5, z1, z2.tr ((NF.of3 k1).g.tr hq2.2.1)⟩
      · have hm : mcs tl tp (k + 1) a M = if sgn tl tp (nx tl tp (mcl tl tp a).1) = none then (nx tl tp (mcl tl tp a).1, some (M ++ [c])) else (nx tl tp (mcl tl tp a).1, none) := by
          split
          next e2 => exact mcs_e hq e e2
          next e2 => exact mcs_f hq e e2
        rw [hm]
        refine Eq_aln dX12_readLaw_9 rfl ?_
        refine Eq_getI dX12_readLaw_10 fl_X12_117 (ws_50 hW) rfl hw ?_
        refine Eq_ic (v := -1) dX12_readLaw_13 rfl ?_
        refine Ef_ic_ne dX12_readLaw_14 (tgt := 43) rfl (by rfl) ?_
        refine Eq_aln dX12_readLaw_17 rfl ?_
        refine Eq_W0 (N := m_X12_look) dX12_readLaw_18 lk_X12_129 mV_X12_look (r_look hW hA) (by decide) (ws_50 hW) rfl (by decide) (Nat.le_of_ble_eq_true rfl) (Nat.le_of_ble_eq_true rfl) (fun vq hq1 hq2 => ?_)
        obtain ⟨rfl, hf1, hA1⟩ := hq2
        have hW1 := hf1.Wd hW
        have hw1 : am_i hq1 50 4 = -1 := (hf1.i (by decide) (by decide)).trans hw
        refine Eq_bp (v := nI 59) dX12_readLaw_21 rfl ?_
        refine Et_ic_ne 43 dX12_readLaw_23 rfl (by exact fun z => e ((oNlt (fun k hk => by have := s k hk; omega) 59 (by omega)).mp z)) ?_
        refine Eq_aln dX12_readLaw_43 rfl ?_
        refine Eq_W0 (N := m_X12_atEnd) dX12_readLaw_44 lk_X12_187 mV_X12_atEnd (r_atEnd hW1 hA1 hw1) (by decide) (ws_50 hW1) rfl (by decide) (Nat.le_of_ble_eq_true rfl) (Nat.le_of_ble_eq_true rfl) (fun vq hq1 hq2 => ?_)
        obtain ⟨hf2, hA2, rfl⟩ := hq2
        have hff := (hf1.mono (A' := []) (B' := [(50, 3), (50, 4)]) (by decide) (by decide)).tr hf2
        refine Eq_ir dX12_readLaw_47 rfl ?_
        refine ⟨(NF.of (hff.mono (by decide) (by decide))).g, hA2, ?_⟩
        rw [nx_nx]
        by_cases e2 : sgn tl tp (nx tl tp (mcl tl tp a).1) = none
        · rw [if_pos e2, if_pos e2]
          exact ⟨rfl, hCW.fx hff (by decide), (hff.i (by decide) (by simp)).trans hKL.1, hKL.2.fx hff (by decide)⟩
        · rw [if_neg e2, if_neg e2]
set_option maxHeartbeats 2000000 in
theorem r_open {h : am_H} (hW : Wd h) {n : Nat} (hn : n ≤ 4) : am_C 0 m_X12_open [.ref 50, .int (nI n)] h (none, am_wI (am_wI (am_wI (am_wI (am_wI (am_wI h 50 14 (nI n)) 50 3 (nI 0)) 50 4 (-1)) 50 5 (nI 0)) 54 n (nI 0)) 55 n (nI 0)) := by
  refine q_aln dX12_open_0 rfl ?_
  refine q_iln dX12_open_1 rfl ?_
  refine am_x_putI dX12_open_2 (fw_X12_120 rfl) (ws_50 hW) (Or.inl rfl) ?_
  refine q_aln dX12_open_5 rfl ?_
  refine q_ic (v := nI 0) dX12_open_6 rfl ?_
  refine am_x_putI dX12_open_7 (fw_X12_110 rfl) (ws_50 hW) (Or.inl rfl) ?_
  refine q_aln dX12_open_10 rfl ?_
  refine q_ic (v := -1) dX12_open_11 rfl ?_
  refine am_x_putI dX12_open_12 (fw_X12_117 rfl) (ws_50 hW) (Or.inl rfl) ?_
  refine q_aln dX12_open_15 rfl ?_
  refine q_ic (v := nI 0) dX12_open_16 rfl ?_
  refine am_x_putI dX12_open_17 (fw_X12_123 rfl) (ws_50 hW) (Or.inl rfl) ?_
  refine q_aln dX12_open_20 rfl ?_
  refine q_getR dX12_open_21 fl_X12_19 (ws_50 hW) rfl (wp_50_8 hW) ?_
  refine q_iln dX12_open_24 rfl ?_
  refine q_ic (v := nI 0) dX12_open_25 rfl ?_
  refine q_ast dX12_open_26 (ws_54 hW) (by omega) (by omega) ?_
  refine q_aln dX12_open_27 rfl ?_
  refine q_getR dX12_open_28 fl_X12_22 (ws_50 hW) rfl (wp_50_9 hW) ?_
  refine q_iln dX12_open_31 rfl ?_
  refine q_ic (v := nI 0) dX12_open_32 rfl ?_
  refine q_ast dX12_open_33 (ws_55 hW) (by omega) (by omega) ?_
  refine q_vr dX12_open_34 rfl ?_
  rfl
set_option maxHeartbeats 2000000 in
theorem r_readLaw {h : am_H} (hW : Wd h) {tl : Nat} {tp : Nat → Nat} {n b : Nat} (hA : RA h tl tp b) (hn : n ≤ 4) : am_D 36 m_X12_readLaw [.ref 50, .int (nI n)] h (RLQ tl tp n (mcs tl tp 161 0 []) h) := by
  have htl := hA.1.2.1
  have g1 : Fx [] [(50, 14), (50, 3), (50, 4), (50, 5)] h (am_wI (am_wI (am_wI (am_wI h 50 14 (nI n)) 50 3 (nI 0)) 50 4 (-1)) 50 5 (nI 0)) := (Fx.wI (Or.inr (by decide))).tr ((Fx.wI (Or.inr (by decide))).tr ((Fx.wI (Or.inr (by decide))).tr (Fx.wI (Or.inr (by decide)))))
  have g2 : Fx [54, 55] [] (am_wI (am_wI (am_wI (am_wI h 50 14 (nI n)) 50 3 (nI 0)) 50 4 (-1)) 50 5 (nI 0)) (am_wI (am_wI (am_wI (am_wI (am_wI (am_wI h 50 14 (nI n)) 50 3 (nI 0)) 50 4 (-1)) 50 5 (nI 0)) 54 n (nI 0)) 55 n (nI 0)) := (Fx.wI (Or.inl (by decide))).tr (Fx.wI (Or.inl (by decide)))
  have hWo : Wd (am_wI (am_wI (am_wI (am_wI (am_wI (am_wI h 50 14 (nI n)) 50 3 (nI 0)) 50 4 (-1)) 50 5 (nI 0)) 54 n (nI 0)) 55 n (nI 0)) := g2.Wd (g1.Wd hW)
  have hAo : RA (am_wI (am_wI (am_wI (am_wI (am_wI (am_wI h 50 14 (nI n)) 50 3 (nI 0)) 50 4 (-1)) 50 5 (nI 0)) 54 n (nI 0)) 55 n (nI 0)) tl tp 0 := ⟨(hA.1.fx g1 (by decide)).fx g2 (by decide), rfl, by omega⟩
  have hng : NG n h (am_wI (am_wI (am_wI (am_wI (am_wI (am_wI h 50 14 (nI n)) 50 3 (nI 0)) 50 4 (-1)) 50 5 (nI 0)) 54 n (nI 0)) 55 n (nI 0)) := ⟨(g1.mono (by decide) (by decide)).tr (g2.mono (by decide) (by decide)), fun i _ => ⟨rfl, rfl⟩, fun k hk => ⟨by rw [wI_ne (by decide), wI_eq, if_neg hk]; exact g1.i (by decide) (by simp), by rw [wI_eq, if_neg hk, wI_ne (by decide)]; exact g1.i (by decide) (by simp)⟩, fun i _ => ⟨rfl, rfl, rfl⟩⟩
  have hCo : CW (am_wI (am_wI (am_wI (am_wI (am_wI (am_wI h 50 14 (nI n)) 50 3 (nI 0)) 50 4 (-1)) 50 5 (nI 0)) 54 n (nI 0)) 55 n (nI 0)) n (flt []) := ⟨rfl, hn, by rw [wI_ne (by decide), wI_e0]; rfl, by simp [flt], fun i hi => by simp [flt] at hi⟩
  have hKo : KL (am_wI (am_wI (am_wI (am_wI (am_wI (am_wI h 50 14 (nI n)) 50 3 (nI 0)) 50 4 (-1)) 50 5 (nI 0)) 54 n (nI 0)) 55 n (nI 0)) n [] := ⟨wI_e0, fun k hk => by simp at hk⟩
  refine Eq_aln dX12_readLaw_0 rfl ?_
  refine Eq_iln dX12_readLaw_1 rfl ?_
  refine Eq_V1 (N := m_X12_open) dX12_readLaw_2 lk_X12_181 mV_X12_open (r_open hW hn) (by decide) (ws_50 hW) rfl (by decide) (Nat.le_of_ble_eq_true rfl) (Nat.le_of_ble_eq_true rfl) ?_
  refine Eq_aln dX12_readLaw_5 rfl ?_
  refine Eq_W0 (N := m_X12_clause) dX12_readLaw_6 lk_X12_184 mV_X12_clause (r_clause (M := []) hWo hAo (by omega) hCo hKo (by simp [flt]) (by simp) rfl rfl) (by decide) (ws_50 hW) rfl (by decide) (Nat.le_of_ble_eq_true rfl) (Nat.le_of_ble_eq_true rfl) (fun vq hq1 hq2 => ?_)
  have hq5 := hq2.1
  subst hq5
  obtain ⟨v5, h5, z1, z2⟩ := r_law_lp 161 0 [] hq1 _ (by omega) (by omega) (hq2.2.1.1.Wd hWo) hq2 (by simp) (by simp [flt]) htl
  exact ⟨v5, h5, z1, z2.tr (hng.tr hq2.2.1)⟩
