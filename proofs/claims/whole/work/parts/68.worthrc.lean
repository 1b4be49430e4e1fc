/-! the reference's worth: rows of tokens, clauses -/
set_option maxHeartbeats 2000000 in
theorem r_tok {h : am_H} (hW : Wd h) {n f e i : Nat} (hn : n ≤ 4) (he : e ≤ 160) (hi : i < e) {st : List Int32} (hS : SM (am_i h 60) st) {tok : Nat × Nat} {ty ty' : List Bool} (hty : tyt 80 tok ty = some ty') (hvt : vt ty st) (h80 : ty.length ≤ 80) (hc : am_i h 52 (340 * n + i) = nI tok.1) (hv : am_i h 53 (340 * n + i) = nI tok.2) {P : Option Value → am_H → Prop} (kk : (∀ h2, Fx [60] [] h h2 → SM (am_i h2 60) (tokE (am_i h 59) tok st) → am_E 3 m_X12_workOut 12 [some (.ref 50), some (.int (nI n)), some (.int (nI f)), some (.int (nI e)), some (.int (nI (tokE (am_i h 59) tok st).length)), some (.int (nI (340 * n + i + 1)))] [] h2 P)) : am_E 3 m_X12_workOut 12 [some (.ref 50), some (.int (nI n)), some (.int (nI f)), some (.int (nI e)), some (.int (nI st.length)), some (.int (nI (340 * n + i)))] [] h P := by
  rcases tyt_c hty with ⟨e0, hl, hv2, rfl⟩ | ⟨e0, hl, hv2, rfl⟩ | ⟨e0, s9, rfl, rfl⟩ | ⟨e1, e2, s9, rfl, rfl⟩ | ⟨e1, e2, s9, rfl, rfl⟩ | ⟨e1, e2, s9, rfl, rfl⟩
  · obtain ⟨t1, t2⟩ := tok
    dsimp only at e0 hv2 hc hv
    subst e0
    have := vt_len hvt
    exact r_tok0 hW hn he hi hS (by omega) hc hv kk
  · obtain ⟨t1, t2⟩ := tok
    dsimp only at e0 hv2 hc hv
    subst e0
    have := vt_len hvt
    exact r_tok1 hW hn he hi hS (by omega) hv2 hc hv kk
  · obtain ⟨x, st, rfl, hx, hr⟩ := vt1 hvt
    obtain ⟨t1, t2⟩ := tok
    dsimp only at e0 hc
    subst e0
    have := vt_len hr
    simp only [List.length_cons] at h80
    exact r_tok9 hW hn he hi hS (by omega) (hx rfl) hc kk
  · obtain ⟨y, st, rfl, hy, hvr⟩ := vt1 hvt
    obtain ⟨x, st, rfl, hx, hr⟩ := vt1 hvr
    obtain ⟨t1, t2⟩ := tok
    dsimp only at e1 e2 hc
    simp only [List.length_cons] at h80
    have := vt_len hr
    rcases (show t1 = 2 ∨ t1 = 3 ∨ t1 = 4 ∨ t1 = 5 by omega) with rfl | rfl | rfl | rfl
    · rw [tokE_o (show 2 ≤ 2 by decide) (show 2 ≠ 9 by decide)] at kk
      exact r_tok2 hW hn he hi hS (by omega) hc kk
    · rw [tokE_o (show 2 ≤ 3 by decide) (show 3 ≠ 9 by decide)] at kk
      exact r_tok3 hW hn he hi hS (by omega) hc kk
    · rw [tokE_o (show 2 ≤ 4 by decide) (show 4 ≠ 9 by decide)] at kk
      exact r_tok4 hW hn he hi hS (by omega) hc kk
    · rw [tokE_o (show 2 ≤ 5 by decide) (show 5 ≠ 9 by decide)] at kk
      exact r_tok5 hW hn he hi hS (by omega) hc kk
  · obtain ⟨y, st, rfl, hy, hvr⟩ := vt1 hvt
    obtain ⟨x, st, rfl, hx, hr⟩ := vt1 hvr
    obtain ⟨t1, t2⟩ := tok
    dsimp only at e1 e2 hc
    simp only [List.length_cons] at h80
    have := vt_len hr
    rcases (show t1 = 6 ∨ t1 = 7 ∨ t1 = 8 by omega) with rfl | rfl | rfl
    · rw [tokE_o (show 2 ≤ 6 by decide) (show 6 ≠ 9 by decide)] at kk
      exact r_tok6 hW hn he hi hS (by omega) hc kk
    · rw [tokE_o (show 2 ≤ 7 by decide) (show 7 ≠ 9 by decide)] at kk
      exact r_tok7 hW hn he hi hS (by omega) hc kk
    · rw [tokE_o (show 2 ≤ 8 by decide) (show 8 ≠ 9 by decide)] at kk
      exact r_tok8 hW hn he hi hS (by omega) hc kk
  · obtain ⟨y, st, rfl, hy, hvr⟩ := vt1 hvt
    obtain ⟨x, st, rfl, hx, hr⟩ := vt1 hvr
    obtain ⟨t1, t2⟩ := tok
    dsimp only at e1 e2 hc
    simp only [List.length_cons] at h80
    have := vt_len hr
    rcases (show t1 = 10 ∨ t1 = 11 by omega) with rfl | rfl
    · rw [tokE_o (show 2 ≤ 10 by decide) (show 10 ≠ 9 by decide)] at kk
      exact r_tok10 hW hn he hi hS (by omega) (hx rfl) (hy rfl) hc kk
    · rw [tokE_o (show 2 ≤ 11 by decide) (show 11 ≠ 9 by decide)] at kk
      exact r_tok11 hW hn he hi hS (by omega) (hx rfl) (hy rfl) hc kk
theorem tyt_80 {t : Nat × Nat} {ty ty' : List Bool} (h : tyt 80 t ty = some ty') (hl : ty.length ≤ 80) : ty'.length ≤ 80 := by
  rcases tyt_c h with ⟨_, q, _, rfl⟩ | ⟨_, q, _, rfl⟩ | ⟨_, s9, rfl, rfl⟩ | ⟨_, _, s9, rfl, rfl⟩ | ⟨_, _, s9, rfl, rfl⟩ | ⟨_, _, s9, rfl, rfl⟩ <;> simp only [List.length_cons] at hl ⊢ <;> omega
set_option maxHeartbeats 2000000 in
theorem r_toks {n f e : Nat} (hn : n ≤ 4) (he : e ≤ 160) {ws : Nat → Int32} {P : Option Value → am_H → Prop} {h0 : am_H} : ∀ ts i st ty ty2 h, i + ts.length = e → Wd h → SM (am_i h 60) st → am_i h 59 = ws → Fx [60] [] h0 h → tyc 80 ts ty = some ty2 → vt ty st → ty.length ≤ 80 → (∀ j, j < ts.length → am_i h 52 (340 * n + (i + j)) = nI (ts.getD j (0, 0)).1 ∧ am_i h 53 (340 * n + (i + j)) = nI (ts.getD j (0, 0)).2) → (∀ h2, Wd h2 → Fx [60] [] h0 h2 → SM (am_i h2 60) (run ws ts st) → am_E 3 m_X12_workOut 12 [some (.ref 50), some (.int (nI n)), some (.int (nI f)), some (.int (nI e)), some (.int (nI (run ws ts st).length)), some (.int (nI (340 * n + e)))] [] h2 P) → am_E 3 m_X12_workOut 12 [some (.ref 50), some (.int (nI n)), some (.int (nI f)), some (.int (nI e)), some (.int (nI st.length)), some (.int (nI (340 * n + i)))] [] h P := by
  intro ts
  induction ts with
  | nil =>
    intro i st ty ty2 h hie hW hS hws hf hty hvt hl hg kk
    simp only [List.length_nil, Nat.add_zero] at hie
    subst hie
    exact kk h hW hf hS
  | cons tok ts ih =>
    intro i st ty ty2 h hie hW hS hws hf hty hvt hl hg kk
    simp only [List.length_cons] at hie
    simp only [tyc] at hty
    cases hq : tyt 80 tok ty with
    | none => rw [hq] at hty; cases hty
    | some tz =>
      rw [hq] at hty
      have g0 := hg 0 (by simp)
      refine r_tok hW hn he (by omega) hS hq hvt hl g0.1 g0.2 (fun h2 hx hS2 => ?_)
      rw [hws] at hS2 ⊢
      rw [show 340 * n + (i + 0) + 1 = 340 * n + (i + 1) by omega]
      refine ih (i + 1) (tokE ws tok st) tz ty2 h2 (by omega) (hx.Wd hW) hS2 ((hx.ia (by decide) (by decide)).trans hws) (hf.tr hx) hty (tokE_vt hq hvt) (tyt_80 hq hl) (fun j hj => ?_) kk
      have := hg (j + 1) (by simp only [List.length_cons]; omega)
      rw [hx.ia (r := 52) (by decide) (by decide), hx.ia (r := 53) (by decide) (by decide), show i + 1 + j = i + (j + 1) by omega]
      exact this
set_option maxHeartbeats 2000000 in
theorem r_workOut {h : am_H} (hW : Wd h) {n f e : Nat} (hn : n ≤ 4) (he : e ≤ 160) {ts : Tks} (hte : f + ts.length = e) {b : Bool} (hty : tyc 80 ts [] = some [b]) (hg : ∀ j, j < ts.length → am_i h 52 (340 * n + (f + j)) = nI (ts.getD j (0, 0)).1 ∧ am_i h 53 (340 * n + (f + j)) = nI (ts.getD j (0, 0)).2) {v : Int32} (hv : run (am_i h 59) ts [] = [v]) : am_D 3 m_X12_workOut [.ref 50, .int (nI n), .int (nI f), .int (nI e)] h (fun w h2 => w = some (.int v) ∧ Fx [60] [] h h2) := by
  refine Eq_ic (v := nI 0) dX12_workOut_0 rfl ?_
  refine Eq_is dX12_workOut_1 (by decide) ?_
  refine Eam_nl (pc' := 3) (l' := [_, _, _, _, _, _]) rfl rfl ?_
  refine Eq_sp (v := nI 340) dX12_workOut_3 rfl ?_
  refine Eq_iln dX12_workOut_6 rfl ?_
  first | refine Eq_mul dX12_workOut_7 ?_ | refine Eam_x_pu dX12_workOut_7 rfl ?_
  refine Eq_iln dX12_workOut_8 rfl ?_
  first | refine Eq_add dX12_workOut_9 ?_ | refine Eam_x_pu dX12_workOut_9 rfl ?_
  refine Eq_is dX12_workOut_10 (by decide) ?_
  refine Eam_nl (pc' := 12) (l' := [_, _, _, _, _, _]) rfl rfl ?_
  refine r_toks hn he (h0 := h) (ws := am_i h 59) ts f [] [] [b] h hte hW trivial rfl Fx.rf hty trivial (by simp) hg (fun h2 hW2 hf2 hS2 => ?_)
  rw [hv] at hS2 ⊢
  have htop : am_i h2 60 0 = v := hS2.1
  refine Eq_il dX12_workOut_12 rfl ?_
  refine Eq_sp (v := nI 340) dX12_workOut_14 rfl ?_
  refine Eq_iln dX12_workOut_17 rfl ?_
  first | refine Eq_mul dX12_workOut_18 ?_ | refine Eam_x_pu dX12_workOut_18 rfl ?_
  refine Eq_iln dX12_workOut_19 rfl ?_
  first | refine Eq_add dX12_workOut_20 ?_ | refine Eam_x_pu dX12_workOut_20 rfl ?_
  refine Et_ic_ge 171 dX12_workOut_21 rfl (by exact nI_le (by omega) (by omega)) ?_
  refine Eq_aln dX12_workOut_171 rfl ?_
  refine Eq_getR dX12_workOut_172 fl_X12_37 (ws_50 hW2) rfl (wp_50_16 hW2) ?_
  refine Eq_ic (v := nI 0) dX12_workOut_175 rfl ?_
  refine Eq_ald dX12_workOut_176 (ws_60 hW2) (by omega) (by omega) htop ?_
  refine Eq_ir dX12_workOut_177 rfl ?_
  exact ⟨rfl, hf2⟩
/-- manners as the reference keeps them -/
def LW (h : am_H) (n : Nat) (M : List (Tks × Tks)) : Prop := n ≤ 4 ∧ (flt M).length ≤ 160 ∧ M.length < 90 ∧ (∀ i, i < (flt M).length → am_i h 52 (340 * n + i) = nI ((flt M).getD i (0, 0)).1 ∧ am_i h 53 (340 * n + i) = nI ((flt M).getD i (0, 0)).2) ∧ KL h n M
theorem LW.fx {A : List Nat} {B : List (Nat × Nat)} {h h' : am_H} {n : Nat} {M : List (Tks × Tks)} (m : LW h n M) (a : Fx A B h h') (ok : 52 ∉ A ∧ 53 ∉ A ∧ 55 ∉ A ∧ 56 ∉ A ∧ 57 ∉ A ∧ 58 ∉ A ∧ 52 ∉ B.map Prod.fst ∧ 53 ∉ B.map Prod.fst ∧ 55 ∉ B.map Prod.fst ∧ 56 ∉ B.map Prod.fst ∧ 57 ∉ B.map Prod.fst ∧ 58 ∉ B.map Prod.fst) : LW h' n M := by
  obtain ⟨m1, m2, m3, m4, m5, m6⟩ := m
  refine ⟨m1, m2, m3, ?_, ?_, ?_⟩
  · rw [a.ia ok.1 ok.2.2.2.2.2.2.1, a.ia ok.2.1 ok.2.2.2.2.2.2.2.1]; exact m4
  · rw [a.ia ok.2.2.1 ok.2.2.2.2.2.2.2.2.1]; exact m5
  · exact m6.fx a ⟨ok.2.2.2.1, ok.2.2.2.2.1, ok.2.2.2.2.2.1, ok.2.2.2.2.2.2.2.2.2.1, ok.2.2.2.2.2.2.2.2.2.2.1, ok.2.2.2.2.2.2.2.2.2.2.2⟩
theorem flt_take : ∀ (M : List (Tks × Tks)) (k : Nat), k < M.length → flt (M.take (k + 1)) = flt (M.take k) ++ ((M.getD k ([], [])).1 ++ (M.getD k ([], [])).2)
  | [], k, h => by simp at h
  | c :: r, 0, _ => by simp [flt]
  | c :: r, k + 1, h => by
    simp only [List.take_succ_cons, flt]
    rw [flt_take r k (by simpa using h)]
    simp [List.getD_eq_getElem?_getD]
theorem flt_pre : ∀ (M : List (Tks × Tks)) (k : Nat), ∃ x, flt M = flt (M.take k) ++ x
  | [], k => ⟨[], by simp [flt]⟩
  | c :: r, 0 => ⟨flt (c :: r), by simp [flt]⟩
  | c :: r, k + 1 => by
    obtain ⟨x, hx⟩ := flt_pre r k
    refine ⟨x, ?_⟩
    simp only [List.take_succ_cons, flt]
    rw [hx]
    simp
theorem getD_mid {a b c : Tks} {j : Nat} (hj : j < b.length) : (a ++ (b ++ c)).getD (a.length + j) (0, 0) = b.getD j (0, 0) := by
  simp only [List.getD_eq_getElem?_getD]
  rw [List.getElem?_append_right (by omega), List.getElem?_append_left (by omega)]
  congr 2
  omega
theorem drop_cons {M : List (Tks × Tks)} {k : Nat} (hk : k < M.length) : M.drop k = M.getD k ([], []) :: M.drop (k + 1) := by
  rw [List.drop_eq_getElem_cons hk]
  simp [List.getD_eq_getElem?_getD, hk]
theorem getD_mem {M : List (Tks × Tks)} {k : Nat} (hk : k < M.length) : M.getD k ([], []) ∈ M := by
  have : M.getD k ([], []) = M[k] := by simp [List.getD_eq_getElem?_getD, hk]
  rw [this]
  exact List.getElem_mem hk
set_option maxHeartbeats 2000000 in
theorem r_worthOf_lp {n : Nat} {M : List (Tks × Tks)} (hM : ∀ c ∈ M, ClT c) {h0 : am_H} {ws : Nat → Int32} : ∀ q k h, k + q = M.length → Wd h → LW h n M → am_i h 59 = ws → Fx [60] [] h0 h → am_E 4 m_X12_worthOf 5 [some (.ref 50), some (.int (nI n)), some (.int (nI (90 * n + k)))] [] h (fun w h2 => w = some (.int (wth ws (M.drop k))) ∧ Fx [60] [] h0 h2) := by
  intro q
  induction q with
  | zero =>
    intro k h hk hW hL hws hf
    have hn := hL.1
    have hM9 := hL.2.2.1
    rw [List.drop_of_length_le (by omega)]
    refine Eq_iln dX12_worthOf_5 rfl ?_
    refine Eq_bp (v := nI 90) dX12_worthOf_6 rfl ?_
    refine Eq_iln dX12_worthOf_8 rfl ?_
    first | refine Eq_mul dX12_worthOf_9 ?_ | refine Eam_x_pu dX12_worthOf_9 rfl ?_
    refine Eq_aln dX12_worthOf_10 rfl ?_
    refine Eq_getR dX12_worthOf_11 fl_X12_22 (ws_50 hW) rfl (wp_50_9 hW) ?_
    refine Eq_iln dX12_worthOf_14 rfl ?_
    refine Eq_ald dX12_worthOf_15 (ws_55 hW) (by omega) (by omega) (by first | exact hL.2.2.2.2.1 | exact he.1 | exact he.2.1 | exact he.2.2 | exact e2.1 | exact e2.2.1 | exact e2.2.2) ?_
    first | refine Eq_add dX12_worthOf_16 ?_ | refine Eam_x_pu dX12_worthOf_16 rfl ?_
    refine Et_ic_ge 79 dX12_worthOf_17 rfl (by exact nI_le (by omega) (by omega)) ?_
    refine Eq_ic (v := nI 0) dX12_worthOf_79 rfl ?_
    refine Eq_ir dX12_worthOf_80 rfl ?_
    exact ⟨rfl, hf⟩
  | succ q ih =>
    intro k h hk hW hL hws hf
    have hn := hL.1
    have hM9 := hL.2.2.1
    have he := hL.2.2.2.2.2 k (by omega)
    have hft := flt_take M k (by omega)
    obtain ⟨x, hx⟩ := flt_pre M (k + 1)
    have hlen : (flt (M.take (k + 1))).length ≤ 160 := by
      have := hL.2.1
      rw [hx, List.length_append] at this
      omega
    have hlf : (flt (M.take (k + 1))).length = (flt (M.take k)).length + (M.getD k ([], [])).1.length + (M.getD k ([], [])).2.length := by
      rw [hft]
      simp only [List.length_append]
      omega
    have hclt := hM _ (getD_mem (M := M) (k := k) (by omega))
    rw [drop_cons (by omega)]
    generalize hcd : M.getD k ([], []) = c at hclt he hft hlf ⊢
    have hxx : flt M = flt (M.take k) ++ (c.1 ++ (c.2 ++ x)) := by rw [hx, hft]; simp
    have hxy : flt M = (flt (M.take k) ++ c.1) ++ (c.2 ++ x) := by rw [hxx]; simp
    have g1 : ∀ j, j < c.1.length → am_i h 52 (340 * n + ((flt (M.take k)).length + j)) = nI (c.1.getD j (0, 0)).1 ∧ am_i h 53 (340 * n + ((flt (M.take k)).length + j)) = nI (c.1.getD j (0, 0)).2 := fun j hj => by
      have := hL.2.2.2.1 ((flt (M.take k)).length + j) (by rw [hxx]; simp only [List.length_append]; omega)
      rw [show (flt M).getD ((flt (M.take k)).length + j) (0, 0) = c.1.getD j (0, 0) by rw [hxx]; exact getD_mid hj] at this
      exact this
    have g2 : ∀ j, j < c.2.length → am_i h 52 (340 * n + ((flt (M.take k)).length + c.1.length + j)) = nI (c.2.getD j (0, 0)).1 ∧ am_i h 53 (340 * n + ((flt (M.take k)).length + c.1.length + j)) = nI (c.2.getD j (0, 0)).2 := fun j hj => by
      have := hL.2.2.2.1 ((flt (M.take k)).length + c.1.length + j) (by rw [hxx]; simp only [List.length_append]; omega)
      rw [show (flt M).getD ((flt (M.take k)).length + c.1.length + j) (0, 0) = c.2.getD j (0, 0) by rw [hxy, ← List.length_append]; exact getD_mid hj] at this
      exact this
    rw [hlf] at he
    obtain ⟨v2, hv2⟩ := run_1 (ws := ws) hclt.2
    by_cases hc1 : c.1 = []
    · have hw : wth ws (c :: M.drop (k + 1)) = v2 := by
        simp only [wth]
        rw [if_pos hc1, hv2]
        rfl
      rw [hw]
      refine Eq_iln dX12_worthOf_5 rfl ?_
      refine Eq_bp (v := nI 90) dX12_worthOf_6 rfl ?_
      refine Eq_iln dX12_worthOf_8 rfl ?_
      first | refine Eq_mul dX12_worthOf_9 ?_ | refine Eam_x_pu dX12_worthOf_9 rfl ?_
      refine Eq_aln dX12_worthOf_10 rfl ?_
      refine Eq_getR dX12_worthOf_11 fl_X12_22 (ws_50 hW) rfl (wp_50_9 hW) ?_
      refine Eq_iln dX12_worthOf_14 rfl ?_
      refine Eq_ald dX12_worthOf_15 (ws_55 hW) (by omega) (by omega) (by first | exact hL.2.2.2.2.1 | exact he.1 | exact he.2.1 | exact he.2.2 | exact e2.1 | exact e2.2.1 | exact e2.2.2) ?_
      first | refine Eq_add dX12_worthOf_16 ?_ | refine Eam_x_pu dX12_worthOf_16 rfl ?_
      refine Ef_ic_ge dX12_worthOf_17 (tgt := 79) rfl (by exact nI_ge (by omega) (by omega)) ?_
      refine Eq_aln dX12_worthOf_20 rfl ?_
      refine Eq_getR dX12_worthOf_21 fl_X12_25 (ws_50 hW) rfl (wp_50_10 hW) ?_
      refine Eq_iln dX12_worthOf_24 rfl ?_
      refine Eq_ald dX12_worthOf_25 (ws_56 hW) (by omega) (by omega) (by first | exact hL.2.2.2.2.1 | exact he.1 | exact he.2.1 | exact he.2.2 | exact e2.1 | exact e2.2.1 | exact e2.2.2) ?_
      refine Eq_aln dX12_worthOf_26 rfl ?_
      refine Eq_getR dX12_worthOf_27 fl_X12_28 (ws_50 hW) rfl (wp_50_11 hW) ?_
      refine Eq_iln dX12_worthOf_30 rfl ?_
      refine Eq_ald dX12_worthOf_31 (ws_57 hW) (by omega) (by omega) (by first | exact hL.2.2.2.2.1 | exact he.1 | exact he.2.1 | exact he.2.2 | exact e2.1 | exact e2.2.1 | exact e2.2.2) ?_
      refine Et_ic_eq 55 dX12_worthOf_32 rfl (by rw [hc1]; rfl) ?_
      refine Eq_aln dX12_worthOf_55 rfl ?_
      refine Eq_iln dX12_worthOf_56 rfl ?_
      refine Eq_aln dX12_worthOf_57 rfl ?_
      refine Eq_getR dX12_worthOf_58 fl_X12_28 (ws_50 hW) rfl (wp_50_11 hW) ?_
      refine Eq_iln dX12_worthOf_61 rfl ?_
      refine Eq_ald dX12_worthOf_62 (ws_57 hW) (by omega) (by omega) (by first | exact hL.2.2.2.2.1 | exact he.1 | exact he.2.1 | exact he.2.2 | exact e2.1 | exact e2.2.1 | exact e2.2.2) ?_
      refine Eq_aln dX12_worthOf_63 rfl ?_
      refine Eq_getR dX12_worthOf_64 fl_X12_31 (ws_50 hW) rfl (wp_50_12 hW) ?_
      refine Eq_iln dX12_worthOf_67 rfl ?_
      refine Eq_ald dX12_worthOf_68 (ws_58 hW) (by omega) (by omega) (by first | exact hL.2.2.2.2.1 | exact he.1 | exact he.2.1 | exact he.2.2 | exact e2.1 | exact e2.2.1 | exact e2.2.2) ?_
      refine Eq_W3 (N := m_X12_workOut) dX12_worthOf_69 lk_X12_211 mV_X12_workOut (r_workOut hW hn (by omega) rfl hclt.2 g2 (by rw [hws]; exact hv2)) (by decide) (ws_50 hW) rfl (by decide) (Nat.le_of_ble_eq_true rfl) (Nat.le_of_ble_eq_true rfl) (fun vq hq1 hq2 => ?_)
      obtain ⟨rfl, hf2⟩ := hq2
      refine Eq_ir dX12_worthOf_72 rfl ?_
      exact ⟨rfl, hf.tr hf2⟩
    · have hty1 : tyc 80 c.1 [] = some [true] := hclt.1.resolve_left hc1
      obtain ⟨v1, hv1⟩ := run_1 (ws := ws) hty1
      have hpos : 0 < c.1.length := List.length_pos_iff.mpr hc1
      have hne : ¬ nI (flt (M.take k)).length = nI ((flt (M.take k)).length + c.1.length) := fun z => by
        have := (nI_eq (by omega) (by omega)).mp z
        omega
      by_cases hv0 : v1 = 0
      · have hw : wth ws (c :: M.drop (k + 1)) = wth ws (M.drop (k + 1)) := by
          simp only [wth]
          rw [if_neg hc1, hv1]
          exact if_pos hv0
        rw [hw]
        refine Eq_iln dX12_worthOf_5 rfl ?_
        refine Eq_bp (v := nI 90) dX12_worthOf_6 rfl ?_
        refine Eq_iln dX12_worthOf_8 rfl ?_
        first | refine Eq_mul dX12_worthOf_9 ?_ | refine Eam_x_pu dX12_worthOf_9 rfl ?_
        refine Eq_aln dX12_worthOf_10 rfl ?_
        refine Eq_getR dX12_worthOf_11 fl_X12_22 (ws_50 hW) rfl (wp_50_9 hW) ?_
        refine Eq_iln dX12_worthOf_14 rfl ?_
        refine Eq_ald dX12_worthOf_15 (ws_55 hW) (by omega) (by omega) (by first | exact hL.2.2.2.2.1 | exact he.1 | exact he.2.1 | exact he.2.2 | exact e2.1 | exact e2.2.1 | exact e2.2.2) ?_
        first | refine Eq_add dX12_worthOf_16 ?_ | refine Eam_x_pu dX12_worthOf_16 rfl ?_
        refine Ef_ic_ge dX12_worthOf_17 (tgt := 79) rfl (by exact nI_ge (by omega) (by omega)) ?_
        refine Eq_aln dX12_worthOf_20 rfl ?_
        refine Eq_getR dX12_worthOf_21 fl_X12_25 (ws_50 hW) rfl (wp_50_10 hW) ?_
        refine Eq_iln dX12_worthOf_24 rfl ?_
        refine Eq_ald dX12_worthOf_25 (ws_56 hW) (by omega) (by omega) (by first | exact hL.2.2.2.2.1 | exact he.1 | exact he.2.1 | exact he.2.2 | exact e2.1 | exact e2.2.1 | exact e2.2.2) ?_
        refine Eq_aln dX12_worthOf_26 rfl ?_
        refine Eq_getR dX12_worthOf_27 fl_X12_28 (ws_50 hW) rfl (wp_50_11 hW) ?_
        refine Eq_iln dX12_worthOf_30 rfl ?_
        refine Eq_ald dX12_worthOf_31 (ws_57 hW) (by omega) (by omega) (by first | exact hL.2.2.2.2.1 | exact he.1 | exact he.2.1 | exact he.2.2 | exact e2.1 | exact e2.2.1 | exact e2.2.2) ?_
        refine Ef_ic_eq dX12_worthOf_32 (tgt := 55) rfl (by exact hne) ?_
        refine Eq_aln dX12_worthOf_35 rfl ?_
        refine Eq_iln dX12_worthOf_36 rfl ?_
        refine Eq_aln dX12_worthOf_37 rfl ?_
        refine Eq_getR dX12_worthOf_38 fl_X12_25 (ws_50 hW) rfl (wp_50_10 hW) ?_
        refine Eq_iln dX12_worthOf_41 rfl ?_
        refine Eq_ald dX12_worthOf_42 (ws_56 hW) (by omega) (by omega) (by first | exact hL.2.2.2.2.1 | exact he.1 | exact he.2.1 | exact he.2.2 | exact e2.1 | exact e2.2.1 | exact e2.2.2) ?_
        refine Eq_aln dX12_worthOf_43 rfl ?_
        refine Eq_getR dX12_worthOf_44 fl_X12_28 (ws_50 hW) rfl (wp_50_11 hW) ?_
        refine Eq_iln dX12_worthOf_47 rfl ?_
        refine Eq_ald dX12_worthOf_48 (ws_57 hW) (by omega) (by omega) (by first | exact hL.2.2.2.2.1 | exact he.1 | exact he.2.1 | exact he.2.2 | exact e2.1 | exact e2.2.1 | exact e2.2.2) ?_
        refine Eq_W3 (N := m_X12_workOut) dX12_worthOf_49 lk_X12_211 mV_X12_workOut (r_workOut hW hn (by omega) rfl hty1 g1 (by rw [hws]; exact hv1)) (by decide) (ws_50 hW) rfl (by decide) (Nat.le_of_ble_eq_true rfl) (Nat.le_of_ble_eq_true rfl) (fun vq hq1 hq2 => ?_)
        obtain ⟨rfl, hf2⟩ := hq2
        refine Et_if_eq 73 dX12_worthOf_52 rfl (by exact hv0) ?_
        refine Eq_inc dX12_worthOf_73 rfl (by decide) ?_
        refine Eam_nl (pc' := 76) (l' := [_, _, _]) rfl rfl ?_
        refine Eam_x_goto (tgt := 5) dX12_worthOf_76 rfl ?_
        exact ih (k + 1) hq1 (by omega) (hf2.Wd hW) (hL.fx hf2 (by decide)) ((hf2.ia (by decide) (by decide)).trans hws) (hf.tr hf2)
      · have hw : wth ws (c :: M.drop (k + 1)) = v2 := by
          simp only [wth]
          rw [if_neg hc1, hv1, hv2]
          exact if_neg hv0
        rw [hw]
        refine Eq_iln dX12_worthOf_5 rfl ?_
        refine Eq_bp (v := nI 90) dX12_worthOf_6 rfl ?_
        refine Eq_iln dX12_worthOf_8 rfl ?_
        first | refine Eq_mul dX12_worthOf_9 ?_ | refine Eam_x_pu dX12_worthOf_9 rfl ?_
        refine Eq_aln dX12_worthOf_10 rfl ?_
        refine Eq_getR dX12_worthOf_11 fl_X12_22 (ws_50 hW) rfl (wp_50_9 hW) ?_
        refine Eq_iln dX12_worthOf_14 rfl ?_
        refine Eq_ald dX12_worthOf_15 (ws_55 hW) (by omega) (by omega) (by first | exact hL.2.2.2.2.1 | exact he.1 | exact he.2.1 | exact he.2.2 | exact e2.1 | exact e2.2.1 | exact e2.2.2) ?_
        first | refine Eq_add dX12_worthOf_16 ?_ | refine Eam_x_pu dX12_worthOf_16 rfl ?_
        refine Ef_ic_ge dX12_worthOf_17 (tgt := 79) rfl (by exact nI_ge (by omega) (by omega)) ?_
        refine Eq_aln dX12_worthOf_20 rfl ?_
        refine Eq_getR dX12_worthOf_21 fl_X12_25 (ws_50 hW) rfl (wp_50_10 hW) ?_
        refine Eq_iln dX12_worthOf_24 rfl ?_
        refine Eq_ald dX12_worthOf_25 (ws_56 hW) (by omega) (by omega) (by first | exact hL.2.2.2.2.1 | exact he.1 | exact he.2.1 | exact he.2.2 | exact e2.1 | exact e2.2.1 | exact e2.2.2) ?_
        refine Eq_aln dX12_worthOf_26 rfl ?_
        refine Eq_getR dX12_worthOf_27 fl_X12_28 (ws_50 hW) rfl (wp_50_11 hW) ?_
        refine Eq_iln dX12_worthOf_30 rfl ?_
        refine Eq_ald dX12_worthOf_31 (ws_57 hW) (by omega) (by omega) (by first | exact hL.2.2.2.2.1 | exact he.1 | exact he.2.1 | exact he.2.2 | exact e2.1 | exact e2.2.1 | exact e2.2.2) ?_
        refine Ef_ic_eq dX12_worthOf_32 (tgt := 55) rfl (by exact hne) ?_
        refine Eq_aln dX12_worthOf_35 rfl ?_
        refine Eq_iln dX12_worthOf_36 rfl ?_
        refine Eq_aln dX12_worthOf_37 rfl ?_
        refine Eq_getR dX12_worthOf_38 fl_X12_25 (ws_50 hW) rfl (wp_50_10 hW) ?_
        refine Eq_iln dX12_worthOf_41 rfl ?_
        refine Eq_ald dX12_worthOf_42 (ws_56 hW) (by omega) (by omega) (by first | exact hL.2.2.2.2.1 | exact he.1 | exact he.2.1 | exact he.2.2 | exact e2.1 | exact e2.2.1 | exact e2.2.2) ?_
        refine Eq_aln dX12_worthOf_43 rfl ?_
        refine Eq_getR dX12_worthOf_44 fl_X12_28 (ws_50 hW) rfl (wp_50_11 hW) ?_
        refine Eq_iln dX12_worthOf_47 rfl ?_
        refine Eq_ald dX12_worthOf_48 (ws_57 hW) (by omega) (by omega) (by first | exact hL.2.2.2.2.1 | exact he.1 | exact he.2.1 | exact he.2.2 | exact e2.1 | exact e2.2.1 | exact e2.2.2) ?_
        refine Eq_W3 (N := m_X12_workOut) dX12_worthOf_49 lk_X12_211 mV_X12_workOut (r_workOut hW hn (by omega) rfl hty1 g1 (by rw [hws]; exact hv1)) (by decide) (ws_50 hW) rfl (by decide) (Nat.le_of_ble_eq_true rfl) (Nat.le_of_ble_eq_true rfl) (fun vq hq1 hq2 => ?_)
        obtain ⟨rfl, hf2⟩ := hq2
        have hW2 := hf2.Wd hW
        have e2 : am_i hq1 56 (90 * n + k) = _ ∧ am_i hq1 57 (90 * n + k) = _ ∧ am_i hq1 58 (90 * n + k) = _ := ⟨(hf2.i (by decide) (by simp)).trans he.1, (hf2.i (by decide) (by simp)).trans he.2.1, (hf2.i (by decide) (by simp)).trans he.2.2⟩
        refine Ef_if_eq dX12_worthOf_52 (tgt := 73) rfl (by exact hv0) ?_
        refine Eq_aln dX12_worthOf_55 rfl ?_
        refine Eq_iln dX12_worthOf_56 rfl ?_
        refine Eq_aln dX12_worthOf_57 rfl ?_
        refine Eq_getR dX12_worthOf_58 fl_X12_28 (ws_50 hW2) rfl (wp_50_11 hW2) ?_
        refine Eq_iln dX12_worthOf_61 rfl ?_
        refine Eq_ald dX12_worthOf_62 (ws_57 hW2) (by omega) (by omega) (by first | exact hL.2.2.2.2.1 | exact he.1 | exact he.2.1 | exact he.2.2 | exact e2.1 | exact e2.2.1 | exact e2.2.2) ?_
        refine Eq_aln dX12_worthOf_63 rfl ?_
        refine Eq_getR dX12_worthOf_64 fl_X12_31 (ws_50 hW2) rfl (wp_50_12 hW2) ?_
        refine Eq_iln dX12_worthOf_67 rfl ?_
        refine Eq_ald dX12_worthOf_68 (ws_58 hW2) (by omega) (by omega) (by first | exact hL.2.2.2.2.1 | exact he.1 | exact he.2.1 | exact he.2.2 | exact e2.1 | exact e2.2.1 | exact e2.2.2) ?_
        refine Eq_W3 (N := m_X12_workOut) dX12_worthOf_69 lk_X12_211 mV_X12_workOut (r_workOut hW2 hn (by omega) rfl hclt.2 (by rw [hf2.ia (r := 52) (by decide) (by decide), hf2.ia (r := 53) (by decide) (by decide)]; exact g2) (by rw [hf2.ia (r := 59) (by decide) (by decide), hws]; exact hv2)) (by decide) (ws_50 hW2) rfl (by decide) (Nat.le_of_ble_eq_true rfl) (Nat.le_of_ble_eq_true rfl) (fun vq hq1 hq2 => ?_)
        obtain ⟨rfl, hf3⟩ := hq2
        refine Eq_ir dX12_worthOf_72 rfl ?_
        exact ⟨rfl, (hf.tr hf2).tr hf3⟩
set_option maxHeartbeats 2000000 in
theorem r_worthOf {h : am_H} (hW : Wd h) {n : Nat} {M : List (Tks × Tks)} (hL : LW h n M) (hM : ∀ c ∈ M, ClT c) : am_D 4 m_X12_worthOf [.ref 50, .int (nI n)] h (fun w h2 => w = some (.int (wth (am_i h 59) M)) ∧ Fx [60] [] h h2) := by
  have hn := hL.1
  refine Eq_bp (v := nI 90) dX12_worthOf_0 rfl ?_
  refine Eq_iln dX12_worthOf_2 rfl ?_
  first | refine Eq_mul dX12_worthOf_3 ?_ | refine Eam_x_pu dX12_worthOf_3 rfl ?_
  refine Eq_isn dX12_worthOf_4 (by decide) ?_
  refine Eam_nl (pc' := 5) (l' := [_, _, _]) rfl rfl ?_
  exact r_worthOf_lp hM (h0 := h) (ws := am_i h 59) M.length 0 h (by omega) hW hL rfl Fx.rf
