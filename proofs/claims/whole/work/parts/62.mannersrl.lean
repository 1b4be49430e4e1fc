/-! the reference reads clauses of manners -/
def flt : List (Tks × Tks) → Tks
  | [] => []
  | c :: r => c.1 ++ c.2 ++ flt r
theorem flt_app : ∀ (M : List (Tks × Tks)) (c : Tks × Tks), flt (M ++ [c]) = flt M ++ (c.1 ++ c.2)
  | [], c => by simp [flt]
  | d :: r, c => by simp [flt, flt_app r c]
/-- the frame of reading clauses into text n -/
def NG (n : Nat) (h h2 : am_H) : Prop := Fx [52, 53, 54, 55, 56, 57, 58] [(50, 3), (50, 4), (50, 5), (50, 14)] h h2 ∧ (∀ i, (i < 340 * n ∨ 340 * n + 340 ≤ i) → am_i h2 52 i = am_i h 52 i ∧ am_i h2 53 i = am_i h 53 i) ∧ (∀ k, k ≠ n → am_i h2 54 k = am_i h 54 k ∧ am_i h2 55 k = am_i h 55 k) ∧ ∀ i, (i < 90 * n ∨ 90 * n + 90 ≤ i) → am_i h2 56 i = am_i h 56 i ∧ am_i h2 57 i = am_i h 57 i ∧ am_i h2 58 i = am_i h 58 i
theorem NG.rf {n : Nat} {h : am_H} : NG n h h := ⟨Fx.rf, fun _ _ => ⟨rfl, rfl⟩, fun _ _ => ⟨rfl, rfl⟩, fun _ _ => ⟨rfl, rfl, rfl⟩⟩
theorem NG.tr {n : Nat} {h h1 h2 : am_H} (a : NG n h h1) (b : NG n h1 h2) : NG n h h2 := ⟨a.1.tr b.1, fun i hi => ⟨(b.2.1 i hi).1.trans (a.2.1 i hi).1, (b.2.1 i hi).2.trans (a.2.1 i hi).2⟩, fun k hk => ⟨(b.2.2.1 k hk).1.trans (a.2.2.1 k hk).1, (b.2.2.1 k hk).2.trans (a.2.2.1 k hk).2⟩, fun i hi => ⟨(b.2.2.2 i hi).1.trans (a.2.2.2 i hi).1, (b.2.2.2 i hi).2.1.trans (a.2.2.2 i hi).2.1, (b.2.2.2 i hi).2.2.trans (a.2.2.2 i hi).2.2⟩⟩
theorem NF.g {n : Nat} {h h2 : am_H} (a : NF n h h2) : NG n h h2 := ⟨a.1.mono (by decide) (by decide), a.2.1, fun k hk => ⟨a.2.2 k hk, a.1.i (by decide) (by simp)⟩, fun i _ => ⟨a.1.i (by decide) (by simp), a.1.i (by decide) (by simp), a.1.i (by decide) (by simp)⟩⟩
theorem NG.w56 {n k : Nat} {h : am_H} {v : Int32} (hk : k < 90) : NG n h (am_wI h 56 (90 * n + k) v) := ⟨Fx.wI (Or.inl (by decide)), fun i _ => ⟨by rw [wI_ne (by decide)], by rw [wI_ne (by decide)]⟩, fun k _ => ⟨by rw [wI_ne (by decide)], by rw [wI_ne (by decide)]⟩, fun i hi => ⟨by rw [wI_eq, if_neg (by omega)], by rw [wI_ne (by decide)], by rw [wI_ne (by decide)]⟩⟩
theorem NG.w57 {n k : Nat} {h : am_H} {v : Int32} (hk : k < 90) : NG n h (am_wI h 57 (90 * n + k) v) := ⟨Fx.wI (Or.inl (by decide)), fun i _ => ⟨by rw [wI_ne (by decide)], by rw [wI_ne (by decide)]⟩, fun k _ => ⟨by rw [wI_ne (by decide)], by rw [wI_ne (by decide)]⟩, fun i hi => ⟨by rw [wI_ne (by decide)], by rw [wI_eq, if_neg (by omega)], by rw [wI_ne (by decide)]⟩⟩
theorem NG.w58 {n k : Nat} {h : am_H} {v : Int32} (hk : k < 90) : NG n h (am_wI h 58 (90 * n + k) v) := ⟨Fx.wI (Or.inl (by decide)), fun i _ => ⟨by rw [wI_ne (by decide)], by rw [wI_ne (by decide)]⟩, fun k _ => ⟨by rw [wI_ne (by decide)], by rw [wI_ne (by decide)]⟩, fun i hi => ⟨by rw [wI_ne (by decide)], by rw [wI_ne (by decide)], by rw [wI_eq, if_neg (by omega)]⟩⟩
theorem NG.w55 {n : Nat} {h : am_H} {v : Int32} : NG n h (am_wI h 55 n v) := ⟨Fx.wI (Or.inl (by decide)), fun i _ => ⟨by rw [wI_ne (by decide)], by rw [wI_ne (by decide)]⟩, fun k hk => ⟨by rw [wI_ne (by decide)], by rw [wI_eq, if_neg hk]⟩, fun i hi => ⟨by rw [wI_ne (by decide)], by rw [wI_ne (by decide)], by rw [wI_ne (by decide)]⟩⟩
/-- entries of the clauses of text n -/
def KE (h : am_H) (n : Nat) (M : List (Tks × Tks)) : Prop := ∀ k, k < M.length → am_i h 56 (90 * n + k) = nI (flt (M.take k)).length ∧ am_i h 57 (90 * n + k) = nI ((flt (M.take k)).length + (M.getD k ([], [])).1.length) ∧ am_i h 58 (90 * n + k) = nI (flt (M.take (k + 1))).length
def KL (h : am_H) (n : Nat) (M : List (Tks × Tks)) : Prop := am_i h 55 n = nI M.length ∧ KE h n M
theorem KE.fx {A : List Nat} {B : List (Nat × Nat)} {h h' : am_H} {n : Nat} {M : List (Tks × Tks)} (m : KE h n M) (a : Fx A B h h') (ok : 56 ∉ A ∧ 57 ∉ A ∧ 58 ∉ A ∧ 56 ∉ B.map Prod.fst ∧ 57 ∉ B.map Prod.fst ∧ 58 ∉ B.map Prod.fst) : KE h' n M := by
  unfold KE at m ⊢
  rw [a.ia ok.1 ok.2.2.2.1, a.ia ok.2.1 ok.2.2.2.2.1, a.ia ok.2.2.1 ok.2.2.2.2.2]
  exact m
theorem KE.w {h : am_H} {n : Nat} {M : List (Tks × Tks)} (m : KE h n M) {r : Nat} {v : Int32} : KE (am_wI h r (90 * n + M.length) v) n M := fun k hk => by
  have := m k hk
  by_cases h1 : r = 56
  · subst h1
    rw [wI_eq, if_neg (by omega), wI_ne (by decide), wI_ne (by decide)]
    exact this
  · by_cases h2 : r = 57
    · subst h2
      rw [wI_ne (r := 57) (r' := 56) (by decide), wI_eq, if_neg (by omega), wI_ne (by decide)]
      exact this
    · by_cases h3 : r = 58
      · subst h3
        rw [wI_ne (r := 58) (r' := 56) (by decide), wI_ne (r := 58) (r' := 57) (by decide), wI_eq, if_neg (by omega)]
        exact this
      · rw [wI_ne (fun z => h1 z.symm), wI_ne (fun z => h2 z.symm), wI_ne (fun z => h3 z.symm)]
        exact this
theorem KL.done {h : am_H} {n : Nat} {M : List (Tks × Tks)} {c : Tks × Tks} (m : KE h n M) (h0 : am_i h 55 n = nI (M.length + 1)) (h1 : am_i h 56 (90 * n + M.length) = nI (flt M).length) (h2 : am_i h 57 (90 * n + M.length) = nI ((flt M).length + c.1.length)) (h3 : am_i h 58 (90 * n + M.length) = nI (flt (M ++ [c])).length) : KL h n (M ++ [c]) := by
  refine ⟨by rw [h0]; simp, fun k hk => ?_⟩
  simp only [List.length_append, List.length_cons, List.length_nil] at hk
  by_cases e : k = M.length
  · subst e
    rw [h1, h2, h3]
    refine ⟨by simp, by simp [List.getD_eq_getElem?_getD], by rw [List.take_of_length_le (by simp)]⟩
  · have := m k (by omega)
    rw [List.take_append_of_le_length (by omega), List.take_append_of_le_length (by omega)]
    refine ⟨this.1, ?_, this.2.2⟩
    rw [this.2.1]
    simp only [List.getD_eq_getElem?_getD]
    rw [List.getElem?_append_left (by omega)]
def MLQ (tl : Nat) (tp : Nat → Nat) (n : Nat) (M : List (Tks × Tks)) (r : Nat × Option (Tks × Tks)) (h : am_H) (w : Option Value) (h2 : am_H) : Prop := w = none ∧ NG n h h2 ∧ match r.2 with
  | none => am_i h2 50 4 = nI r.1 ∧ ∃ b, RA h2 tl tp b
  | some c => am_i h2 50 4 = -1 ∧ RA h2 tl tp r.1 ∧ CW h2 n (flt (M ++ [c])) ∧ KL h2 n (M ++ [c]) ∧ am_i h2 50 5 = nI 0
theorem MLQ.n {tl : Nat} {tp : Nat → Nat} {n : Nat} {M : List (Tks × Tks)} {r : Nat × Option (Tks × Tks)} {h h2 : am_H} {w : Option Value} (m : MLQ tl tp n M r h w h2) (hr : r.2 = none) : w = none ∧ NG n h h2 ∧ am_i h2 50 4 = nI r.1 ∧ ∃ b, RA h2 tl tp b := by
  unfold MLQ at m
  simp only [hr] at m
  exact m
theorem MLQ.s {tl : Nat} {tp : Nat → Nat} {n : Nat} {M : List (Tks × Tks)} {r : Nat × Option (Tks × Tks)} {h h2 : am_H} {w : Option Value} {c : Tks × Tks} (m : MLQ tl tp n M r h w h2) (hr : r.2 = some c) : w = none ∧ NG n h h2 ∧ am_i h2 50 4 = -1 ∧ RA h2 tl tp r.1 ∧ CW h2 n (flt (M ++ [c])) ∧ KL h2 n (M ++ [c]) ∧ am_i h2 50 5 = nI 0 := by
  unfold MLQ at m
  simp only [hr] at m
  exact m
theorem MLQ.tr {tl : Nat} {tp : Nat → Nat} {n : Nat} {M : List (Tks × Tks)} {r : Nat × Option (Tks × Tks)} {h h1 h2 : am_H} {w : Option Value} (m : MLQ tl tp n M r h1 w h2) (f : NG n h h1) : MLQ tl tp n M r h w h2 := ⟨m.1, f.tr m.2.1, m.2.2⟩
theorem r_sum6 {tl : Nat} {tp : Nat → Nat} {n : Nat} : RSC tl tp n m_X12_sum 23 0 6 (smP tl tp 6) := r_sumL 6 (by omega)
theorem r_unit6 {tl : Nat} {tp : Nat → Nat} {n : Nat} : RSC tl tp n m_X12_unit 31 0 6 (unP tl tp 6) := r_unitL 6 (by omega)
theorem r_cond6 {tl : Nat} {tp : Nat → Nat} {n : Nat} : RSC tl tp n m_X12_condition 34 0 6 (cndW tl tp (unP tl tp 6)) := r_condition r_unit6 (unP_pr 6) (by omega)
theorem mcl_2 {tl : Nat} {tp : Nat → Nat} {a : Nat} (ha : a ≤ tl) : ∀ c, (mcl tl tp a).2 = some c → a + 2 ≤ (mcl tl tp a).1 := by
  intro c hc
  have x1 := nx_ge (tl := tl) (tp := tp) (a := a)
  have y1 := nx_ge (tl := tl) (tp := tp) (a := nx tl tp a + 1)
  have z1 := nx_ge (tl := tl) (tp := tp) (a := nx tl tp (nx tl tp a + 1) + 1)
  unfold mcl at hc ⊢
  split at hc
  next e1 =>
    have l1 := (sgn_lt e1).1
    rw [if_pos e1]
    split at hc
    next e2 =>
      have l2 := (sgn_lt e2).1
      have z2 := nx_le (tp := tp) (show nx tl tp (nx tl tp a + 1) + 1 ≤ tl by omega)
      rw [if_pos e2]
      split at hc
      next e3 =>
        rw [if_pos e3]
        have h3 := cndW_pr (tp := tp) (unP_pr (tp := tp) (tl := tl) 6) (nx tl tp (nx tl tp (nx tl tp a + 1) + 1)) z2
        cases hq : (cndW tl tp (unP tl tp 6) (nx tl tp (nx tl tp (nx tl tp a + 1) + 1))).2 with
        | none => rw [bdc_n hq] at hc; cases hc
        | some ts =>
          rw [bdc_s hq]
          have := (csq_pr (tp := tp) (ts := ts) h3.2.1).1
          omega
      next e3 =>
        rw [if_neg e3]
        have h3 := smP_pr (tp := tp) (tl := tl) 6 (nx tl tp (nx tl tp (nx tl tp a + 1) + 1)) z2
        cases hq : (smP tl tp 6 (nx tl tp (nx tl tp (nx tl tp a + 1) + 1))).2 with
        | none => rw [bdc_n hq] at hc; cases hc
        | some ts =>
          rw [bdc_s hq]
          have h4 := h3.2.2 ts hq
          have w1 := nx_ge (tl := tl) (tp := tp) (a := (smP tl tp 6 (nx tl tp (nx tl tp (nx tl tp a + 1) + 1))).1)
          split
          next => dsimp only; omega
          next =>
            have h5 := bgn_pr (tp := tp) (a := nx tl tp (nx tl tp (nx tl tp a + 1) + 1)) h3.2.1 h4.1
            cases hr : (bgn tl tp (smP tl tp 6 (nx tl tp (nx tl tp (nx tl tp a + 1) + 1))).1 ts).2 with
            | none => rw [bdc_n hr]; dsimp only; omega
            | some vs =>
              rw [bdc_s hr]
              have := (csq_pr (tp := tp) (ts := vs) h5.2.1).1
              omega
    next => cases hc
  next => cases hc
set_option maxHeartbeats 2000000 in
theorem r_cl_bad {tl : Nat} {tp : Nat → Nat} {n : Nat} {M : List (Tks × Tks)} {h : am_H} (hW : Wd h) (hn : n ≤ 4) (hM : M.length < 90) (htl : tl ≤ 160) (ht : am_i h 50 14 = nI n) {b p c : Nat} {x : Int32} (hA : RA h tl tp b) (hp : p ≤ tl) (hw : am_i h 50 4 = nI p) (hc : am_i h 54 n = nI c) : am_E 35 m_X12_clause 183 [some (.ref 50), some (.int (nI (90 * n + M.length))), some (.int x)] [] h (MLQ tl tp n M (p, none) h) := by
  have hb : am_i h 55 n = am_i h 55 n := rfl
  by_cases hx : x = 0
  · refine Eq_aln dX12_clause_183 rfl ?_
    refine Eq_getR dX12_clause_184 fl_X12_28 (ws_50 hW) rfl (wp_50_11 hW) ?_
    refine Eq_iln dX12_clause_187 rfl ?_
    refine Eq_aln dX12_clause_188 rfl ?_
    refine Eq_getR dX12_clause_189 fl_X12_25 (ws_50 hW) rfl (wp_50_10 hW) ?_
    refine Eq_iln dX12_clause_192 rfl ?_
    refine Eq_ald dX12_clause_193 (ws_56 hW) (by omega) (by omega) (by first | rfl | exact hc) ?_
    refine Eq_ast dX12_clause_194 (ws_57 hW) (by omega) (by omega) ?_
    refine Eq_iln dX12_clause_195 rfl ?_
    refine Et_if_eq 250 dX12_clause_196 rfl (by exact hx) ?_
    refine Eq_aln dX12_clause_250 rfl ?_
    refine Eq_getR dX12_clause_251 fl_X12_31 (ws_50 hW) rfl (wp_50_12 hW) ?_
    refine Eq_iln dX12_clause_254 rfl ?_
    refine Eq_aln dX12_clause_255 rfl ?_
    refine Eq_getR dX12_clause_256 fl_X12_19 (ws_50 hW) rfl (wp_50_8 hW) ?_
    refine Eq_aln dX12_clause_259 rfl ?_
    refine Eq_getI dX12_clause_260 fl_X12_120 (ws_50 hW) rfl ht ?_
    refine Eq_ald dX12_clause_263 (ws_54 hW) (by omega) (by omega) (by first | rfl | exact hc) ?_
    refine Eq_ast dX12_clause_264 (ws_58 hW) (by omega) (by omega) ?_
    refine Eq_aln dX12_clause_265 rfl ?_
    refine Eq_getR dX12_clause_266 fl_X12_22 (ws_50 hW) rfl (wp_50_9 hW) ?_
    refine Eq_aln dX12_clause_269 rfl ?_
    refine Eq_getI dX12_clause_270 fl_X12_120 (ws_50 hW) rfl ht ?_
    refine Eam_x_pu dX12_clause_273 rfl ?_
    refine Eq_ald dX12_clause_274 (ws_55 hW) (by omega) (by omega) (by first | rfl | exact hc) ?_
    refine Eq_ic (v := nI 1) dX12_clause_275 rfl ?_
    refine Eam_x_pu dX12_clause_276 rfl ?_
    refine Eq_ast dX12_clause_277 (ws_55 hW) (by omega) (by omega) ?_
    refine Eq_vr dX12_clause_278 rfl ?_
    exact ⟨rfl, (NG.w57 hM).tr ((NG.w58 hM).tr NG.w55), hw, b, hA.fx (A := [55, 57, 58]) (B := []) ((Fx.wI (Or.inl (by decide))).tr ((Fx.wI (Or.inl (by decide))).tr (Fx.wI (Or.inl (by decide))))) (by decide)⟩
  · refine Eq_aln dX12_clause_183 rfl ?_
    refine Eq_getR dX12_clause_184 fl_X12_28 (ws_50 hW) rfl (wp_50_11 hW) ?_
    refine Eq_iln dX12_clause_187 rfl ?_
    refine Eq_aln dX12_clause_188 rfl ?_
    refine Eq_getR dX12_clause_189 fl_X12_25 (ws_50 hW) rfl (wp_50_10 hW) ?_
    refine Eq_iln dX12_clause_192 rfl ?_
    refine Eq_ald dX12_clause_193 (ws_56 hW) (by omega) (by omega) (by first | rfl | exact hc) ?_
    refine Eq_ast dX12_clause_194 (ws_57 hW) (by omega) (by omega) ?_
    refine Eq_iln dX12_clause_195 rfl ?_
    refine Ef_if_eq dX12_clause_196 (tgt := 250) rfl (by exact hx) ?_
    refine Eq_aln dX12_clause_199 rfl ?_
    refine Eq_getI dX12_clause_200 fl_X12_117 (ws_50 hW) rfl (by first | exact ht | exact hw) ?_
    refine Eq_ic (v := -1) dX12_clause_203 rfl ?_
    refine Et_ic_ne 250 dX12_clause_204 rfl (by exact nI_m1 (by omega)) ?_
    refine Eq_aln dX12_clause_250 rfl ?_
    refine Eq_getR dX12_clause_251 fl_X12_31 (ws_50 hW) rfl (wp_50_12 hW) ?_
    refine Eq_iln dX12_clause_254 rfl ?_
    refine Eq_aln dX12_clause_255 rfl ?_
    refine Eq_getR dX12_clause_256 fl_X12_19 (ws_50 hW) rfl (wp_50_8 hW) ?_
    refine Eq_aln dX12_clause_259 rfl ?_
    refine Eq_getI dX12_clause_260 fl_X12_120 (ws_50 hW) rfl (by first | exact ht | exact hw) ?_
    refine Eq_ald dX12_clause_263 (ws_54 hW) (by omega) (by omega) (by first | rfl | exact hc) ?_
    refine Eq_ast dX12_clause_264 (ws_58 hW) (by omega) (by omega) ?_
    refine Eq_aln dX12_clause_265 rfl ?_
    refine Eq_getR dX12_clause_266 fl_X12_22 (ws_50 hW) rfl (wp_50_9 hW) ?_
    refine Eq_aln dX12_clause_269 rfl ?_
    refine Eq_getI dX12_clause_270 fl_X12_120 (ws_50 hW) rfl (by first | exact ht | exact hw) ?_
    refine Eam_x_pu dX12_clause_273 rfl ?_
    refine Eq_ald dX12_clause_274 (ws_55 hW) (by omega) (by omega) (by first | rfl | exact hc) ?_
    refine Eq_ic (v := nI 1) dX12_clause_275 rfl ?_
    refine Eam_x_pu dX12_clause_276 rfl ?_
    refine Eq_ast dX12_clause_277 (ws_55 hW) (by omega) (by omega) ?_
    refine Eq_vr dX12_clause_278 rfl ?_
    exact ⟨rfl, (NG.w57 hM).tr ((NG.w58 hM).tr NG.w55), hw, b, hA.fx (A := [55, 57, 58]) (B := []) ((Fx.wI (Or.inl (by decide))).tr ((Fx.wI (Or.inl (by decide))).tr (Fx.wI (Or.inl (by decide))))) (by decide)⟩
set_option maxHeartbeats 2000000 in
theorem r_cl_sum {tl : Nat} {tp : Nat → Nat} {n : Nat} {M : List (Tks × Tks)} {h : am_H} (hW : Wd h) (hn : n ≤ 4) (hM : M.length < 90) (htl : tl ≤ 160) (ht : am_i h 50 14 = nI n) {q : Nat} {ts : Tks} (hA : RA h tl tp q) (hw : am_i h 50 4 = -1) (hC : CW h n (flt M ++ ts)) (hK : KE h n M) (h55 : am_i h 55 n = nI M.length) (h56 : am_i h 56 (90 * n + M.length) = nI (flt M).length) (hd : am_i h 50 5 = nI 0) : am_E 35 m_X12_clause 183 [some (.ref 50), some (.int (nI (90 * n + M.length))), some (.int (nI 0))] [] h (MLQ tl tp n M (q, some ([], ts)) h) := by
  refine Eq_aln dX12_clause_183 rfl ?_
  refine Eq_getR dX12_clause_184 fl_X12_28 (ws_50 hW) rfl (wp_50_11 hW) ?_
  refine Eq_iln dX12_clause_187 rfl ?_
  refine Eq_aln dX12_clause_188 rfl ?_
  refine Eq_getR dX12_clause_189 fl_X12_25 (ws_50 hW) rfl (wp_50_10 hW) ?_
  refine Eq_iln dX12_clause_192 rfl ?_
  refine Eq_ald dX12_clause_193 (ws_56 hW) (by omega) (by omega) (by first | exact h56 | exact hC.2.2.1 | exact h55) ?_
  refine Eq_ast dX12_clause_194 (ws_57 hW) (by omega) (by omega) ?_
  refine Eq_iln dX12_clause_195 rfl ?_
  refine Et_if_eq 250 dX12_clause_196 rfl (by rfl) ?_
  refine Eq_aln dX12_clause_250 rfl ?_
  refine Eq_getR dX12_clause_251 fl_X12_31 (ws_50 hW) rfl (wp_50_12 hW) ?_
  refine Eq_iln dX12_clause_254 rfl ?_
  refine Eq_aln dX12_clause_255 rfl ?_
  refine Eq_getR dX12_clause_256 fl_X12_19 (ws_50 hW) rfl (wp_50_8 hW) ?_
  refine Eq_aln dX12_clause_259 rfl ?_
  refine Eq_getI dX12_clause_260 fl_X12_120 (ws_50 hW) rfl ht ?_
  refine Eq_ald dX12_clause_263 (ws_54 hW) (by omega) (by omega) (by first | exact h56 | exact hC.2.2.1 | exact h55) ?_
  refine Eq_ast dX12_clause_264 (ws_58 hW) (by omega) (by omega) ?_
  refine Eq_aln dX12_clause_265 rfl ?_
  refine Eq_getR dX12_clause_266 fl_X12_22 (ws_50 hW) rfl (wp_50_9 hW) ?_
  refine Eq_aln dX12_clause_269 rfl ?_
  refine Eq_getI dX12_clause_270 fl_X12_120 (ws_50 hW) rfl ht ?_
  refine Eam_x_pu dX12_clause_273 rfl ?_
  refine Eq_ald dX12_clause_274 (ws_55 hW) (by omega) (by omega) (by first | exact h56 | exact hC.2.2.1 | exact h55) ?_
  refine Eq_ic (v := nI 1) dX12_clause_275 rfl ?_
  first | refine Eq_add dX12_clause_276 ?_ | refine Eam_x_pu dX12_clause_276 rfl ?_
  refine Eq_ast dX12_clause_277 (ws_55 hW) (by omega) (by omega) ?_
  refine Eq_vr dX12_clause_278 rfl ?_
  refine ⟨rfl, (NG.w57 hM).tr ((NG.w58 hM).tr NG.w55), hw, hA.fx (A := [55, 57, 58]) (B := []) ((Fx.wI (Or.inl (by decide))).tr ((Fx.wI (Or.inl (by decide))).tr (Fx.wI (Or.inl (by decide))))) (by decide), ?_, ?_, hd⟩
  · rw [flt_app]
    exact hC.fx (A := [55, 57, 58]) (B := []) ((Fx.wI (Or.inl (by decide))).tr ((Fx.wI (Or.inl (by decide))).tr (Fx.wI (Or.inl (by decide))))) (by decide)
  · refine KL.done ((hK.w.w).fx (A := [55]) (B := []) (Fx.wI (Or.inl (by decide))) (by decide)) wI_e0 h56 ?_ ?_
    · rw [wI_ne (by decide), wI_ne (by decide), wI_e0]
      rfl
    · rw [wI_ne (by decide), wI_e0, flt_app]
      rfl
set_option maxHeartbeats 2000000 in
theorem r_cl_csq {tl : Nat} {tp : Nat → Nat} {n : Nat} {M : List (Tks × Tks)} {h : am_H} (hW : Wd h) (hn : n ≤ 4) (hM : M.length < 90) (htl : tl ≤ 160) (ht : am_i h 50 14 = nI n) {q : Nat} {ts : Tks} (hA : RA h tl tp q) (hq : q ≤ tl) (hw : am_i h 50 4 = -1) (hC : CW h n (flt M ++ ts)) (hl : (flt M ++ ts).length ≤ q) (hK : KE h n M) (h55 : am_i h 55 n = nI M.length) (h56 : am_i h 56 (90 * n + M.length) = nI (flt M).length) (hd : am_i h 50 5 = nI 0) : am_E 35 m_X12_clause 183 [some (.ref 50), some (.int (nI (90 * n + M.length))), some (.int (nI 1))] [] h (MLQ tl tp n M (csq tl tp q ts) h) := by
  have h2 := rsgn256 hA (nx tl tp q)
  have hx1 := nx_ge (tl := tl) (tp := tp) (a := q)
  have hx2 := nx_le (tp := tp) hq
  have kk : Fx [57] [] h (am_wI h 57 (90 * n + M.length) (nI (flt M).length)) := Fx.wI (Or.inl (by decide))
  have hWs := kk.Wd hW
  have hAs := hA.fx kk (by decide)
  have hCs := hC.fx kk (by decide)
  have hKs : KE (am_wI h 57 (90 * n + M.length) (nI (flt M).length)) n M := hK.w
  have hns : NG n h (am_wI h 57 (90 * n + M.length) (nI (flt M).length)) := NG.w57 hM
  unfold csq
  by_cases e : sgn tl tp (nx tl tp q) = some 63
  · rw [if_pos e]
    have hlt := (sgn_lt e).1
    have hpi := smP_pr (tp := tp) (tl := tl) 6 (nx tl tp q + 1) (by omega)
    have hll : (flt M ++ ts).length ≤ nx tl tp q + 1 := by omega
    cases hr : (smP tl tp 6 (nx tl tp q + 1)).2 with
    | none =>
      rw [bdc_n hr]
      refine Eq_aln dX12_clause_183 rfl ?_
      refine Eq_getR dX12_clause_184 fl_X12_28 (ws_50 hW) rfl (wp_50_11 hW) ?_
      refine Eq_iln dX12_clause_187 rfl ?_
      refine Eq_aln dX12_clause_188 rfl ?_
      refine Eq_getR dX12_clause_189 fl_X12_25 (ws_50 hW) rfl (wp_50_10 hW) ?_
      refine Eq_iln dX12_clause_192 rfl ?_
      refine Eq_ald dX12_clause_193 (ws_56 hW) (by omega) (by omega) (by first | exact h56 | exact hC1.2.2.1 | exact hc3 | rfl) ?_
      refine Eq_ast dX12_clause_194 (ws_57 hW) (by omega) (by omega) ?_
      refine Eq_iln dX12_clause_195 rfl ?_
      refine Ef_if_eq dX12_clause_196 (tgt := 250) rfl (by exact zf1) ?_
      refine Eq_aln dX12_clause_199 rfl ?_
      refine Eq_getI dX12_clause_200 fl_X12_117 (ws_50 hW) rfl (by first | exact ht | exact hw | exact hA1.2.1 | exact hC1.1 | exact hC2.1 | exact hn3.t.trans hC2.1) ?_
      refine Eq_ic (v := -1) dX12_clause_203 rfl ?_
      refine Ef_ic_ne dX12_clause_204 (tgt := 250) rfl (by rfl) ?_
      refine Eq_aln dX12_clause_207 rfl ?_
      refine Eq_W0 (N := m_X12_look) dX12_clause_208 lk_X12_129 mV_X12_look (r_look hWs hAs) (by decide) (ws_50 hW) rfl (by decide) (Nat.le_of_ble_eq_true rfl) (Nat.le_of_ble_eq_true rfl) (fun vq hq1 hq2 => ?_)
      obtain ⟨rfl, hf1, hA1⟩ := hq2
      have hW1 := hf1.Wd hWs
      have hw1 : am_i hq1 50 4 = -1 := (hf1.i (by decide) (by decide)).trans hw
      have hC1 := hCs.fx hf1 (by decide)
      have hd1 : am_i hq1 50 5 = nI 0 := (hf1.i (by decide) (by decide)).trans hd
      have h561 : am_i hq1 56 (90 * n + M.length) = nI (flt M).length := (hf1.i (by decide) (by simp)).trans h56
      have hK1 := hKs.fx hf1 (by decide)
      have h551 : am_i hq1 55 n = nI M.length := (hf1.i (by decide) (by simp)).trans h55
      have hng := hns.tr (NF.of3 hf1).g
      have ks : Fx [57] [(50, 3)] hq1 (am_wI (am_wI hq1 50 3 (nI (nx tl tp q + 1))) 57 (90 * n + M.length) (nI (flt M ++ ts).length)) := (Fx.wI (Or.inr (by decide))).tr (Fx.wI (Or.inl (by decide)))
      have hW2 := ks.Wd hW1
      have hA2 := (hA1.mv (b := nx tl tp q + 1) (by omega)).fx (Fx.wI (A := [57]) (B := []) (r := 57) (j := 90 * n + M.length) (v := nI (flt M ++ ts).length) (Or.inl (by decide))) (by decide)
      have hC2 := hC1.fx ks (by decide)
      have hn2 : NG n h (am_wI (am_wI hq1 50 3 (nI (nx tl tp q + 1))) 57 (90 * n + M.length) (nI (flt M ++ ts).length)) := hng.tr (NF.w3.g.tr (NG.w57 hM))
      have hK2 : KE (am_wI (am_wI hq1 50 3 (nI (nx tl tp q + 1))) 57 (90 * n + M.length) (nI (flt M ++ ts).length)) n M := (hK1.fx (Fx.wI (A := []) (B := [(50, 3)]) (r := 50) (j := 3) (v := nI (nx tl tp q + 1)) (Or.inr (by decide))) (by decide)).w
      refine Eq_bp (v := nI 63) dX12_clause_211 rfl ?_
      refine Et_ic_eq 221 dX12_clause_213 rfl (by rw [e]; rfl) ?_
      refine Eq_aln dX12_clause_221 rfl ?_
      refine Eam_x_pu dX12_clause_222 rfl ?_
      refine Eq_getI dX12_clause_223 fl_X12_110 (ws_50 hW1) rfl (by first | exact ht | exact hw | exact hA1.2.1 | exact hC1.1 | exact hC2.1 | exact hn3.t.trans hC2.1) ?_
      refine Eq_ic (v := nI 1) dX12_clause_226 rfl ?_
      first | refine Eq_add dX12_clause_227 ?_ | refine Eam_x_pu dX12_clause_227 rfl ?_
      refine Eam_x_putI dX12_clause_228 (fw_X12_110 rfl) (ws_50 hW1) (Or.inl rfl) ?_
      refine Eq_aln dX12_clause_231 rfl ?_
      refine Eq_getR dX12_clause_232 fl_X12_28 (ws_50 hW1) rfl (wp_50_11 hW1) ?_
      refine Eq_iln dX12_clause_235 rfl ?_
      refine Eq_aln dX12_clause_236 rfl ?_
      refine Eq_getR dX12_clause_237 fl_X12_19 (ws_50 hW1) rfl (wp_50_8 hW1) ?_
      refine Eq_aln dX12_clause_240 rfl ?_
      refine Eq_getI dX12_clause_241 fl_X12_120 (ws_50 hW1) rfl (by first | exact ht | exact hw | exact hA1.2.1 | exact hC1.1 | exact hC2.1 | exact hn3.t.trans hC2.1) ?_
      refine Eq_ald dX12_clause_244 (ws_54 hW1) (by omega) (by omega) (by first | exact h56 | exact hC1.2.2.1 | exact hc3 | rfl) ?_
      refine Eq_ast dX12_clause_245 (ws_57 hW1) (by omega) (by omega) ?_
      refine Eq_aln dX12_clause_246 rfl ?_
      refine Eq_W0 (N := m_X12_sum) dX12_clause_247 lk_X12_150 mV_X12_sum (r_sum6 _ _ _ hW2 hA2 (by omega) hC2 hll hw1 hd1) (by decide) (ws_50 hW1) rfl (by decide) (Nat.le_of_ble_eq_true rfl) (Nat.le_of_ble_eq_true rfl) (fun vq hq1 hq2 => ?_)
      obtain ⟨rfl, hn3, hw3, b3, c, hA3, hb3, hc3, hc4⟩ := hq2.n hr
      have hW3 := hn3.1.Wd hW2
      refine Eq_aln dX12_clause_250 rfl ?_
      refine Eq_getR dX12_clause_251 fl_X12_31 (ws_50 hW3) rfl (wp_50_12 hW3) ?_
      refine Eq_iln dX12_clause_254 rfl ?_
      refine Eq_aln dX12_clause_255 rfl ?_
      refine Eq_getR dX12_clause_256 fl_X12_19 (ws_50 hW3) rfl (wp_50_8 hW3) ?_
      refine Eq_aln dX12_clause_259 rfl ?_
      refine Eq_getI dX12_clause_260 fl_X12_120 (ws_50 hW3) rfl (by first | exact ht | exact hw | exact hA1.2.1 | exact hC1.1 | exact hC2.1 | exact hn3.t.trans hC2.1) ?_
      refine Eq_ald dX12_clause_263 (ws_54 hW3) (by omega) (by omega) (by first | exact h56 | exact hC1.2.2.1 | exact hc3 | rfl) ?_
      refine Eq_ast dX12_clause_264 (ws_58 hW3) (by omega) (by omega) ?_
      refine Eq_aln dX12_clause_265 rfl ?_
      refine Eq_getR dX12_clause_266 fl_X12_22 (ws_50 hW3) rfl (wp_50_9 hW3) ?_
      refine Eq_aln dX12_clause_269 rfl ?_
      refine Eq_getI dX12_clause_270 fl_X12_120 (ws_50 hW3) rfl (by first | exact ht | exact hw | exact hA1.2.1 | exact hC1.1 | exact hC2.1 | exact hn3.t.trans hC2.1) ?_
      refine Eam_x_pu dX12_clause_273 rfl ?_
      refine Eq_ald dX12_clause_274 (ws_55 hW3) (by omega) (by omega) (by first | exact h56 | exact hC1.2.2.1 | exact hc3 | rfl) ?_
      refine Eq_ic (v := nI 1) dX12_clause_275 rfl ?_
      refine Eam_x_pu dX12_clause_276 rfl ?_
      refine Eq_ast dX12_clause_277 (ws_55 hW3) (by omega) (by omega) ?_
      refine Eq_vr dX12_clause_278 rfl ?_
      exact ⟨rfl, hn2.tr (hn3.g.tr ((NG.w58 hM).tr NG.w55)), hw3, _, hA3.fx (A := [55, 58]) (B := []) ((Fx.wI (Or.inl (by decide))).tr (Fx.wI (Or.inl (by decide)))) (by decide)⟩
    | some us =>
      rw [bdc_s hr]
      have hul := hpi.2.2 us hr
      refine Eq_aln dX12_clause_183 rfl ?_
      refine Eq_getR dX12_clause_184 fl_X12_28 (ws_50 hW) rfl (wp_50_11 hW) ?_
      refine Eq_iln dX12_clause_187 rfl ?_
      refine Eq_aln dX12_clause_188 rfl ?_
      refine Eq_getR dX12_clause_189 fl_X12_25 (ws_50 hW) rfl (wp_50_10 hW) ?_
      refine Eq_iln dX12_clause_192 rfl ?_
      refine Eq_ald dX12_clause_193 (ws_56 hW) (by omega) (by omega) (by first | exact h56 | exact hC1.2.2.1 | exact hC3.2.2.1 | exact h553) ?_
      refine Eq_ast dX12_clause_194 (ws_57 hW) (by omega) (by omega) ?_
      refine Eq_iln dX12_clause_195 rfl ?_
      refine Ef_if_eq dX12_clause_196 (tgt := 250) rfl (by exact zf1) ?_
      refine Eq_aln dX12_clause_199 rfl ?_
      refine Eq_getI dX12_clause_200 fl_X12_117 (ws_50 hW) rfl (by first | exact ht | exact hw | exact hA1.2.1 | exact hC1.1 | exact hC2.1 | exact hn3.t.trans hC2.1) ?_
      refine Eq_ic (v := -1) dX12_clause_203 rfl ?_
      refine Ef_ic_ne dX12_clause_204 (tgt := 250) rfl (by rfl) ?_
      refine Eq_aln dX12_clause_207 rfl ?_
      refine Eq_W0 (N := m_X12_look) dX12_clause_208 lk_X12_129 mV_X12_look (r_look hWs hAs) (by decide) (ws_50 hW) rfl (by decide) (Nat.le_of_ble_eq_true rfl) (Nat.le_of_ble_eq_true rfl) (fun vq hq1 hq2 => ?_)
      obtain ⟨rfl, hf1, hA1⟩ := hq2
      have hW1 := hf1.Wd hWs
      have hw1 : am_i hq1 50 4 = -1 := (hf1.i (by decide) (by decide)).trans hw
      have hC1 := hCs.fx hf1 (by decide)
      have hd1 : am_i hq1 50 5 = nI 0 := (hf1.i (by decide) (by decide)).trans hd
      have h561 : am_i hq1 56 (90 * n + M.length) = nI (flt M).length := (hf1.i (by decide) (by simp)).trans h56
      have hK1 := hKs.fx hf1 (by decide)
      have h551 : am_i hq1 55 n = nI M.length := (hf1.i (by decide) (by simp)).trans h55
      have hng := hns.tr (NF.of3 hf1).g
      have ks : Fx [57] [(50, 3)] hq1 (am_wI (am_wI hq1 50 3 (nI (nx tl tp q + 1))) 57 (90 * n + M.length) (nI (flt M ++ ts).length)) := (Fx.wI (Or.inr (by decide))).tr (Fx.wI (Or.inl (by decide)))
      have hW2 := ks.Wd hW1
      have hA2 := (hA1.mv (b := nx tl tp q + 1) (by omega)).fx (Fx.wI (A := [57]) (B := []) (r := 57) (j := 90 * n + M.length) (v := nI (flt M ++ ts).length) (Or.inl (by decide))) (by decide)
      have hC2 := hC1.fx ks (by decide)
      have hn2 : NG n h (am_wI (am_wI hq1 50 3 (nI (nx tl tp q + 1))) 57 (90 * n + M.length) (nI (flt M ++ ts).length)) := hng.tr (NF.w3.g.tr (NG.w57 hM))
      have hK2 : KE (am_wI (am_wI hq1 50 3 (nI (nx tl tp q + 1))) 57 (90 * n + M.length) (nI (flt M ++ ts).length)) n M := (hK1.fx (Fx.wI (A := []) (B := [(50, 3)]) (r := 50) (j := 3) (v := nI (nx tl tp q + 1)) (Or.inr (by decide))) (by decide)).w
      refine Eq_bp (v := nI 63) dX12_clause_211 rfl ?_
      refine Et_ic_eq 221 dX12_clause_213 rfl (by rw [e]; rfl) ?_
      refine Eq_aln dX12_clause_221 rfl ?_
      refine Eam_x_pu dX12_clause_222 rfl ?_
      refine Eq_getI dX12_clause_223 fl_X12_110 (ws_50 hW1) rfl (by first | exact ht | exact hw | exact hA1.2.1 | exact hC1.1 | exact hC2.1 | exact hn3.t.trans hC2.1) ?_
      refine Eq_ic (v := nI 1) dX12_clause_226 rfl ?_
      first | refine Eq_add dX12_clause_227 ?_ | refine Eam_x_pu dX12_clause_227 rfl ?_
      refine Eam_x_putI dX12_clause_228 (fw_X12_110 rfl) (ws_50 hW1) (Or.inl rfl) ?_
      refine Eq_aln dX12_clause_231 rfl ?_
      refine Eq_getR dX12_clause_232 fl_X12_28 (ws_50 hW1) rfl (wp_50_11 hW1) ?_
      refine Eq_iln dX12_clause_235 rfl ?_
      refine Eq_aln dX12_clause_236 rfl ?_
      refine Eq_getR dX12_clause_237 fl_X12_19 (ws_50 hW1) rfl (wp_50_8 hW1) ?_
      refine Eq_aln dX12_clause_240 rfl ?_
      refine Eq_getI dX12_clause_241 fl_X12_120 (ws_50 hW1) rfl (by first | exact ht | exact hw | exact hA1.2.1 | exact hC1.1 | exact hC2.1 | exact hn3.t.trans hC2.1) ?_
      refine Eq_ald dX12_clause_244 (ws_54 hW1) (by omega) (by omega) (by first | exact h56 | exact hC1.2.2.1 | exact hC3.2.2.1 | exact h553) ?_
      refine Eq_ast dX12_clause_245 (ws_57 hW1) (by omega) (by omega) ?_
      refine Eq_aln dX12_clause_246 rfl ?_
      refine Eq_W0 (N := m_X12_sum) dX12_clause_247 lk_X12_150 mV_X12_sum (r_sum6 _ _ _ hW2 hA2 (by omega) hC2 hll hw1 hd1) (by decide) (ws_50 hW1) rfl (by decide) (Nat.le_of_ble_eq_true rfl) (Nat.le_of_ble_eq_true rfl) (fun vq hq1 hq2 => ?_)
      obtain ⟨rfl, hn3, hw3, hA3, hC3, hd3⟩ := hq2.s hr
      have hW3 := hn3.1.Wd hW2
      have h553 : am_i hq1 55 n = nI M.length := (hn3.1.i (by decide) (by simp)).trans h551
      refine Eq_aln dX12_clause_250 rfl ?_
      refine Eq_getR dX12_clause_251 fl_X12_31 (ws_50 hW3) rfl (wp_50_12 hW3) ?_
      refine Eq_iln dX12_clause_254 rfl ?_
      refine Eq_aln dX12_clause_255 rfl ?_
      refine Eq_getR dX12_clause_256 fl_X12_19 (ws_50 hW3) rfl (wp_50_8 hW3) ?_
      refine Eq_aln dX12_clause_259 rfl ?_
      refine Eq_getI dX12_clause_260 fl_X12_120 (ws_50 hW3) rfl (by first | exact ht | exact hw | exact hA1.2.1 | exact hC1.1 | exact hC2.1 | exact hn3.t.trans hC2.1) ?_
      refine Eq_ald dX12_clause_263 (ws_54 hW3) (by omega) (by omega) (by first | exact h56 | exact hC1.2.2.1 | exact hC3.2.2.1 | exact h553) ?_
      refine Eq_ast dX12_clause_264 (ws_58 hW3) (by omega) (by omega) ?_
      refine Eq_aln dX12_clause_265 rfl ?_
      refine Eq_getR dX12_clause_266 fl_X12_22 (ws_50 hW3) rfl (wp_50_9 hW3) ?_
      refine Eq_aln dX12_clause_269 rfl ?_
      refine Eq_getI dX12_clause_270 fl_X12_120 (ws_50 hW3) rfl (by first | exact ht | exact hw | exact hA1.2.1 | exact hC1.1 | exact hC2.1 | exact hn3.t.trans hC2.1) ?_
      refine Eam_x_pu dX12_clause_273 rfl ?_
      refine Eq_ald dX12_clause_274 (ws_55 hW3) (by omega) (by omega) (by first | exact h56 | exact hC1.2.2.1 | exact hC3.2.2.1 | exact h553) ?_
      refine Eq_ic (v := nI 1) dX12_clause_275 rfl ?_
      first | refine Eq_add dX12_clause_276 ?_ | refine Eam_x_pu dX12_clause_276 rfl ?_
      refine Eq_ast dX12_clause_277 (ws_55 hW3) (by omega) (by omega) ?_
      refine Eq_vr dX12_clause_278 rfl ?_
      refine ⟨rfl, hn2.tr (hn3.g.tr ((NG.w58 hM).tr NG.w55)), hw3, hA3.fx (A := [55, 58]) (B := []) ((Fx.wI (Or.inl (by decide))).tr (Fx.wI (Or.inl (by decide)))) (by decide), ?_, ?_, hd3.trans hd1⟩
      · rw [flt_app, ← List.append_assoc]
        exact hC3.fx (A := [55, 58]) (B := []) ((Fx.wI (Or.inl (by decide))).tr (Fx.wI (Or.inl (by decide)))) (by decide)
      · refine KL.done (((hK2.fx hn3.1 (by decide)).w).fx (A := [55]) (B := []) (Fx.wI (Or.inl (by decide))) (by decide)) wI_e0 ?_ ?_ ?_
        · rw [wI_ne (by decide), wI_ne (by decide), hn3.1.i (by decide) (by simp), wI_ne (by decide), wI_ne (by decide)]
          exact h561
        · rw [wI_ne (by decide), wI_ne (by decide), hn3.1.i (by decide) (by simp), wI_e0, List.length_append]
        · rw [wI_ne (by decide), wI_e0, flt_app, ← List.append_assoc]
  · rw [if_neg e]
    refine Eq_aln dX12_clause_183 rfl ?_
    refine Eq_getR dX12_clause_184 fl_X12_28 (ws_50 hW) rfl (wp_50_11 hW) ?_
    refine Eq_iln dX12_clause_187 rfl ?_
    refine Eq_aln dX12_clause_188 rfl ?_
    refine Eq_getR dX12_clause_189 fl_X12_25 (ws_50 hW) rfl (wp_50_10 hW) ?_
    refine Eq_iln dX12_clause_192 rfl ?_
    refine Eq_ald dX12_clause_193 (ws_56 hW) (by omega) (by omega) h56 ?_
    refine Eq_ast dX12_clause_194 (ws_57 hW) (by omega) (by omega) ?_
    refine Eq_iln dX12_clause_195 rfl ?_
    refine Ef_if_eq dX12_clause_196 (tgt := 250) rfl (by exact zf1) ?_
    refine Eq_aln dX12_clause_199 rfl ?_
    refine Eq_getI dX12_clause_200 fl_X12_117 (ws_50 hW) rfl (by first | exact ht | exact hw) ?_
    refine Eq_ic (v := -1) dX12_clause_203 rfl ?_
    refine Ef_ic_ne dX12_clause_204 (tgt := 250) rfl (by rfl) ?_
    refine Eq_aln dX12_clause_207 rfl ?_
    refine Eq_W0 (N := m_X12_look) dX12_clause_208 lk_X12_129 mV_X12_look (r_look hWs hAs) (by decide) (ws_50 hW) rfl (by decide) (Nat.le_of_ble_eq_true rfl) (Nat.le_of_ble_eq_true rfl) (fun vq hq1 hq2 => ?_)
    obtain ⟨rfl, hf1, hA1⟩ := hq2
    have hW1 := hf1.Wd hWs
    have hw1 : am_i hq1 50 4 = -1 := (hf1.i (by decide) (by decide)).trans hw
    have hC1 := hCs.fx hf1 (by decide)
    have hd1 : am_i hq1 50 5 = nI 0 := (hf1.i (by decide) (by decide)).trans hd
    have h561 : am_i hq1 56 (90 * n + M.length) = nI (flt M).length := (hf1.i (by decide) (by simp)).trans h56
    have hK1 := hKs.fx hf1 (by decide)
    have h551 : am_i hq1 55 n = nI M.length := (hf1.i (by decide) (by simp)).trans h55
    have hng := hns.tr (NF.of3 hf1).g
    refine Eq_bp (v := nI 63) dX12_clause_211 rfl ?_
    refine Ef_ic_eq dX12_clause_213 (tgt := 221) rfl (by exact fun z => e ((oNlt (fun k hk => by have := h2 k hk; omega) 63 (by omega)).mp z)) ?_
    refine Eq_aln dX12_clause_216 rfl ?_
    refine Eq_V0 (N := m_X12_bad) dX12_clause_217 lk_X12_126 mV_X12_bad (r_bad hW1 hA1 hw1) (by decide) (ws_50 hW1) rfl (by decide) (Nat.le_of_ble_eq_true rfl) (Nat.le_of_ble_eq_true rfl) ?_
    refine Eq_vr dX12_clause_220 rfl ?_
    exact ⟨rfl, hng.tr NF.of4.g, wI_e0, _, hA1.fx (Fx.wI (A := []) (B := [(50, 4)]) (Or.inr (by decide))) (by decide)⟩
