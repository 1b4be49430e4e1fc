/-! the class's worth -/
theorem getD_drop {l : List Int32} {o j : Nat} : l.getD (o + j) 0 = (l.drop o).getD j 0 := by
  simp only [List.getD_eq_getElem?_getD, List.getElem?_drop]
theorem Fx2.w {h h2 : am_H} {r t : Nat} (x : Fx [r, t] [] h h2) (hr : 80 ≤ r) (ht : 80 ≤ t) : am_i h2 21 = am_i h 21 := x.ia (by simp; omega) (by simp)
set_option maxHeartbeats 2000000 in
theorem c_pstep {h : am_H} {r s t : Nat} {l : List Int32} (hN : MN h r s t l) {st : List Int32} (hT : ST h r t st) {i v : Nat} (hi : i < l.length) (hl : st.length ≤ i) (hv : v < 10000) (hg : l.getD i 0 = nI v) {l3 : Option Value} {P : Option Value → am_H → Prop} (kk : ∀ h2 x, Fx [r, t] [] h h2 → ST h2 r t (nI v :: st) → am_E 2 m_X3_worthBy 7 [some (.ref r), some (.ref 21), some (.int (nI (i + 1))), some (.int x)] [] h2 P) : am_E 2 m_X3_worthBy 7 [some (.ref r), some (.ref 21), some (.int (nI i)), l3] [] h P := by
  obtain ⟨hsr, hps, hpt, hss, hst_, hl6, hsg, hn1, hn2, hn3, hr8, hs8, ht8⟩ := id hN
  have hgi := (hsg i hi).trans hg
  refine Eq_iln dX3_worthBy_7 rfl ?_
  refine Eq_aln dX3_worthBy_8 rfl ?_
  refine Eq_getR dX3_worthBy_9 fl_X3_18 hsr rfl (by assumption) ?_
  refine Eam_x_alen dX3_worthBy_12 hss (by decide) ?_
  refine Ef_ic_ge dX3_worthBy_13 (tgt := 103) rfl (by exact nI_ge (b := l.length) (by omega) (by omega)) ?_
  refine Eq_aln dX3_worthBy_16 rfl ?_
  refine Eq_getR dX3_worthBy_17 fl_X3_18 hsr rfl (by assumption) ?_
  refine Eq_iln dX3_worthBy_20 rfl ?_
  refine Eq_ald dX3_worthBy_21 hss (by omega) (by omega) hgi ?_
  refine Eq_isn dX3_worthBy_22 (by decide) ?_
  refine Eam_nl (pc' := 23) (l' := [_, _, _, _]) rfl rfl ?_
  refine Eq_inc dX3_worthBy_23 rfl (by decide) ?_
  refine Eam_nl (pc' := 26) (l' := [_, _, _, _]) rfl rfl ?_
  refine Eq_iln dX3_worthBy_26 rfl ?_
  refine Ef_if_lt dX3_worthBy_27 (tgt := 38) rfl (by exact nI_ge0 (by omega)) ?_
  refine Eq_aln dX3_worthBy_30 rfl ?_
  refine Eq_iln dX3_worthBy_31 rfl ?_
  refine Eq_V1 (N := m_X3_push) dX3_worthBy_32 lk_X3_40 mV_X3_push (c_push hN hT (by omega)) (by decide) hsr rfl (by decide) (Nat.le_of_ble_eq_true rfl) (Nat.le_of_ble_eq_true rfl) ?_
  refine Eam_x_goto (tgt := 100) dX3_worthBy_35 rfl ?_
  refine Eam_x_goto (tgt := 7) dX3_worthBy_100 rfl ?_
  exact kk _ _ ((Fx.wI (Or.inl (by simp))).tr (Fx.wI (Or.inl (by simp)))) (hT.push hn3 _)
set_option maxHeartbeats 2000000 in
theorem c_wstep {h : am_H} {r s t : Nat} {l : List Int32} (hN : MN h r s t l) {i c : Nat} {Q : Option Value → am_H → Prop} (hi : i < l.length) (hg : l.getD i 0 = -nI c) (h1 : -nI c < 0) (h2 : ¬ -nI c = -59) (h3 : ¬ -nI c = -63) (h4 : - -nI c = nI c) (hwk : am_D 1 m_X3_work [.ref r, .int (nI c), .ref 21] h (fun w h2 => w = none ∧ Q w h2)) {l3 : Option Value} {P : Option Value → am_H → Prop} (kk : ∀ h2 x, Q none h2 → am_E 2 m_X3_worthBy 7 [some (.ref r), some (.ref 21), some (.int (nI (i + 1))), some (.int x)] [] h2 P) : am_E 2 m_X3_worthBy 7 [some (.ref r), some (.ref 21), some (.int (nI i)), l3] [] h P := by
  obtain ⟨hsr, hps, hpt, hss, hst_, hl6, hsg, hn1, hn2, hn3, hr8, hs8, ht8⟩ := id hN
  have hgi := (hsg i hi).trans hg
  refine Eq_iln dX3_worthBy_7 rfl ?_
  refine Eq_aln dX3_worthBy_8 rfl ?_
  refine Eq_getR dX3_worthBy_9 fl_X3_18 hsr rfl (by assumption) ?_
  refine Eam_x_alen dX3_worthBy_12 hss (by decide) ?_
  refine Ef_ic_ge dX3_worthBy_13 (tgt := 103) rfl (by exact nI_ge (b := l.length) (by omega) (by omega)) ?_
  refine Eq_aln dX3_worthBy_16 rfl ?_
  refine Eq_getR dX3_worthBy_17 fl_X3_18 hsr rfl (by assumption) ?_
  refine Eq_iln dX3_worthBy_20 rfl ?_
  refine Eq_ald dX3_worthBy_21 hss (by omega) (by omega) hgi ?_
  refine Eq_isn dX3_worthBy_22 (by decide) ?_
  refine Eam_nl (pc' := 23) (l' := [_, _, _, _]) rfl rfl ?_
  refine Eq_inc dX3_worthBy_23 rfl (by decide) ?_
  refine Eam_nl (pc' := 26) (l' := [_, _, _, _]) rfl rfl ?_
  refine Eq_iln dX3_worthBy_26 rfl ?_
  refine Et_if_lt 38 dX3_worthBy_27 rfl (by exact h1) ?_
  refine Eq_iln dX3_worthBy_38 rfl ?_
  refine Eq_bp (v := -59) dX3_worthBy_39 rfl ?_
  refine Et_ic_ne 49 dX3_worthBy_41 rfl (by exact h2) ?_
  refine Eq_iln dX3_worthBy_49 rfl ?_
  refine Eq_bp (v := -63) dX3_worthBy_50 rfl ?_
  refine Et_ic_ne 93 dX3_worthBy_52 rfl (by exact h3) ?_
  refine Eq_aln dX3_worthBy_93 rfl ?_
  refine Eq_iln dX3_worthBy_94 rfl ?_
  refine Eam_x_pu dX3_worthBy_95 rfl ?_
  rw [h4]
  refine Eq_aln dX3_worthBy_96 rfl ?_
  refine Eq_W2 (N := m_X3_work) dX3_worthBy_97 lk_X3_48 mV_X3_work (hwk) (by decide) hsr rfl (by decide) (Nat.le_of_ble_eq_true rfl) (Nat.le_of_ble_eq_true rfl) (fun vq hq1 hq2 => ?_)
  obtain ⟨rfl, hq3⟩ := hq2
  refine Eam_x_goto (tgt := 7) dX3_worthBy_100 rfl ?_
  exact kk _ _ hq3
set_option maxHeartbeats 2000000 in
theorem c_tok {h : am_H} (hW : Wd h) {r s t : Nat} {l : List Int32} (hN : MN h r s t l) {st : List Int32} (hT : ST h r t st) {i : Nat} {tok : Nat × Nat} {ty ty' : List Bool} (hty : tyt 80 tok ty = some ty') (hv : vt ty st) (hi : i < l.length) (hl : st.length ≤ i) (hg : l.getD i 0 = cs tok) {l3 : Option Value} {P : Option Value → am_H → Prop} (kk : ∀ h2 x, Fx [r, t] [] h h2 → ST h2 r t (tokE (am_i h 21) tok st) → am_E 2 m_X3_worthBy 7 [some (.ref r), some (.ref 21), some (.int (nI (i + 1))), some (.int x)] [] h2 P) : am_E 2 m_X3_worthBy 7 [some (.ref r), some (.ref 21), some (.int (nI i)), l3] [] h P := by
  obtain ⟨hsr, hps, hpt, hss, hst_, hl6, hsg, hn1, hn2, hn3, hr8, hs8, ht8⟩ := id hN
  rcases tyt_c hty with ⟨e, _, hv2, rfl⟩ | ⟨e, _, hv2, rfl⟩ | ⟨e, s9, rfl, rfl⟩ | ⟨e1, e2, s9, rfl, rfl⟩ | ⟨e1, e2, s9, rfl, rfl⟩ | ⟨e1, e2, s9, rfl, rfl⟩
  · obtain ⟨t1, t2⟩ := tok
    dsimp only at e hv2
    subst e
    exact c_pstep hN hT hi hl hv2 hg kk
  · obtain ⟨t1, t2⟩ := tok
    dsimp only at e hv2
    subst e
    rcases (show t2 = 0 ∨ t2 = 1 ∨ t2 = 2 ∨ t2 = 3 ∨ t2 = 4 ∨ t2 = 5 by omega) with rfl | rfl | rfl | rfl | rfl | rfl
    · exact c_wstep hN hi (c := 118) hg (by decide +kernel) (by decide +kernel) (by decide +kernel) (by decide +kernel) (c_work_l hW hN hT (by omega) (j := 0) (by omega)) (fun h2 x hq => kk h2 x hq.1 hq.2)
    · exact c_wstep hN hi (c := 119) hg (by decide +kernel) (by decide +kernel) (by decide +kernel) (by decide +kernel) (c_work_l hW hN hT (by omega) (j := 1) (by omega)) (fun h2 x hq => kk h2 x hq.1 hq.2)
    · exact c_wstep hN hi (c := 100) hg (by decide +kernel) (by decide +kernel) (by decide +kernel) (by decide +kernel) (c_work_l hW hN hT (by omega) (j := 2) (by omega)) (fun h2 x hq => kk h2 x hq.1 hq.2)
    · exact c_wstep hN hi (c := 101) hg (by decide +kernel) (by decide +kernel) (by decide +kernel) (by decide +kernel) (c_work_l hW hN hT (by omega) (j := 3) (by omega)) (fun h2 x hq => kk h2 x hq.1 hq.2)
    · exact c_wstep hN hi (c := 110) hg (by decide +kernel) (by decide +kernel) (by decide +kernel) (by decide +kernel) (c_work_l hW hN hT (by omega) (j := 4) (by omega)) (fun h2 x hq => kk h2 x hq.1 hq.2)
    · exact c_wstep hN hi (c := 115) hg (by decide +kernel) (by decide +kernel) (by decide +kernel) (by decide +kernel) (c_work_l hW hN hT (by omega) (j := 5) (by omega)) (fun h2 x hq => kk h2 x hq.1 hq.2)
  · obtain ⟨v, st, rfl, _, _⟩ := vt1 hv
    obtain ⟨t1, t2⟩ := tok
    dsimp only at e
    subst e
    by_cases hv0 : v = 0
    · refine c_wstep hN hi (c := 33) hg (by decide +kernel) (by decide +kernel) (by decide +kernel) (by decide +kernel) (c_work_9Y hW hN hT (by simp only [List.length_cons] at hl ⊢; omega) hv0) (fun h2 x hq => kk h2 x hq.1 ?_)
      show ST h2 r t ((if v = 0 then 1 else 0) :: st)
      rw [if_pos hv0]
      exact hq.2
    · refine c_wstep hN hi (c := 33) hg (by decide +kernel) (by decide +kernel) (by decide +kernel) (by decide +kernel) (c_work_9N hW hN hT (by simp only [List.length_cons] at hl ⊢; omega) hv0) (fun h2 x hq => kk h2 x hq.1 ?_)
      show ST h2 r t ((if v = 0 then 1 else 0) :: st)
      rw [if_neg hv0]
      exact hq.2
  · obtain ⟨y, st, rfl, _, hvr⟩ := vt1 hv
    obtain ⟨x, st, rfl, _, _⟩ := vt1 hvr
    obtain ⟨t1, t2⟩ := tok
    dsimp only at e1 e2
    rcases (show t1 = 2 ∨ t1 = 3 ∨ t1 = 4 ∨ t1 = 5 by omega) with rfl | rfl | rfl | rfl
    · refine c_wstep hN hi (c := 43) hg (by decide +kernel) (by decide +kernel) (by decide +kernel) (by decide +kernel) (c_work_2 hW hN hT (by simp only [List.length_cons] at hl ⊢; omega)) (fun h2 x hq => kk h2 x hq.1 ?_)
      rw [tokE_o (show 2 ≤ 2 by decide) (show 2 ≠ 9 by decide)]
      exact hq.2
    · refine c_wstep hN hi (c := 45) hg (by decide +kernel) (by decide +kernel) (by decide +kernel) (by decide +kernel) (c_work_3 hW hN hT (by simp only [List.length_cons] at hl ⊢; omega)) (fun h2 x hq => kk h2 x hq.1 ?_)
      rw [tokE_o (show 2 ≤ 3 by decide) (show 3 ≠ 9 by decide)]
      exact hq.2
    · refine c_wstep hN hi (c := 42) hg (by decide +kernel) (by decide +kernel) (by decide +kernel) (by decide +kernel) (c_work_4 hW hN hT (by simp only [List.length_cons] at hl ⊢; omega)) (fun h2 x hq => kk h2 x hq.1 ?_)
      rw [tokE_o (show 2 ≤ 4 by decide) (show 4 ≠ 9 by decide)]
      exact hq.2
    · refine c_wstep hN hi (c := 47) hg (by decide +kernel) (by decide +kernel) (by decide +kernel) (by decide +kernel) (c_work_5 hW hN hT (by simp only [List.length_cons] at hl ⊢; omega)) (fun h2 x hq => kk h2 x hq.1 ?_)
      rw [tokE_o (show 2 ≤ 5 by decide) (show 5 ≠ 9 by decide)]
      exact hq.2
  · obtain ⟨y, st, rfl, _, hvr⟩ := vt1 hv
    obtain ⟨x, st, rfl, _, _⟩ := vt1 hvr
    obtain ⟨t1, t2⟩ := tok
    dsimp only at e1 e2
    rcases (show t1 = 6 ∨ t1 = 7 ∨ t1 = 8 by omega) with rfl | rfl | rfl
    · refine c_wstep hN hi (c := 61) hg (by decide +kernel) (by decide +kernel) (by decide +kernel) (by decide +kernel) (c_work_6 hW hN hT (by simp only [List.length_cons] at hl ⊢; omega)) (fun h2 x hq => kk h2 x hq.1 ?_)
      rw [tokE_o (show 2 ≤ 6 by decide) (show 6 ≠ 9 by decide)]
      exact hq.2
    · refine c_wstep hN hi (c := 60) hg (by decide +kernel) (by decide +kernel) (by decide +kernel) (by decide +kernel) (c_work_7 hW hN hT (by simp only [List.length_cons] at hl ⊢; omega)) (fun h2 x hq => kk h2 x hq.1 ?_)
      rw [tokE_o (show 2 ≤ 7 by decide) (show 7 ≠ 9 by decide)]
      exact hq.2
    · refine c_wstep hN hi (c := 62) hg (by decide +kernel) (by decide +kernel) (by decide +kernel) (by decide +kernel) (c_work_8 hW hN hT (by simp only [List.length_cons] at hl ⊢; omega)) (fun h2 x hq => kk h2 x hq.1 ?_)
      rw [tokE_o (show 2 ≤ 8 by decide) (show 8 ≠ 9 by decide)]
      exact hq.2
  · obtain ⟨y, st, rfl, _, hvr⟩ := vt1 hv
    obtain ⟨x, st, rfl, _, _⟩ := vt1 hvr
    obtain ⟨t1, t2⟩ := tok
    dsimp only at e1 e2
    rcases (show t1 = 10 ∨ t1 = 11 by omega) with rfl | rfl
    · refine c_wstep hN hi (c := 38) hg (by decide +kernel) (by decide +kernel) (by decide +kernel) (by decide +kernel) (c_work_10 hW hN hT (by simp only [List.length_cons] at hl ⊢; omega)) (fun h2 x hq => kk h2 x hq.1 ?_)
      rw [tokE_o (show 2 ≤ 10 by decide) (show 10 ≠ 9 by decide)]
      exact hq.2
    · refine c_wstep hN hi (c := 124) hg (by decide +kernel) (by decide +kernel) (by decide +kernel) (by decide +kernel) (c_work_11 hW hN hT (by simp only [List.length_cons] at hl ⊢; omega)) (fun h2 x hq => kk h2 x hq.1 ?_)
      rw [tokE_o (show 2 ≤ 11 by decide) (show 11 ≠ 9 by decide)]
      exact hq.2
set_option maxHeartbeats 2000000 in
theorem c_toks {r s t : Nat} {l : List Int32} {ws : Nat → Int32} {P : Option Value → am_H → Prop} {h0 : am_H} {N : Nat} : ∀ ts i st ty ty2 h, i + ts.length = N → N ≤ l.length → Wd h → MN h r s t l → ST h r t st → am_i h 21 = ws → Fx [r, t] [] h0 h → tyc 80 ts ty = some ty2 → vt ty st → st.length ≤ i → (∀ j, j < ts.length → l.getD (i + j) 0 = cs (ts.getD j (0, 0))) → (∀ h2 l3, Wd h2 → MN h2 r s t l → Fx [r, t] [] h0 h2 → am_i h2 21 = ws → ST h2 r t (run ws ts st) → am_E 2 m_X3_worthBy 7 [some (.ref r), some (.ref 21), some (.int (nI N)), l3] [] h2 P) → ∀ l3, am_E 2 m_X3_worthBy 7 [some (.ref r), some (.ref 21), some (.int (nI i)), l3] [] h P := by
  intro ts
  induction ts with
  | nil =>
    intro i st ty ty2 h hiN hNl hW hN hT hws hf hty hv hl hg kk l3
    simp only [List.length_nil, Nat.add_zero] at hiN
    subst hiN
    exact kk h l3 hW hN hf hws hT
  | cons tok ts ih =>
    intro i st ty ty2 h hiN hNl hW hN hT hws hf hty hv hl hg kk l3
    simp only [List.length_cons] at hiN
    simp only [tyc] at hty
    cases hq : tyt 80 tok ty with
    | none => rw [hq] at hty; cases hty
    | some tz =>
      rw [hq] at hty
      have hn1 := hN.2.2.2.2.2.2.2.1
      have hn2 := hN.2.2.2.2.2.2.2.2.1
      have hr8 := hN.2.2.2.2.2.2.2.2.2.2.1
      have ht8 := hN.2.2.2.2.2.2.2.2.2.2.2.2
      refine c_tok hW hN hT hq hv (by omega) hl (hg 0 (by simp)) (fun h2 x hx hT2 => ?_)
      rw [hws] at hT2
      have hv2 := tokE_vt (ws := ws) hq hv
      have hlen : (tokE ws tok st).length ≤ i + 1 := by
        rw [vt_len hv2]
        have := vt_len hv
        rcases tyt_c hq with ⟨_, _, _, rfl⟩ | ⟨_, _, _, rfl⟩ | ⟨_, s9, rfl, rfl⟩ | ⟨_, _, s9, rfl, rfl⟩ | ⟨_, _, s9, rfl, rfl⟩ | ⟨_, _, s9, rfl, rfl⟩ <;> simp only [List.length_cons] at this ⊢ <;> omega
      refine ih (i + 1) (tokE ws tok st) tz ty2 h2 (by omega) hNl (hx.Wd hW) (hN.fx hx (by simp; exact ⟨hn1, hn2⟩) (by simp)) hT2 ((Fx2.w hx hr8 ht8).trans hws) (hf.tr hx) hty hv2 hlen (fun j hj => ?_) kk _
      have := hg (j + 1) (by simp only [List.length_cons]; omega)
      rw [show i + 1 + j = i + (j + 1) by omega]
      exact this
set_option maxHeartbeats 2000000 in
theorem c_semi {h : am_H} (hW : Wd h) {r s t : Nat} {l : List Int32} (hN : MN h r s t l) {v : Int32} (hT : ST h r t [v]) {i : Nat} (hi : i < l.length) (hg : l.getD i 0 = -59) {l3 : Option Value} {P : Option Value → am_H → Prop} (kk : ∀ h2, Fx [r, t] [] h h2 → P (some (.int v)) h2) : am_E 2 m_X3_worthBy 7 [some (.ref r), some (.ref 21), some (.int (nI i)), l3] [] h P := by
  obtain ⟨hsr, hps, hpt, hss, hst_, hl6, hsg, hn1, hn2, hn3, hr8, hs8, ht8⟩ := id hN
  have hgi := (hsg i hi).trans hg
  refine Eq_iln dX3_worthBy_7 rfl ?_
  refine Eq_aln dX3_worthBy_8 rfl ?_
  refine Eq_getR dX3_worthBy_9 fl_X3_18 hsr rfl (by assumption) ?_
  refine Eam_x_alen dX3_worthBy_12 hss (by decide) ?_
  refine Ef_ic_ge dX3_worthBy_13 (tgt := 103) rfl (by exact nI_ge (b := l.length) (by omega) (by omega)) ?_
  refine Eq_aln dX3_worthBy_16 rfl ?_
  refine Eq_getR dX3_worthBy_17 fl_X3_18 hsr rfl (by assumption) ?_
  refine Eq_iln dX3_worthBy_20 rfl ?_
  refine Eq_ald dX3_worthBy_21 hss (by omega) (by omega) hgi ?_
  refine Eq_isn dX3_worthBy_22 (by decide) ?_
  refine Eam_nl (pc' := 23) (l' := [_, _, _, _]) rfl rfl ?_
  refine Eq_inc dX3_worthBy_23 rfl (by decide) ?_
  refine Eam_nl (pc' := 26) (l' := [_, _, _, _]) rfl rfl ?_
  refine Eq_iln dX3_worthBy_26 rfl ?_
  refine Et_if_lt 38 dX3_worthBy_27 rfl (by decide +kernel) ?_
  refine Eq_iln dX3_worthBy_38 rfl ?_
  refine Eq_bp (v := -59) dX3_worthBy_39 rfl ?_
  refine Ef_ic_ne dX3_worthBy_41 (tgt := 49) rfl (by rfl) ?_
  refine Eq_aln dX3_worthBy_44 rfl ?_
  refine Eq_V0 (N := m_X3_pop) dX3_worthBy_45 lk_X3_44 mV_X3_pop (c_pop hN hT (by simp)) (by decide) hsr rfl (by decide) (Nat.le_of_ble_eq_true rfl) (Nat.le_of_ble_eq_true rfl) ?_
  refine Eq_ir dX3_worthBy_48 rfl ?_
  exact kk _ (Fx.wI (Or.inl (by simp)))
set_option maxHeartbeats 2000000 in
theorem c_quesY {h : am_H} (hW : Wd h) {r s t : Nat} {l : List Int32} (hN : MN h r s t l) {v : Int32} (hT : ST h r t [v]) (hv : ¬ v = 0) {i : Nat} (hi : i < l.length) (hg : l.getD i 0 = -63) {l3 : Option Value} {P : Option Value → am_H → Prop} (kk : ∀ h2 x, Fx [r, t] [] h h2 → ST h2 r t [] → am_E 2 m_X3_worthBy 7 [some (.ref r), some (.ref 21), some (.int (nI (i + 1 + 1))), some (.int x)] [] h2 P) : am_E 2 m_X3_worthBy 7 [some (.ref r), some (.ref 21), some (.int (nI i)), l3] [] h P := by
  obtain ⟨hsr, hps, hpt, hss, hst_, hl6, hsg, hn1, hn2, hn3, hr8, hs8, ht8⟩ := id hN
  have hgi := (hsg i hi).trans hg
  refine Eq_iln dX3_worthBy_7 rfl ?_
  refine Eq_aln dX3_worthBy_8 rfl ?_
  refine Eq_getR dX3_worthBy_9 fl_X3_18 hsr rfl (by assumption) ?_
  refine Eam_x_alen dX3_worthBy_12 hss (by decide) ?_
  refine Ef_ic_ge dX3_worthBy_13 (tgt := 103) rfl (by exact nI_ge (b := l.length) (by omega) (by omega)) ?_
  refine Eq_aln dX3_worthBy_16 rfl ?_
  refine Eq_getR dX3_worthBy_17 fl_X3_18 hsr rfl (by assumption) ?_
  refine Eq_iln dX3_worthBy_20 rfl ?_
  refine Eq_ald dX3_worthBy_21 hss (by omega) (by omega) hgi ?_
  refine Eq_isn dX3_worthBy_22 (by decide) ?_
  refine Eam_nl (pc' := 23) (l' := [_, _, _, _]) rfl rfl ?_
  refine Eq_inc dX3_worthBy_23 rfl (by decide) ?_
  refine Eam_nl (pc' := 26) (l' := [_, _, _, _]) rfl rfl ?_
  refine Eq_iln dX3_worthBy_26 rfl ?_
  refine Et_if_lt 38 dX3_worthBy_27 rfl (by decide +kernel) ?_
  refine Eq_iln dX3_worthBy_38 rfl ?_
  refine Eq_bp (v := -59) dX3_worthBy_39 rfl ?_
  refine Et_ic_ne 49 dX3_worthBy_41 rfl (by decide +kernel) ?_
  refine Eq_iln dX3_worthBy_49 rfl ?_
  refine Eq_bp (v := -63) dX3_worthBy_50 rfl ?_
  refine Ef_ic_ne dX3_worthBy_52 (tgt := 93) rfl (by rfl) ?_
  refine Eq_aln dX3_worthBy_55 rfl ?_
  refine Eq_V0 (N := m_X3_pop) dX3_worthBy_56 lk_X3_44 mV_X3_pop (c_pop hN hT (by simp)) (by decide) hsr rfl (by decide) (Nat.le_of_ble_eq_true rfl) (Nat.le_of_ble_eq_true rfl) ?_
  refine Et_if_ne 71 dX3_worthBy_59 rfl (by exact hv) ?_
  refine Eq_iln dX3_worthBy_71 rfl ?_
  refine Eq_ic (v := nI 1) dX3_worthBy_72 rfl ?_
  first | refine Eq_add dX3_worthBy_73 ?_ | refine Eam_x_pu dX3_worthBy_73 rfl ?_
  refine Eam_x_goto (tgt := 89) dX3_worthBy_74 rfl ?_
  refine Eq_isn dX3_worthBy_89 (by decide) ?_
  refine Eam_nl (pc' := 90) (l' := [_, _, _, _]) rfl rfl ?_
  refine Eam_x_goto (tgt := 100) dX3_worthBy_90 rfl ?_
  refine Eam_x_goto (tgt := 7) dX3_worthBy_100 rfl ?_
  exact kk _ _ (Fx.wI (Or.inl (by simp))) (hT.pop hn3)
set_option maxHeartbeats 2000000 in
theorem c_quesN {h : am_H} (hW : Wd h) {r s t : Nat} {l : List Int32} (hN : MN h r s t l) {v : Int32} (hT : ST h r t [v]) (hv : v = 0) {i J : Nat} (hi : i + 1 < l.length) (hg : l.getD i 0 = -63) (hgJ : l.getD (i + 1) 0 = nI J) (hJ : i + 2 ≤ J) (hJ2 : J ≤ 1000) {l3 : Option Value} {P : Option Value → am_H → Prop} (kk : ∀ h2 x, Fx [r, t] [] h h2 → ST h2 r t [] → am_E 2 m_X3_worthBy 7 [some (.ref r), some (.ref 21), some (.int (nI J)), some (.int x)] [] h2 P) : am_E 2 m_X3_worthBy 7 [some (.ref r), some (.ref 21), some (.int (nI i)), l3] [] h P := by
  obtain ⟨hsr, hps, hpt, hss, hst_, hl6, hsg, hn1, hn2, hn3, hr8, hs8, ht8⟩ := id hN
  have hgi := (hsg i (by omega)).trans hg
  have hgj : am_i (am_wI h r 2 (nI ([] : List Int32).length)) s (i + 1) = nI J := by rw [wI_ne hn1]; exact (hsg (i + 1) hi).trans hgJ
  have hmx : (if nI (i + 1 + 1) < nI J then nI J else nI (i + 1 + 1)) = nI J := by
    by_cases e : i + 1 + 1 < J
    · rw [if_pos (nI_lt (by omega) (by omega))]
    · rw [show J = i + 1 + 1 by omega]; exact ite_self _
  refine Eq_iln dX3_worthBy_7 rfl ?_
  refine Eq_aln dX3_worthBy_8 rfl ?_
  refine Eq_getR dX3_worthBy_9 fl_X3_18 hsr rfl (by assumption) ?_
  refine Eam_x_alen dX3_worthBy_12 hss (by decide) ?_
  refine Ef_ic_ge dX3_worthBy_13 (tgt := 103) rfl (by exact nI_ge (b := l.length) (by omega) (by omega)) ?_
  refine Eq_aln dX3_worthBy_16 rfl ?_
  refine Eq_getR dX3_worthBy_17 fl_X3_18 hsr rfl (by assumption) ?_
  refine Eq_iln dX3_worthBy_20 rfl ?_
  refine Eq_ald dX3_worthBy_21 hss (by omega) (by omega) (by first | exact hgi | exact hgj) ?_
  refine Eq_isn dX3_worthBy_22 (by decide) ?_
  refine Eam_nl (pc' := 23) (l' := [_, _, _, _]) rfl rfl ?_
  refine Eq_inc dX3_worthBy_23 rfl (by decide) ?_
  refine Eam_nl (pc' := 26) (l' := [_, _, _, _]) rfl rfl ?_
  refine Eq_iln dX3_worthBy_26 rfl ?_
  refine Et_if_lt 38 dX3_worthBy_27 rfl (by decide +kernel) ?_
  refine Eq_iln dX3_worthBy_38 rfl ?_
  refine Eq_bp (v := -59) dX3_worthBy_39 rfl ?_
  refine Et_ic_ne 49 dX3_worthBy_41 rfl (by decide +kernel) ?_
  refine Eq_iln dX3_worthBy_49 rfl ?_
  refine Eq_bp (v := -63) dX3_worthBy_50 rfl ?_
  refine Ef_ic_ne dX3_worthBy_52 (tgt := 93) rfl (by rfl) ?_
  refine Eq_aln dX3_worthBy_55 rfl ?_
  refine Eq_V0 (N := m_X3_pop) dX3_worthBy_56 lk_X3_44 mV_X3_pop (c_pop hN hT (by simp)) (by decide) hsr rfl (by decide) (Nat.le_of_ble_eq_true rfl) (Nat.le_of_ble_eq_true rfl) ?_
  refine Ef_if_ne dX3_worthBy_59 (tgt := 71) rfl (by exact hv) ?_
  refine Eq_iln dX3_worthBy_62 rfl ?_
  refine Eq_aln dX3_worthBy_63 rfl ?_
  refine Eq_getR dX3_worthBy_64 fl_X3_18 hsr rfl (by assumption) ?_
  refine Eam_x_alen dX3_worthBy_67 hss (by decide) ?_
  refine Et_ic_lt 77 dX3_worthBy_68 rfl (by exact nI_lt (b := l.length) (by omega) (by omega)) ?_
  refine Eq_iln dX3_worthBy_77 rfl ?_
  refine Eq_ic (v := nI 1) dX3_worthBy_78 rfl ?_
  first | refine Eq_add dX3_worthBy_79 ?_ | refine Eam_x_pu dX3_worthBy_79 rfl ?_
  refine Eq_aln dX3_worthBy_80 rfl ?_
  refine Eq_getR dX3_worthBy_81 fl_X3_18 hsr rfl (by assumption) ?_
  refine Eq_iln dX3_worthBy_84 rfl ?_
  refine Eq_ald dX3_worthBy_85 hss (by omega) (by omega) (by first | exact hgi | exact hgj) ?_
  refine Eq_max dX3_worthBy_86 lk_X3_15 js_J9_max_7cf53 in_J9 jc_J9_max_7cf53 (by decide) (Nat.le_of_ble_eq_true rfl) ?_
  rw [hmx]
  refine Eq_isn dX3_worthBy_89 (by decide) ?_
  refine Eam_x_goto (tgt := 100) dX3_worthBy_90 rfl ?_
  refine Eam_x_goto (tgt := 7) dX3_worthBy_100 rfl ?_
  exact kk _ _ (Fx.wI (Or.inl (by simp))) (hT.pop hn3)
theorem map_getD {ts : Tks} {x : List Int32} {j : Nat} (hj : j < ts.length) : (ts.map cs ++ x).getD j 0 = cs (ts.getD j (0, 0)) := by
  simp only [List.getD_eq_getElem?_getD]
  rw [List.getElem?_append_left (by simpa using hj), List.getElem?_map, List.getElem?_eq_getElem hj]
  rfl
theorem app_getD {a : List Int32} {x : Int32} {b : List Int32} : (a ++ x :: b).getD a.length 0 = x := by simp [List.getD_eq_getElem?_getD]
theorem drop_app {a b : List Int32} {l : List Int32} {o : Nat} (h : l.drop o = a ++ b) : l.drop (o + a.length) = b := by
  rw [← List.drop_drop, h, List.drop_left]
set_option maxHeartbeats 2000000 in
theorem c_wth {r s t : Nat} {l : List Int32} {ws : Nat → Int32} {h0 : am_H} : ∀ M o h, (∀ c ∈ M, ClT c) → o ≤ l.length → l.drop o = lay o M → Wd h → MN h r s t l → ST h r t [] → am_i h 21 = ws → Fx [r, t] [] h0 h → ∀ l3, am_E 2 m_X3_worthBy 7 [some (.ref r), some (.ref 21), some (.int (nI o)), l3] [] h (fun w h2 => w = some (.int (wth ws M)) ∧ Fx [r, t] [] h0 h2) := by
  intro M
  induction M with
  | nil =>
    intro o h hM ho hd hW hN hT hws hf l3
    have hol : o = l.length := by
      have := congrArg List.length hd
      simp only [lay, List.length_drop, List.length_nil] at this
      omega
    obtain ⟨hsr, hps, hpt, hss, hst_, hl6, hsg, hn1, hn2, hn3, hr8, hs8, ht8⟩ := id hN
    refine Eq_iln dX3_worthBy_7 rfl ?_
    refine Eq_aln dX3_worthBy_8 rfl ?_
    refine Eq_getR dX3_worthBy_9 fl_X3_18 hsr rfl (by assumption) ?_
    refine Eam_x_alen dX3_worthBy_12 hss (by decide) ?_
    refine Et_ic_ge 103 dX3_worthBy_13 rfl (by exact nI_le (a := l.length) (by omega) (by omega)) ?_
    refine Eq_ic (v := nI 0) dX3_worthBy_103 rfl ?_
    refine Eq_ir dX3_worthBy_104 rfl ?_
    exact ⟨rfl, hf⟩
  | cons c M ih =>
    intro o h hM ho hd hW hN hT hws hf l3
    have hl6 := hN.2.2.2.2.2.1
    have hc := hM c (by simp)
    obtain ⟨v2, hv2⟩ := run_1 (ws := ws) hc.2
    have hll : (l.drop o).length = l.length - o := by simp
    rw [hd] at hll
    by_cases hc1 : c.1 = []
    · have hcl : lay o (c :: M) = c.2.map cs ++ (-59 :: lay (o + (cly o c).length) M) := by
        simp only [lay, cly]
        rw [if_pos hc1]
        simp
      rw [hcl] at hd hll
      simp only [List.length_append, List.length_map, List.length_cons] at hll
      refine c_toks (N := o + c.2.length) (ws := ws) (h0 := h0) c.2 o [] [] [false] h rfl (by omega) hW hN hT hws hf hc.2 trivial (by simp) (fun j hj => by rw [getD_drop, hd, map_getD hj]) (fun h2 l3 hW2 hN2 hf2 hws2 hT2 => ?_) l3
      rw [hv2] at hT2
      refine c_semi hW2 hN2 hT2 (by omega) ?_ (fun h3 hf3 => ⟨?_, hf2.tr hf3⟩)
      · rw [getD_drop, hd]
        have := app_getD (a := c.2.map cs) (x := -59) (b := lay (o + (cly o c).length) M)
        rw [List.length_map] at this
        exact this
      · simp only [wth]
        rw [if_pos hc1, hv2]
        rfl
    · have hty1 : tyc 80 c.1 [] = some [true] := hc.1.resolve_left hc1
      obtain ⟨v1, hv1⟩ := run_1 (ws := ws) hty1
      have hJ : (cly o c).length = c.1.length + c.2.length + 3 := by rw [cly_len, if_neg hc1]
      have hcl : lay o (c :: M) = c.1.map cs ++ (-63 :: nI (o + c.1.length + c.2.length + 3) :: (c.2.map cs ++ (-59 :: lay (o + (cly o c).length) M))) := by
        simp only [lay]
        rw [show cly o c = c.1.map cs ++ [-63] ++ [nI (o + c.1.length + c.2.length + 3)] ++ c.2.map cs ++ [-59] by unfold cly; rw [if_neg hc1]]
        simp
      rw [hcl] at hd hll
      simp only [List.length_append, List.length_map, List.length_cons] at hll
      have d1 := drop_app hd
      rw [List.length_map] at d1
      have g63 : l.getD (o + c.1.length) 0 = -63 := by
        have := getD_drop (l := l) (o := o + c.1.length) (j := 0)
        rw [d1] at this
        exact this
      have gJ : l.getD (o + c.1.length + 1) 0 = nI (o + c.1.length + c.2.length + 3) := by
        have := getD_drop (l := l) (o := o + c.1.length) (j := 1)
        rw [d1] at this
        exact this
      have d2 : l.drop (o + c.1.length + 1 + 1) = c.2.map cs ++ (-59 :: lay (o + (cly o c).length) M) := by
        rw [show o + c.1.length + 1 + 1 = o + c.1.length + 2 by omega, ← List.drop_drop, d1]
        rfl
      refine c_toks (N := o + c.1.length) (ws := ws) (h0 := h0) c.1 o [] [] [true] h rfl (by omega) hW hN hT hws hf hty1 trivial (by simp) (fun j hj => by rw [getD_drop, hd, map_getD hj]) (fun h2 l3 hW2 hN2 hf2 hws2 hT2 => ?_) l3
      rw [hv1] at hT2
      have hn1 := hN.2.2.2.2.2.2.2.1
      have hn2 := hN.2.2.2.2.2.2.2.2.1
      have hr8 := hN.2.2.2.2.2.2.2.2.2.2.1
      have ht8 := hN.2.2.2.2.2.2.2.2.2.2.2.2
      by_cases hv0 : v1 = 0
      · have hw : wth ws (c :: M) = wth ws M := by
          simp only [wth]
          rw [if_neg hc1, hv1]
          exact if_pos hv0
        rw [hw]
        refine c_quesN hW2 hN2 hT2 hv0 (J := o + c.1.length + c.2.length + 3) (by omega) g63 gJ (by omega) (by omega) (fun h3 x hf3 hT3 => ?_)
        refine ih (o + c.1.length + c.2.length + 3) h3 (fun d hd => hM d (by simp [hd])) (by omega) ?_ (hf3.Wd hW2) (hN2.fx hf3 (by simp; exact ⟨hn1, hn2⟩) (by simp)) hT3 ((Fx2.w hf3 hr8 ht8).trans hws2) (hf2.tr hf3) _
        have d3 := drop_app (b := -59 :: lay (o + (cly o c).length) M) d2
        rw [List.length_map] at d3
        rw [show o + c.1.length + c.2.length + 3 = o + c.1.length + 1 + 1 + c.2.length + 1 by omega, ← List.drop_drop, d3, hJ]
        rw [show o + c.1.length + 1 + 1 + c.2.length + 1 = o + (c.1.length + c.2.length + 3) by omega]
        rfl
      · have hw : wth ws (c :: M) = v2 := by
          simp only [wth]
          rw [if_neg hc1, hv1, hv2]
          exact if_neg hv0
        rw [hw]
        refine c_quesY hW2 hN2 hT2 hv0 (by omega) g63 (fun h3 x hf3 hT3 => ?_)
        refine c_toks (N := o + c.1.length + 1 + 1 + c.2.length) (ws := ws) (h0 := h0) c.2 (o + c.1.length + 1 + 1) [] [] [false] h3 rfl (by omega) (hf3.Wd hW2) (hN2.fx hf3 (by simp; exact ⟨hn1, hn2⟩) (by simp)) hT3 ((Fx2.w hf3 hr8 ht8).trans hws2) (hf2.tr hf3) hc.2 trivial (by simp) (fun j hj => by rw [getD_drop, d2, map_getD hj]) (fun h4 l4 hW4 hN4 hf4 hws4 hT4 => ?_) _
        rw [hv2] at hT4
        refine c_semi hW4 hN4 hT4 (by omega) ?_ (fun h5 hf5 => ⟨rfl, hf4.tr hf5⟩)
        rw [getD_drop, d2]
        have := app_getD (a := c.2.map cs) (x := -59) (b := lay (o + (cly o c).length) M)
        rw [List.length_map] at this
        exact this
set_option maxHeartbeats 2000000 in
theorem c_worthBy {h : am_H} (hW : Wd h) {r s t : Nat} {M : List (Tks × Tks)} (hN : MN h r s t (lay 0 M)) (hM : ∀ c ∈ M, ClT c) : am_D 2 m_X3_worthBy [.ref r, .ref 21] h (fun w h2 => w = some (.int (wth (am_i h 21) M)) ∧ Fx [r, t] [] h h2) := by
  obtain ⟨hsr, hps, hpt, hss, hst_, hl6, hsg, hn1, hn2, hn3, hr8, hs8, ht8⟩ := id hN
  have k1 : Fx [r, t] [] h (am_wI h r 2 (nI 0)) := Fx.wI (Or.inl (by simp))
  refine Eq_aln dX3_worthBy_0 rfl ?_
  refine Eq_ic (v := nI 0) dX3_worthBy_1 rfl ?_
  refine Eam_x_putI dX3_worthBy_2 (fw_X3_33 rfl) hsr (Or.inl rfl) ?_
  refine Eq_ic (v := nI 0) dX3_worthBy_5 rfl ?_
  refine Eq_isn dX3_worthBy_6 (by decide) ?_
  refine Eam_nl (pc' := 7) (l' := [_, _, _, _]) rfl rfl ?_
  exact c_wth (h0 := h) M 0 _ hM (by omega) (by simp) (k1.Wd hW) (hN.fx k1 (by simp; exact ⟨hn1, hn2⟩) (by simp)) ⟨wI_e0, trivial⟩ (Fx2.w k1 hr8 ht8) k1 _
