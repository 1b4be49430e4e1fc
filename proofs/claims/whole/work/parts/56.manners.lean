/-! the class reads manners -/
def lm (j : Nat) : Nat := if j = 0 then 118 else if j = 1 then 119 else if j = 2 then 100 else if j = 3 then 101 else if j = 4 then 110 else 115
def sgc (o : Nat) : Nat := if o = 2 then 43 else if o = 3 then 45 else if o = 4 then 42 else if o = 5 then 47 else if o = 6 then 61 else if o = 7 then 60 else if o = 8 then 62 else if o = 9 then 33 else if o = 10 then 38 else 124
/-- a token as the class writes it -/
def cs (t : Nat × Nat) : Int32 := if t.1 = 0 then nI t.2 else if t.1 = 1 then -nI (lm t.2) else -nI (sgc t.1)
/-- what is written -/
def WR (h : am_H) (l : List Int32) : Prop := am_i h 6 2 = nI l.length ∧ l.length ≤ 160 ∧ ∀ i, i < l.length → am_i h 7 i = l.getD i 0
theorem WR.fx {A : List Nat} {B : List (Nat × Nat)} {h h' : am_H} {l : List Int32} (m : WR h l) (a : Fx A B h h') (ok : 6 ∉ A ∧ 7 ∉ A ∧ (6, 2) ∉ B ∧ 7 ∉ B.map Prod.fst) : WR h' l := by
  unfold WR at m ⊢
  rw [a.i ok.1 ok.2.2.1, a.ia ok.2.1 ok.2.2.2]
  exact m
theorem WR.put {h : am_H} {l : List Int32} (m : WR h l) (h1 : l.length < 160) (v : Int32) : WR (am_wI (am_wI h 7 l.length v) 6 2 (nI (l.length + 1))) (l ++ [v]) := by
  refine ⟨by rw [wI_e0]; simp, by simp; omega, fun i hi => ?_⟩
  simp only [List.length_append, List.length_cons, List.length_nil] at hi
  rw [wI_ne (by decide), wI_eq]
  by_cases e : i = l.length
  · rw [if_pos e, e]; simp [List.getD_eq_getElem?_getD]
  · rw [if_neg e, m.2.2 i (by omega)]
    simp only [List.getD_eq_getElem?_getD]
    rw [List.getElem?_append_left (by omega)]
def PQ (tl : Nat) (tp : Nat → Nat) (r : Rd) (l : List Int32) (h : am_H) (w : Option Value) (h2 : am_H) : Prop := Fx [7] [(6, 2), (1, 2)] h h2 ∧ match r.2 with
  | none => w = some (.int (nI 0)) ∧ TA h2 tl tp r.1
  | some ts => w = some (.int (nI 1)) ∧ TA h2 tl tp r.1 ∧ WR h2 (l ++ ts.map cs)
theorem PQ.n {tl : Nat} {tp : Nat → Nat} {r : Rd} {l : List Int32} {h h2 : am_H} {w : Option Value} (m : PQ tl tp r l h w h2) (hr : r.2 = none) : w = some (.int (nI 0)) ∧ Fx [7] [(6, 2), (1, 2)] h h2 ∧ TA h2 tl tp r.1 := by
  unfold PQ at m
  simp only [hr] at m
  exact ⟨m.2.1, m.1, m.2.2⟩
theorem PQ.s {tl : Nat} {tp : Nat → Nat} {r : Rd} {l : List Int32} {h h2 : am_H} {w : Option Value} {ts : Tks} (m : PQ tl tp r l h w h2) (hr : r.2 = some ts) : w = some (.int (nI 1)) ∧ Fx [7] [(6, 2), (1, 2)] h h2 ∧ TA h2 tl tp r.1 ∧ WR h2 (l ++ ts.map cs) := by
  unfold PQ at m
  simp only [hr] at m
  exact ⟨m.2.1, m.1, m.2.2⟩
theorem PQ.tr {tl : Nat} {tp : Nat → Nat} {r : Rd} {l : List Int32} {h h1 h2 : am_H} {w : Option Value} (a : Fx [7] [(6, 2), (1, 2)] h h1) (m : PQ tl tp r l h1 w h2) : PQ tl tp r l h w h2 := ⟨a.tr m.1, m.2⟩
def SC (tl : Nat) (tp : Nat → Nat) (N : am_M) (d : Nat) (args : List Value) (f : Nat → Rd) : Prop := ∀ h a l, Wd h → TA h tl tp a → WR h l → l.length ≤ a → am_D d N args h (PQ tl tp (f a) l h)
theorem lm_lt (j : Nat) : lm j < 256 := by unfold lm; (repeat' split) <;> omega
theorem sl0 {j : Nat} (hj : j < 6) : (am_sl 0).getD j 0 = nI (lm j) := by
  rcases (show j = 0 ∨ j = 1 ∨ j = 2 ∨ j = 3 ∨ j = 4 ∨ j = 5 by omega) with rfl | rfl | rfl | rfl | rfl | rfl <;> rfl
theorem lti_6 {j : Nat} (hj : j < 6) : lti (some (lm j)) = some j := by
  rcases (show j = 0 ∨ j = 1 ∨ j = 2 ∨ j = 3 ∨ j = 4 ∨ j = 5 by omega) with rfl | rfl | rfl | rfl | rfl | rfl <;> rfl
theorem lti_no {x : Option Nat} (h : ∀ i, i < 6 → x ≠ some (lm i)) : lti x = none := by
  cases x with
  | none => rfl
  | some c =>
    have e : ∀ i, i < 6 → c ≠ lm i := fun i hi z => h i hi (by rw [z])
    have e0 : c ≠ 118 := e 0 (by omega)
    have e1 : c ≠ 119 := e 1 (by omega)
    have e2 : c ≠ 100 := e 2 (by omega)
    have e3 : c ≠ 101 := e 3 (by omega)
    have e4 : c ≠ 110 := e 4 (by omega)
    have e5 : c ≠ 115 := e 5 (by omega)
    simp only [lti]
    rw [if_neg e0, if_neg e1, if_neg e2, if_neg e3, if_neg e4, if_neg e5]
theorem lti_s {x : Option Nat} {j : Nat} (h : lti x = some j) : j < 6 ∧ x = some (lm j) := by
  cases x with
  | none => cases h
  | some c =>
    simp only [lti] at h
    repeat' split at h
    all_goals cases h
    all_goals (simp_all [lm])
theorem cs_n (v : Nat) : cs (0, v) = nI v := rfl
theorem cs_l (j : Nat) : cs (1, j) = -nI (lm j) := rfl
set_option maxHeartbeats 2000000 in
theorem c_letterOf_lp {h : am_H} {x : Option Nat} (hx : ∀ c, x = some c → c < 256) : ∀ k j, j + k = 6 → (∀ i, i < j → x ≠ some (lm i)) → am_Sem 0 m_X3_letterOf 2 [some (.int (oN x)), some (.int (nI j))] [] h (some (.int (oN (lti x))), h) := by
  intro k
  induction k with
  | zero =>
    intro j hj hno
    have hj7 : j = 6 := by omega
    subst hj7
    rw [lti_no hno]
    refine q_iln dX3_letterOf_2 rfl ?_
    refine am_x_gs dX3_letterOf_3 gs_X3_37 ?_
    refine am_x_slen dX3_letterOf_6 (by decide) ?_
    refine t_ic_ge 27 dX3_letterOf_7 rfl (by decide +kernel) ?_
    refine q_ic (v := -1) dX3_letterOf_27 rfl ?_
    refine q_ir dX3_letterOf_28 rfl ?_
    rfl
  | succ k ih =>
    intro j hj hno
    have hlt := lm_lt j
    by_cases he : x = some (lm j)
    · rw [he, lti_6 (by omega)]
      show am_Sem 0 m_X3_letterOf 2 [some (.int (nI (lm j))), some (.int (nI j))] [] h _
      refine q_iln dX3_letterOf_2 rfl ?_
      refine am_x_gs dX3_letterOf_3 gs_X3_37 ?_
      refine am_x_slen dX3_letterOf_6 (by decide) ?_
      refine f_ic_ge dX3_letterOf_7 (tgt := 27) rfl (by exact nI_ge (b := 6) (by omega) (by omega)) ?_
      refine am_x_gs dX3_letterOf_10 gs_X3_37 ?_
      refine q_iln dX3_letterOf_13 rfl ?_
      refine q_sld dX3_letterOf_14 (by decide) (show j < 6 by omega) (by decide) (sl0 (by omega)) ?_
      refine q_iln dX3_letterOf_15 rfl ?_
      refine f_ic_ne dX3_letterOf_16 (tgt := 21) rfl (by rfl) ?_
      refine q_iln dX3_letterOf_19 rfl ?_
      refine q_ir dX3_letterOf_20 rfl ?_
      rfl
    · refine q_iln dX3_letterOf_2 rfl ?_
      refine am_x_gs dX3_letterOf_3 gs_X3_37 ?_
      refine am_x_slen dX3_letterOf_6 (by decide) ?_
      refine f_ic_ge dX3_letterOf_7 (tgt := 27) rfl (by exact nI_ge (b := 6) (by omega) (by omega)) ?_
      refine am_x_gs dX3_letterOf_10 gs_X3_37 ?_
      refine q_iln dX3_letterOf_13 rfl ?_
      refine q_sld dX3_letterOf_14 (by decide) (show j < 6 by omega) (by decide) (sl0 (by omega)) ?_
      refine q_iln dX3_letterOf_15 rfl ?_
      refine t_ic_ne 21 dX3_letterOf_16 rfl (by exact fun z => he ((oNlt (fun k hk => by have := hx k hk; omega) _ (by omega)).mp z.symm)) ?_
      refine q_inc dX3_letterOf_21 rfl (by decide) ?_
      refine am_nl (pc' := 24) (l' := [_, _]) rfl rfl ?_
      refine am_x_goto (tgt := 2) dX3_letterOf_24 rfl ?_
      exact ih (j + 1) (by omega) (fun i hi => by by_cases e : i = j; (rw [e]; exact he); exact hno i (by omega))
set_option maxHeartbeats 2000000 in
theorem c_letterOf {h : am_H} {x : Option Nat} (hx : ∀ c, x = some c → c < 256) : am_C 0 m_X3_letterOf [.int (oN x)] h (some (.int (oN (lti x))), h) := by
  refine q_ic (v := nI 0) dX3_letterOf_0 rfl ?_
  refine q_isn dX3_letterOf_1 (by decide) ?_
  refine am_nl (pc' := 2) (l' := [_, _]) rfl rfl ?_
  exact c_letterOf_lp hx 6 0 (by omega) (fun i hi => by omega)
set_option maxHeartbeats 2000000 in
theorem c_write {h : am_H} (hW : Wd h) {l : List Int32} (hR : WR h l) (hl : l.length < 160) {v : Int32} : am_D 0 m_X4_write [.ref 6, .int v] h (fun w h2 => w = none ∧ Fx [7] [(6, 2)] h h2 ∧ WR h2 (l ++ [v])) := by
  have h1 := hR.1
  refine Eq_aln dX4_write_0 rfl ?_
  refine Eq_getI dX4_write_1 fl_X4_21 (ws_6 hW) rfl h1 ?_
  refine Eq_aln dX4_write_4 rfl ?_
  refine Eq_getR dX4_write_5 fl_X4_17 (ws_6 hW) rfl (wp_6_1 hW) ?_
  refine Eam_x_alen dX4_write_8 (ws_7 hW) (by decide) ?_
  refine Ef_ic_ge dX4_write_9 (tgt := 32) rfl (by exact nI_ge (b := 160) (by omega) (by omega)) ?_
  refine Eq_aln dX4_write_12 rfl ?_
  refine Eq_getR dX4_write_13 fl_X4_17 (ws_6 hW) rfl (wp_6_1 hW) ?_
  refine Eq_aln dX4_write_16 rfl ?_
  refine Eq_getI dX4_write_17 fl_X4_21 (ws_6 hW) rfl h1 ?_
  refine Eq_iln dX4_write_20 rfl ?_
  refine Eq_ast dX4_write_21 (ws_7 hW) (by omega) (by omega) ?_
  refine Eq_aln dX4_write_22 rfl ?_
  refine Eam_x_pu dX4_write_23 rfl ?_
  refine Eq_getI dX4_write_24 fl_X4_21 (ws_6 hW) rfl h1 ?_
  refine Eq_ic (v := nI 1) dX4_write_27 rfl ?_
  first | refine Eq_add dX4_write_28 ?_ | refine Eam_x_pu dX4_write_28 rfl ?_
  refine Eam_x_putI dX4_write_29 (fw_X4_21 rfl) (ws_6 hW) (Or.inl rfl) ?_
  refine Eq_vr dX4_write_32 rfl ?_
  exact ⟨rfl, (Fx.wI (Or.inl (by decide))).tr (Fx.wI (Or.inr (by decide))), hR.put hl v⟩
set_option maxHeartbeats 2000000 in
theorem c_readAtom {tl : Nat} {tp : Nat → Nat} {L d : Nat} (hL6 : L ≤ 6) {inner : Nat → Rd} (hi : L ≠ 0 → SC tl tp m_X4_readSum d [.ref 6, .int (nI (6 - L + 1))] inner) (hp : L ≠ 0 → Prs tl inner) (hd : 2 ≤ d) : SC tl tp m_X4_readAtom (d + 1) [.ref 6, .int (nI (6 - L))] (atm tl tp L inner) := by
  intro h a l hW hA hR hl
  have h2 := sgn256 hA (nx tl tp a)
  have hx1 := nx_ge (tl := tl) (tp := tp) (a := a)
  have hx2 := nx_le (tp := tp) hA.2.2
  have htl := hA.1.2.1
  unfold atm
  by_cases e : sgn tl tp (nx tl tp a) = some 91
  · rw [if_pos e]
    have hlt := (sgn_lt e).1
    by_cases hL : L = 0
    · rw [if_pos hL]
      refine Eq_aln dX4_readAtom_0 rfl ?_
      refine Eq_getR dX4_readAtom_1 fl_X4_9 (ws_6 hW) rfl (wp_6_0 hW) ?_
      refine Eq_W0 (N := m_X9_next) dX4_readAtom_4 lk_X4_36 mV_X9_next (c_next hW hA) (by omega) (ws_1 hW) rfl (by decide) (Nat.le_of_ble_eq_true rfl) (Nat.le_of_ble_eq_true rfl) (fun vq hq1 hq2 => ?_)
      obtain ⟨rfl, hf1, hA1⟩ := hq2
      have hW1 := hf1.Wd hW
      have hR1 := hR.fx hf1 (by decide)
      refine Eq_isn dX4_readAtom_7 (by decide) ?_
      refine Eam_nl (pc' := 8) (l' := [_, _, _, _]) rfl rfl ?_
      refine Eq_iln dX4_readAtom_8 rfl ?_
      refine Eq_bp (v := nI 91) dX4_readAtom_9 rfl ?_
      refine Ef_ic_ne dX4_readAtom_11 (tgt := 57) rfl (by rw [e]; rfl) ?_
      refine Eq_iln dX4_readAtom_14 rfl ?_
      refine Eq_bp (v := nI 6) dX4_readAtom_15 rfl ?_
      refine Ef_ic_lt dX4_readAtom_17 (tgt := 22) rfl (by rw [hL]; exact nI_nlt (by omega) (by omega)) ?_
      refine Eq_ic (v := nI 0) dX4_readAtom_20 rfl ?_
      first | refine Eq_zrn dX4_readAtom_21 rfl (by first | omega | exact b2_le) ?_ | refine Eq_zr dX4_readAtom_21 rfl (by first | exact Or.inl rfl | exact Or.inr rfl | assumption) ?_
      exact ⟨hf1.mono (by decide) (by decide), rfl, hA1⟩
    · rw [if_neg hL]
      have hpi := hp hL (nx tl tp a + 1) (by omega)
      unfold clo
      cases hq : (inner (nx tl tp a + 1)).2 with
      | none =>
        rw [bd_n hq]
        refine Eq_aln dX4_readAtom_0 rfl ?_
        refine Eq_getR dX4_readAtom_1 fl_X4_9 (ws_6 hW) rfl (wp_6_0 hW) ?_
        refine Eq_W0 (N := m_X9_next) dX4_readAtom_4 lk_X4_36 mV_X9_next (c_next hW hA) (by omega) (ws_1 hW) rfl (by decide) (Nat.le_of_ble_eq_true rfl) (Nat.le_of_ble_eq_true rfl) (fun vq hq1 hq2 => ?_)
        obtain ⟨rfl, hf1, hA1⟩ := hq2
        have hW1 := hf1.Wd hW
        have hk1 : Fx [] [(1, 2)] h (am_wI hq1 1 2 (nI (nx tl tp a + 1))) := hf1.tr (Fx.wI (Or.inr (by decide)))
        have hRk := hR.fx hk1 (by decide)
        have hAk := hA1.mv (b := nx tl tp a + 1) (by omega)
        have hWk := hk1.Wd hW
        refine Eq_isn dX4_readAtom_7 (by decide) ?_
        refine Eam_nl (pc' := 8) (l' := [_, _, _, _]) rfl rfl ?_
        refine Eq_iln dX4_readAtom_8 rfl ?_
        refine Eq_bp (v := nI 91) dX4_readAtom_9 rfl ?_
        refine Ef_ic_ne dX4_readAtom_11 (tgt := 57) rfl (by rw [e]; rfl) ?_
        refine Eq_iln dX4_readAtom_14 rfl ?_
        refine Eq_bp (v := nI 6) dX4_readAtom_15 rfl ?_
        refine Et_ic_lt 22 dX4_readAtom_17 rfl (by exact nI_lt (by omega) (by omega)) ?_
        refine Eq_aln dX4_readAtom_22 rfl ?_
        refine Eq_getR dX4_readAtom_23 fl_X4_9 (ws_6 hW1) rfl (wp_6_0 hW1) ?_
        refine Eq_V0 (N := m_X9_step) dX4_readAtom_26 lk_X4_74 mV_X9_step (c_step hW1 hA1) (by omega) (ws_1 hW1) rfl (by decide) (Nat.le_of_ble_eq_true rfl) (Nat.le_of_ble_eq_true rfl) ?_
        refine Eq_aln dX4_readAtom_29 rfl ?_
        refine Eq_iln dX4_readAtom_30 rfl ?_
        refine Eq_ic (v := nI 1) dX4_readAtom_31 rfl ?_
        first | refine Eq_add dX4_readAtom_32 ?_ | refine Eam_x_pu dX4_readAtom_32 rfl ?_
        refine Eq_W1 (N := m_X4_readSum) dX4_readAtom_33 lk_X4_48 mV_X4_readSum (hi hL _ _ _ hWk hAk hRk (by omega)) (by omega) (ws_6 hW1) rfl (by decide) (Nat.le_of_ble_eq_true rfl) (Nat.le_of_ble_eq_true rfl) (fun vq hq1 hq2 => ?_)
        obtain ⟨rfl, hf2, hA2⟩ := hq2.n hq
        have hW2 := hf2.Wd hWk
        refine Et_if_eq 55 dX4_readAtom_36 rfl (by rfl) ?_
        refine Eq_ic (v := nI 0) dX4_readAtom_55 rfl ?_
        first | refine Eq_zrn dX4_readAtom_56 rfl (by first | omega | exact b2_le) ?_ | refine Eq_zr dX4_readAtom_56 rfl (by first | exact Or.inl rfl | exact Or.inr rfl | assumption) ?_
        exact ⟨(hk1.mono (by decide) (by decide)).tr hf2, rfl, hA2⟩
      | some ts =>
        rw [bd_s hq]
        by_cases ec : sgn tl tp (nx tl tp (inner (nx tl tp a + 1)).1) = some 93
        · rw [if_pos ec]
          refine Eq_aln dX4_readAtom_0 rfl ?_
          refine Eq_getR dX4_readAtom_1 fl_X4_9 (ws_6 hW) rfl (wp_6_0 hW) ?_
          refine Eq_W0 (N := m_X9_next) dX4_readAtom_4 lk_X4_36 mV_X9_next (c_next hW hA) (by omega) (ws_1 hW) rfl (by decide) (Nat.le_of_ble_eq_true rfl) (Nat.le_of_ble_eq_true rfl) (fun vq hq1 hq2 => ?_)
          obtain ⟨rfl, hf1, hA1⟩ := hq2
          have hW1 := hf1.Wd hW
          have hk1 : Fx [] [(1, 2)] h (am_wI hq1 1 2 (nI (nx tl tp a + 1))) := hf1.tr (Fx.wI (Or.inr (by decide)))
          have hRk := hR.fx hk1 (by decide)
          have hAk := hA1.mv (b := nx tl tp a + 1) (by omega)
          have hWk := hk1.Wd hW
          refine Eq_isn dX4_readAtom_7 (by decide) ?_
          refine Eam_nl (pc' := 8) (l' := [_, _, _, _]) rfl rfl ?_
          refine Eq_iln dX4_readAtom_8 rfl ?_
          refine Eq_bp (v := nI 91) dX4_readAtom_9 rfl ?_
          refine Ef_ic_ne dX4_readAtom_11 (tgt := 57) rfl (by rw [e]; rfl) ?_
          refine Eq_iln dX4_readAtom_14 rfl ?_
          refine Eq_bp (v := nI 6) dX4_readAtom_15 rfl ?_
          refine Et_ic_lt 22 dX4_readAtom_17 rfl (by exact nI_lt (by omega) (by omega)) ?_
          refine Eq_aln dX4_readAtom_22 rfl ?_
          refine Eq_getR dX4_readAtom_23 fl_X4_9 (ws_6 hW1) rfl (wp_6_0 hW1) ?_
          refine Eq_V0 (N := m_X9_step) dX4_readAtom_26 lk_X4_74 mV_X9_step (c_step hW1 hA1) (by omega) (ws_1 hW1) rfl (by decide) (Nat.le_of_ble_eq_true rfl) (Nat.le_of_ble_eq_true rfl) ?_
          refine Eq_aln dX4_readAtom_29 rfl ?_
          refine Eq_iln dX4_readAtom_30 rfl ?_
          refine Eq_ic (v := nI 1) dX4_readAtom_31 rfl ?_
          first | refine Eq_add dX4_readAtom_32 ?_ | refine Eam_x_pu dX4_readAtom_32 rfl ?_
          refine Eq_W1 (N := m_X4_readSum) dX4_readAtom_33 lk_X4_48 mV_X4_readSum (hi hL _ _ _ hWk hAk hRk (by omega)) (by omega) (ws_6 hW1) rfl (by decide) (Nat.le_of_ble_eq_true rfl) (Nat.le_of_ble_eq_true rfl) (fun vq hq1 hq2 => ?_)
          obtain ⟨rfl, hf2, hA2, hR2⟩ := hq2.s hq
          have hW2 := hf2.Wd hWk
          refine Ef_if_eq dX4_readAtom_36 (tgt := 55) rfl (by exact zf1) ?_
          refine Eq_aln dX4_readAtom_39 rfl ?_
          refine Eq_getR dX4_readAtom_40 fl_X4_9 (ws_6 hW2) rfl (wp_6_0 hW2) ?_
          refine Eq_bp (v := nI 93) dX4_readAtom_43 rfl ?_
          refine Eq_W1 (N := m_X9_pass) dX4_readAtom_45 lk_X4_32 mV_X9_pass (c_pass hW2 hA2 (c := 93) (by omega)) (by omega) (ws_1 hW2) rfl (by decide) (Nat.le_of_ble_eq_true rfl) (Nat.le_of_ble_eq_true rfl) (fun vq hq1 hq2 => ?_)
          rw [if_pos ec] at hq2
          obtain ⟨rfl, hf3, hA3⟩ := hq2
          refine Ef_if_eq dX4_readAtom_48 (tgt := 55) rfl (by exact zf1) ?_
          refine Eq_ic (v := nI 1) dX4_readAtom_51 rfl ?_
          refine Eam_x_goto (tgt := 56) dX4_readAtom_52 rfl ?_
          first | refine Eq_zrn dX4_readAtom_56 rfl (by first | omega | exact b2_le) ?_ | refine Eq_zr dX4_readAtom_56 rfl (by first | exact Or.inl rfl | exact Or.inr rfl | assumption) ?_
          exact ⟨(hk1.mono (by decide) (by decide)).tr (hf2.tr (hf3.mono (by decide) (by decide))), rfl, hA3, hR2.fx hf3 (by decide)⟩
        · rw [if_neg ec]
          refine Eq_aln dX4_readAtom_0 rfl ?_
          refine Eq_getR dX4_readAtom_1 fl_X4_9 (ws_6 hW) rfl (wp_6_0 hW) ?_
          refine Eq_W0 (N := m_X9_next) dX4_readAtom_4 lk_X4_36 mV_X9_next (c_next hW hA) (by omega) (ws_1 hW) rfl (by decide) (Nat.le_of_ble_eq_true rfl) (Nat.le_of_ble_eq_true rfl) (fun vq hq1 hq2 => ?_)
          obtain ⟨rfl, hf1, hA1⟩ := hq2
          have hW1 := hf1.Wd hW
          have hk1 : Fx [] [(1, 2)] h (am_wI hq1 1 2 (nI (nx tl tp a + 1))) := hf1.tr (Fx.wI (Or.inr (by decide)))
          have hRk := hR.fx hk1 (by decide)
          have hAk := hA1.mv (b := nx tl tp a + 1) (by omega)
          have hWk := hk1.Wd hW
          refine Eq_isn dX4_readAtom_7 (by decide) ?_
          refine Eam_nl (pc' := 8) (l' := [_, _, _, _]) rfl rfl ?_
          refine Eq_iln dX4_readAtom_8 rfl ?_
          refine Eq_bp (v := nI 91) dX4_readAtom_9 rfl ?_
          refine Ef_ic_ne dX4_readAtom_11 (tgt := 57) rfl (by rw [e]; rfl) ?_
          refine Eq_iln dX4_readAtom_14 rfl ?_
          refine Eq_bp (v := nI 6) dX4_readAtom_15 rfl ?_
          refine Et_ic_lt 22 dX4_readAtom_17 rfl (by exact nI_lt (by omega) (by omega)) ?_
          refine Eq_aln dX4_readAtom_22 rfl ?_
          refine Eq_getR dX4_readAtom_23 fl_X4_9 (ws_6 hW1) rfl (wp_6_0 hW1) ?_
          refine Eq_V0 (N := m_X9_step) dX4_readAtom_26 lk_X4_74 mV_X9_step (c_step hW1 hA1) (by omega) (ws_1 hW1) rfl (by decide) (Nat.le_of_ble_eq_true rfl) (Nat.le_of_ble_eq_true rfl) ?_
          refine Eq_aln dX4_readAtom_29 rfl ?_
          refine Eq_iln dX4_readAtom_30 rfl ?_
          refine Eq_ic (v := nI 1) dX4_readAtom_31 rfl ?_
          first | refine Eq_add dX4_readAtom_32 ?_ | refine Eam_x_pu dX4_readAtom_32 rfl ?_
          refine Eq_W1 (N := m_X4_readSum) dX4_readAtom_33 lk_X4_48 mV_X4_readSum (hi hL _ _ _ hWk hAk hRk (by omega)) (by omega) (ws_6 hW1) rfl (by decide) (Nat.le_of_ble_eq_true rfl) (Nat.le_of_ble_eq_true rfl) (fun vq hq1 hq2 => ?_)
          obtain ⟨rfl, hf2, hA2, hR2⟩ := hq2.s hq
          have hW2 := hf2.Wd hWk
          refine Ef_if_eq dX4_readAtom_36 (tgt := 55) rfl (by exact zf1) ?_
          refine Eq_aln dX4_readAtom_39 rfl ?_
          refine Eq_getR dX4_readAtom_40 fl_X4_9 (ws_6 hW2) rfl (wp_6_0 hW2) ?_
          refine Eq_bp (v := nI 93) dX4_readAtom_43 rfl ?_
          refine Eq_W1 (N := m_X9_pass) dX4_readAtom_45 lk_X4_32 mV_X9_pass (c_pass hW2 hA2 (c := 93) (by omega)) (by omega) (ws_1 hW2) rfl (by decide) (Nat.le_of_ble_eq_true rfl) (Nat.le_of_ble_eq_true rfl) (fun vq hq1 hq2 => ?_)
          rw [if_neg ec] at hq2
          obtain ⟨rfl, hf3, hA3⟩ := hq2
          refine Et_if_eq 55 dX4_readAtom_48 rfl (by rfl) ?_
          refine Eq_ic (v := nI 0) dX4_readAtom_55 rfl ?_
          first | refine Eq_zrn dX4_readAtom_56 rfl (by first | omega | exact b2_le) ?_ | refine Eq_zr dX4_readAtom_56 rfl (by first | exact Or.inl rfl | exact Or.inr rfl | assumption) ?_
          exact ⟨(hk1.mono (by decide) (by decide)).tr (hf2.tr (hf3.mono (by decide) (by decide))), rfl, hA3⟩
  · rw [if_neg e]
    cases hj : lti (sgn tl tp (nx tl tp a)) with
    | some j =>
      obtain ⟨hj6, hjc⟩ := lti_s hj
      have hlt := (sgn_lt hjc).1
      dsimp only
      refine Eq_aln dX4_readAtom_0 rfl ?_
      refine Eq_getR dX4_readAtom_1 fl_X4_9 (ws_6 hW) rfl (wp_6_0 hW) ?_
      refine Eq_W0 (N := m_X9_next) dX4_readAtom_4 lk_X4_36 mV_X9_next (c_next hW hA) (by omega) (ws_1 hW) rfl (by decide) (Nat.le_of_ble_eq_true rfl) (Nat.le_of_ble_eq_true rfl) (fun vq hq1 hq2 => ?_)
      obtain ⟨rfl, hf1, hA1⟩ := hq2
      have hW1 := hf1.Wd hW
      have hk1 : Fx [] [(1, 2)] h (am_wI hq1 1 2 (nI (nx tl tp a + 1))) := hf1.tr (Fx.wI (Or.inr (by decide)))
      have hRk := hR.fx hk1 (by decide)
      have hAk := hA1.mv (b := nx tl tp a + 1) (by omega)
      have hWk := hk1.Wd hW
      refine Eq_isn dX4_readAtom_7 (by decide) ?_
      refine Eam_nl (pc' := 8) (l' := [_, _, _, _]) rfl rfl ?_
      refine Eq_iln dX4_readAtom_8 rfl ?_
      refine Eq_bp (v := nI 91) dX4_readAtom_9 rfl ?_
      refine Et_ic_ne 57 dX4_readAtom_11 rfl (by exact fun z => e ((oNlt (fun k hk => by have := h2 k hk; omega) 91 (by omega)).mp z)) ?_
      refine Eq_iln dX4_readAtom_57 rfl ?_
      refine Eq_S1 (N := m_X3_letterOf) dX4_readAtom_58 lk_X4_83 mS_X3_letterOf ((by have z := c_letterOf (h := hq1) h2; rw [hj] at z; exact z)) (by omega) (Nat.le_of_ble_eq_true rfl) (Nat.le_of_ble_eq_true rfl) ?_
      refine Eq_ic (v := -1) dX4_readAtom_61 rfl ?_
      refine Ef_ic_eq dX4_readAtom_62 (tgt := 80) rfl (by exact nI_m1 (by omega)) ?_
      refine Eq_aln dX4_readAtom_65 rfl ?_
      refine Eq_getR dX4_readAtom_66 fl_X4_9 (ws_6 hW1) rfl (wp_6_0 hW1) ?_
      refine Eq_V0 (N := m_X9_step) dX4_readAtom_69 lk_X4_74 mV_X9_step (c_step hW1 hA1) (by omega) (ws_1 hW1) rfl (by decide) (Nat.le_of_ble_eq_true rfl) (Nat.le_of_ble_eq_true rfl) ?_
      refine Eq_aln dX4_readAtom_72 rfl ?_
      refine Eq_iln dX4_readAtom_73 rfl ?_
      refine Eam_x_pu dX4_readAtom_74 rfl ?_
      refine Eq_W1 (N := m_X4_write) dX4_readAtom_75 lk_X4_54 mV_X4_write (c_write hWk hRk (by omega)) (by omega) (ws_6 hW1) rfl (by decide) (Nat.le_of_ble_eq_true rfl) (Nat.le_of_ble_eq_true rfl) (fun vq hq1 hq2 => ?_)
      obtain ⟨rfl, hf2, hR2⟩ := hq2
      refine Eq_ic (v := nI 1) dX4_readAtom_78 rfl ?_
      first | refine Eq_zrn dX4_readAtom_79 rfl (by first | omega | exact b2_le) ?_ | refine Eq_zr dX4_readAtom_79 rfl (by first | exact Or.inl rfl | exact Or.inr rfl | assumption) ?_
      rw [hjc] at hR2
      exact ⟨(hk1.mono (by decide) (by decide)).tr (hf2.mono (by decide) (by decide)), rfl, hAk.fx hf2 (by decide), hR2⟩
    | none =>
      dsimp only
      have hn := num_le (tp := tp) (d := 4) hx2
      cases hv : (num tl tp 4 (nx tl tp a)).2 with
      | none =>
        refine Eq_aln dX4_readAtom_0 rfl ?_
        refine Eq_getR dX4_readAtom_1 fl_X4_9 (ws_6 hW) rfl (wp_6_0 hW) ?_
        refine Eq_W0 (N := m_X9_next) dX4_readAtom_4 lk_X4_36 mV_X9_next (c_next hW hA) (by omega) (ws_1 hW) rfl (by decide) (Nat.le_of_ble_eq_true rfl) (Nat.le_of_ble_eq_true rfl) (fun vq hq1 hq2 => ?_)
        obtain ⟨rfl, hf1, hA1⟩ := hq2
        have hW1 := hf1.Wd hW
        have hR1 := hR.fx hf1 (by decide)
        refine Eq_isn dX4_readAtom_7 (by decide) ?_
        refine Eam_nl (pc' := 8) (l' := [_, _, _, _]) rfl rfl ?_
        refine Eq_iln dX4_readAtom_8 rfl ?_
        refine Eq_bp (v := nI 91) dX4_readAtom_9 rfl ?_
        refine Et_ic_ne 57 dX4_readAtom_11 rfl (by exact fun z => e ((oNlt (fun k hk => by have := h2 k hk; omega) 91 (by omega)).mp z)) ?_
        refine Eq_iln dX4_readAtom_57 rfl ?_
        refine Eq_S1 (N := m_X3_letterOf) dX4_readAtom_58 lk_X4_83 mS_X3_letterOf ((by have z := c_letterOf (h := hq1) h2; rw [hj] at z; exact z)) (by omega) (Nat.le_of_ble_eq_true rfl) (Nat.le_of_ble_eq_true rfl) ?_
        refine Eq_ic (v := -1) dX4_readAtom_61 rfl ?_
        refine Et_ic_eq 80 dX4_readAtom_62 rfl (by rfl) ?_
        refine Eq_aln dX4_readAtom_80 rfl ?_
        refine Eq_getR dX4_readAtom_81 fl_X4_9 (ws_6 hW1) rfl (wp_6_0 hW1) ?_
        refine Eq_ic (v := nI 4) dX4_readAtom_84 rfl ?_
        refine Eq_W1 (N := m_X9_number) dX4_readAtom_85 lk_X4_87 mV_X9_number (c_number hW1 hA1 (d := 4) (by omega)) (by omega) (ws_1 hW1) rfl (by decide) (Nat.le_of_ble_eq_true rfl) (Nat.le_of_ble_eq_true rfl) (fun vq hq1 hq2 => ?_)
        rw [hv] at hq2
        obtain ⟨rfl, hf2, hA2⟩ := hq2
        refine Eq_isn dX4_readAtom_88 (by decide) ?_
        refine Eam_nl (pc' := 89) (l' := [_, _, _, _]) rfl rfl ?_
        refine Eq_iln dX4_readAtom_89 rfl ?_
        refine Eq_ic (v := -1) dX4_readAtom_90 rfl ?_
        refine Ef_ic_ne dX4_readAtom_91 (tgt := 96) rfl (by rfl) ?_
        refine Eq_ic (v := nI 0) dX4_readAtom_94 rfl ?_
        first | refine Eq_zrn dX4_readAtom_95 rfl (by first | omega | exact b2_le) ?_ | refine Eq_zr dX4_readAtom_95 rfl (by first | exact Or.inl rfl | exact Or.inr rfl | assumption) ?_
        exact ⟨(hf1.mono (by decide) (by decide)).tr (hf2.mono (by decide) (by decide)), rfl, hA2⟩
      | some v =>
        have hv1 := (hn.2.2 v hv).1
        have hv2 := (hn.2.2 v hv).2 (by omega)
        refine Eq_aln dX4_readAtom_0 rfl ?_
        refine Eq_getR dX4_readAtom_1 fl_X4_9 (ws_6 hW) rfl (wp_6_0 hW) ?_
        refine Eq_W0 (N := m_X9_next) dX4_readAtom_4 lk_X4_36 mV_X9_next (c_next hW hA) (by omega) (ws_1 hW) rfl (by decide) (Nat.le_of_ble_eq_true rfl) (Nat.le_of_ble_eq_true rfl) (fun vq hq1 hq2 => ?_)
        obtain ⟨rfl, hf1, hA1⟩ := hq2
        have hW1 := hf1.Wd hW
        have hR1 := hR.fx hf1 (by decide)
        refine Eq_isn dX4_readAtom_7 (by decide) ?_
        refine Eam_nl (pc' := 8) (l' := [_, _, _, _]) rfl rfl ?_
        refine Eq_iln dX4_readAtom_8 rfl ?_
        refine Eq_bp (v := nI 91) dX4_readAtom_9 rfl ?_
        refine Et_ic_ne 57 dX4_readAtom_11 rfl (by exact fun z => e ((oNlt (fun k hk => by have := h2 k hk; omega) 91 (by omega)).mp z)) ?_
        refine Eq_iln dX4_readAtom_57 rfl ?_
        refine Eq_S1 (N := m_X3_letterOf) dX4_readAtom_58 lk_X4_83 mS_X3_letterOf ((by have z := c_letterOf (h := hq1) h2; rw [hj] at z; exact z)) (by omega) (Nat.le_of_ble_eq_true rfl) (Nat.le_of_ble_eq_true rfl) ?_
        refine Eq_ic (v := -1) dX4_readAtom_61 rfl ?_
        refine Et_ic_eq 80 dX4_readAtom_62 rfl (by rfl) ?_
        refine Eq_aln dX4_readAtom_80 rfl ?_
        refine Eq_getR dX4_readAtom_81 fl_X4_9 (ws_6 hW1) rfl (wp_6_0 hW1) ?_
        refine Eq_ic (v := nI 4) dX4_readAtom_84 rfl ?_
        refine Eq_W1 (N := m_X9_number) dX4_readAtom_85 lk_X4_87 mV_X9_number (c_number hW1 hA1 (d := 4) (by omega)) (by omega) (ws_1 hW1) rfl (by decide) (Nat.le_of_ble_eq_true rfl) (Nat.le_of_ble_eq_true rfl) (fun vq hq1 hq2 => ?_)
        rw [hv] at hq2
        obtain ⟨rfl, hf2, hA2⟩ := hq2
        have hW2 := hf2.Wd hW1
        have hR2 := hR1.fx hf2 (by decide)
        refine Eq_isn dX4_readAtom_88 (by decide) ?_
        refine Eam_nl (pc' := 89) (l' := [_, _, _, _]) rfl rfl ?_
        refine Eq_iln dX4_readAtom_89 rfl ?_
        refine Eq_ic (v := -1) dX4_readAtom_90 rfl ?_
        refine Et_ic_ne 96 dX4_readAtom_91 rfl (by exact nI_m1 (by omega)) ?_
        refine Eq_aln dX4_readAtom_96 rfl ?_
        refine Eq_iln dX4_readAtom_97 rfl ?_
        refine Eq_W1 (N := m_X4_write) dX4_readAtom_98 lk_X4_54 mV_X4_write (c_write hW2 hR2 (by omega)) (by omega) (ws_6 hW2) rfl (by decide) (Nat.le_of_ble_eq_true rfl) (Nat.le_of_ble_eq_true rfl) (fun vq hq1 hq2 => ?_)
        obtain ⟨rfl, hf3, hR3⟩ := hq2
        refine Eq_ic (v := nI 1) dX4_readAtom_101 rfl ?_
        first | refine Eq_zrn dX4_readAtom_102 rfl (by first | omega | exact b2_le) ?_ | refine Eq_zr dX4_readAtom_102 rfl (by first | exact Or.inl rfl | exact Or.inr rfl | assumption) ?_
        exact ⟨(hf1.mono (by decide) (by decide)).tr ((hf2.mono (by decide) (by decide)).tr (hf3.mono (by decide) (by decide))), rfl, hA2.fx hf3 (by decide), hR3⟩
theorem map3 {l : List Int32} {ts us : Tks} {t : Nat × Nat} : l ++ ts.map cs ++ us.map cs ++ [cs t] = l ++ (ts ++ us ++ [t]).map cs := by simp
set_option maxHeartbeats 2000000 in
theorem c_readTerm_lp {tl : Nat} {tp : Nat → Nat} {d e : Nat} {p : Nat → Rd} (hs : SC tl tp m_X4_readAtom d [.ref 6, .int (nI e)] p) (hp : Prs tl p) (hd : 2 ≤ d) {l : List Int32} : ∀ k b ts h j, tl < b + k → 2 * j ≤ b → Wd h → TA h tl tp b → WR h (l ++ ts.map cs) → (l ++ ts.map cs).length ≤ b → ∀ l2, am_E (d + 1) m_X4_readTerm 12 [some (.ref 6), some (.int (nI e)), some (.int (nI j)), l2] [] h (PQ tl tp (chn tl tp opT p k b ts) l h) := by
  intro k
  induction k with
  | zero => intro b ts h j hk hj hW hA; have := hA.2.2; omega
  | succ k ih =>
    intro b ts h j hk hj hW hA hR hl l2
    have h2 := sgn256 hA (nx tl tp b)
    have hx1 := nx_ge (tl := tl) (tp := tp) (a := b)
    have hx2 := nx_le (tp := tp) hA.2.2
    have htl := hA.1.2.1
    by_cases ec : sgn tl tp (nx tl tp b) = some 42
    · have hlt := (sgn_lt ec).1
      have ho : opT (sgn tl tp (nx tl tp b)) = some 4 := by rw [ec]; rfl
      rw [chn_s ho]
      have hpi := hp (nx tl tp b + 1) (by omega)
      cases hq : (p (nx tl tp b + 1)).2 with
      | none =>
        rw [bd_n hq]
        refine Eq_iln dX4_readTerm_12 rfl ?_
        refine Eq_sp (v := nI 160) dX4_readTerm_13 rfl ?_
        refine Ef_ic_ge dX4_readTerm_16 (tgt := 70) rfl (by exact nI_ge (b := 160) (by omega) (by omega)) ?_
        refine Eq_aln dX4_readTerm_19 rfl ?_
        refine Eq_getR dX4_readTerm_20 fl_X4_9 (ws_6 hW) rfl (wp_6_0 hW) ?_
        refine Eq_W0 (N := m_X9_next) dX4_readTerm_23 lk_X4_36 mV_X9_next (c_next hW hA) (by omega) (ws_1 hW) rfl (by decide) (Nat.le_of_ble_eq_true rfl) (Nat.le_of_ble_eq_true rfl) (fun vq hq1 hq2 => ?_)
        obtain ⟨rfl, hf1, hA1⟩ := hq2
        have hW1 := hf1.Wd hW
        have hk1 : Fx [] [(1, 2)] h (am_wI hq1 1 2 (nI (nx tl tp b + 1))) := hf1.tr (Fx.wI (Or.inr (by decide)))
        have hRk := hR.fx hk1 (by decide)
        have hAk := hA1.mv (b := nx tl tp b + 1) (by omega)
        have hWk := hk1.Wd hW
        refine Eq_isn dX4_readTerm_26 (by decide) ?_
        refine Eam_nl (pc' := 27) (l' := [_, _, _, _]) rfl rfl ?_
        refine Eq_iln dX4_readTerm_27 rfl ?_
        refine Eq_bp (v := nI 42) dX4_readTerm_28 rfl ?_
        refine Et_ic_eq 41 dX4_readTerm_30 rfl (by rw [ec]; rfl) ?_
        refine Eq_aln dX4_readTerm_41 rfl ?_
        refine Eq_getR dX4_readTerm_42 fl_X4_9 (ws_6 hW1) rfl (wp_6_0 hW1) ?_
        refine Eq_V0 (N := m_X9_step) dX4_readTerm_45 lk_X4_74 mV_X9_step (c_step hW1 hA1) (by omega) (ws_1 hW1) rfl (by decide) (Nat.le_of_ble_eq_true rfl) (Nat.le_of_ble_eq_true rfl) ?_
        refine Eq_aln dX4_readTerm_48 rfl ?_
        refine Eq_iln dX4_readTerm_49 rfl ?_
        refine Eq_W1 (N := m_X4_readAtom) dX4_readTerm_50 lk_X4_80 mV_X4_readAtom (hs _ _ _ hWk hAk hRk (by omega)) (by omega) (ws_6 hW1) rfl (by decide) (Nat.le_of_ble_eq_true rfl) (Nat.le_of_ble_eq_true rfl) (fun vq hq1 hq2 => ?_)
        obtain ⟨rfl, hf2, hA2⟩ := hq2.n hq
        refine Ef_if_ne dX4_readTerm_53 (tgt := 58) rfl (by rfl) ?_
        refine Eq_ic (v := nI 0) dX4_readTerm_56 rfl ?_
        first | refine Eq_zrn dX4_readTerm_57 rfl (by first | omega | exact b2_le) ?_ | refine Eq_zr dX4_readTerm_57 rfl (by first | exact Or.inl rfl | exact Or.inr rfl | assumption) ?_
        exact ⟨(hk1.mono (by decide) (by decide)).tr hf2, rfl, hA2⟩
      | some us =>
        rw [bd_s hq]
        have hul := hpi.2.2 us hq
        refine Eq_iln dX4_readTerm_12 rfl ?_
        refine Eq_sp (v := nI 160) dX4_readTerm_13 rfl ?_
        refine Ef_ic_ge dX4_readTerm_16 (tgt := 70) rfl (by exact nI_ge (b := 160) (by omega) (by omega)) ?_
        refine Eq_aln dX4_readTerm_19 rfl ?_
        refine Eq_getR dX4_readTerm_20 fl_X4_9 (ws_6 hW) rfl (wp_6_0 hW) ?_
        refine Eq_W0 (N := m_X9_next) dX4_readTerm_23 lk_X4_36 mV_X9_next (c_next hW hA) (by omega) (ws_1 hW) rfl (by decide) (Nat.le_of_ble_eq_true rfl) (Nat.le_of_ble_eq_true rfl) (fun vq hq1 hq2 => ?_)
        obtain ⟨rfl, hf1, hA1⟩ := hq2
        have hW1 := hf1.Wd hW
        have hk1 : Fx [] [(1, 2)] h (am_wI hq1 1 2 (nI (nx tl tp b + 1))) := hf1.tr (Fx.wI (Or.inr (by decide)))
        have hRk := hR.fx hk1 (by decide)
        have hAk := hA1.mv (b := nx tl tp b + 1) (by omega)
        have hWk := hk1.Wd hW
        refine Eq_isn dX4_readTerm_26 (by decide) ?_
        refine Eam_nl (pc' := 27) (l' := [_, _, _, _]) rfl rfl ?_
        refine Eq_iln dX4_readTerm_27 rfl ?_
        refine Eq_bp (v := nI 42) dX4_readTerm_28 rfl ?_
        refine Et_ic_eq 41 dX4_readTerm_30 rfl (by rw [ec]; rfl) ?_
        refine Eq_aln dX4_readTerm_41 rfl ?_
        refine Eq_getR dX4_readTerm_42 fl_X4_9 (ws_6 hW1) rfl (wp_6_0 hW1) ?_
        refine Eq_V0 (N := m_X9_step) dX4_readTerm_45 lk_X4_74 mV_X9_step (c_step hW1 hA1) (by omega) (ws_1 hW1) rfl (by decide) (Nat.le_of_ble_eq_true rfl) (Nat.le_of_ble_eq_true rfl) ?_
        refine Eq_aln dX4_readTerm_48 rfl ?_
        refine Eq_iln dX4_readTerm_49 rfl ?_
        refine Eq_W1 (N := m_X4_readAtom) dX4_readTerm_50 lk_X4_80 mV_X4_readAtom (hs _ _ _ hWk hAk hRk (by omega)) (by omega) (ws_6 hW1) rfl (by decide) (Nat.le_of_ble_eq_true rfl) (Nat.le_of_ble_eq_true rfl) (fun vq hq1 hq2 => ?_)
        obtain ⟨rfl, hf2, hA2, hR2⟩ := hq2.s hq
        have hW2 := hf2.Wd hWk
        refine Et_if_ne 58 dX4_readTerm_53 rfl (by exact zf1) ?_
        refine Eq_aln dX4_readTerm_58 rfl ?_
        refine Eq_iln dX4_readTerm_59 rfl ?_
        refine Eam_x_pu dX4_readTerm_60 rfl ?_
        refine Eq_W1 (N := m_X4_write) dX4_readTerm_61 lk_X4_54 mV_X4_write (c_write hW2 hR2 (by simp only [List.length_append, List.length_map] at hl ⊢; omega)) (by omega) (ws_6 hW2) rfl (by decide) (Nat.le_of_ble_eq_true rfl) (Nat.le_of_ble_eq_true rfl) (fun vq hq1 hq2 => ?_)
        obtain ⟨rfl, hf3, hR3⟩ := hq2
        refine Eq_inc dX4_readTerm_64 rfl (by decide) ?_
        refine Eam_nl (pc' := 67) (l' := [_, _, _, _]) rfl rfl ?_
        refine Eam_x_goto (tgt := 12) dX4_readTerm_67 rfl ?_
        rw [ec] at hR3
        have hR4 : WR hq1 (l ++ (ts ++ us ++ [(4, 0)]).map cs) := by rw [← map3]; exact hR3
        obtain ⟨v5, h5, z1, z2⟩ := ih (p (nx tl tp b + 1)).1 (ts ++ us ++ [(4, 0)]) _ (j + 1) (by omega) (by omega) (hf3.Wd hW2) (hA2.fx hf3 (by decide)) hR4 (by simp only [List.length_append, List.length_map, List.length_cons, List.length_nil] at hl ⊢; omega) _
        exact ⟨v5, h5, z1, z2.tr ((hk1.mono (by decide) (by decide)).tr (hf2.tr (hf3.mono (by decide) (by decide))))⟩
    · have ed := ec
      clear ec
      by_cases ec : sgn tl tp (nx tl tp b) = some 47
      · have hlt := (sgn_lt ec).1
        have ho : opT (sgn tl tp (nx tl tp b)) = some 5 := by rw [ec]; rfl
        rw [chn_s ho]
        have hpi := hp (nx tl tp b + 1) (by omega)
        cases hq : (p (nx tl tp b + 1)).2 with
        | none =>
          rw [bd_n hq]
          refine Eq_iln dX4_readTerm_12 rfl ?_
          refine Eq_sp (v := nI 160) dX4_readTerm_13 rfl ?_
          refine Ef_ic_ge dX4_readTerm_16 (tgt := 70) rfl (by exact nI_ge (b := 160) (by omega) (by omega)) ?_
          refine Eq_aln dX4_readTerm_19 rfl ?_
          refine Eq_getR dX4_readTerm_20 fl_X4_9 (ws_6 hW) rfl (wp_6_0 hW) ?_
          refine Eq_W0 (N := m_X9_next) dX4_readTerm_23 lk_X4_36 mV_X9_next (c_next hW hA) (by omega) (ws_1 hW) rfl (by decide) (Nat.le_of_ble_eq_true rfl) (Nat.le_of_ble_eq_true rfl) (fun vq hq1 hq2 => ?_)
          obtain ⟨rfl, hf1, hA1⟩ := hq2
          have hW1 := hf1.Wd hW
          have hk1 : Fx [] [(1, 2)] h (am_wI hq1 1 2 (nI (nx tl tp b + 1))) := hf1.tr (Fx.wI (Or.inr (by decide)))
          have hRk := hR.fx hk1 (by decide)
          have hAk := hA1.mv (b := nx tl tp b + 1) (by omega)
          have hWk := hk1.Wd hW
          refine Eq_isn dX4_readTerm_26 (by decide) ?_
          refine Eam_nl (pc' := 27) (l' := [_, _, _, _]) rfl rfl ?_
          refine Eq_iln dX4_readTerm_27 rfl ?_
          refine Eq_bp (v := nI 42) dX4_readTerm_28 rfl ?_
          refine Ef_ic_eq dX4_readTerm_30 (tgt := 41) rfl (by rw [ec]; exact fun z => absurd ((nI_eq (by omega) (by omega)).mp z) (by decide)) ?_
          refine Eq_iln dX4_readTerm_33 rfl ?_
          refine Eq_bp (v := nI 47) dX4_readTerm_34 rfl ?_
          refine Et_ic_eq 41 dX4_readTerm_36 rfl (by rw [ec]; rfl) ?_
          refine Eq_aln dX4_readTerm_41 rfl ?_
          refine Eq_getR dX4_readTerm_42 fl_X4_9 (ws_6 hW1) rfl (wp_6_0 hW1) ?_
          refine Eq_V0 (N := m_X9_step) dX4_readTerm_45 lk_X4_74 mV_X9_step (c_step hW1 hA1) (by omega) (ws_1 hW1) rfl (by decide) (Nat.le_of_ble_eq_true rfl) (Nat.le_of_ble_eq_true rfl) ?_
          refine Eq_aln dX4_readTerm_48 rfl ?_
          refine Eq_iln dX4_readTerm_49 rfl ?_
          refine Eq_W1 (N := m_X4_readAtom) dX4_readTerm_50 lk_X4_80 mV_X4_readAtom (hs _ _ _ hWk hAk hRk (by omega)) (by omega) (ws_6 hW1) rfl (by decide) (Nat.le_of_ble_eq_true rfl) (Nat.le_of_ble_eq_true rfl) (fun vq hq1 hq2 => ?_)
          obtain ⟨rfl, hf2, hA2⟩ := hq2.n hq
          refine Ef_if_ne dX4_readTerm_53 (tgt := 58) rfl (by rfl) ?_
          refine Eq_ic (v := nI 0) dX4_readTerm_56 rfl ?_
          first | refine Eq_zrn dX4_readTerm_57 rfl (by first | omega | exact b2_le) ?_ | refine Eq_zr dX4_readTerm_57 rfl (by first | exact Or.inl rfl | exact Or.inr rfl | assumption) ?_
          exact ⟨(hk1.mono (by decide) (by decide)).tr hf2, rfl, hA2⟩
        | some us =>
          rw [bd_s hq]
          have hul := hpi.2.2 us hq
          refine Eq_iln dX4_readTerm_12 rfl ?_
          refine Eq_sp (v := nI 160) dX4_readTerm_13 rfl ?_
          refine Ef_ic_ge dX4_readTerm_16 (tgt := 70) rfl (by exact nI_ge (b := 160) (by omega) (by omega)) ?_
          refine Eq_aln dX4_readTerm_19 rfl ?_
          refine Eq_getR dX4_readTerm_20 fl_X4_9 (ws_6 hW) rfl (wp_6_0 hW) ?_
          refine Eq_W0 (N := m_X9_next) dX4_readTerm_23 lk_X4_36 mV_X9_next (c_next hW hA) (by omega) (ws_1 hW) rfl (by decide) (Nat.le_of_ble_eq_true rfl) (Nat.le_of_ble_eq_true rfl) (fun vq hq1 hq2 => ?_)
          obtain ⟨rfl, hf1, hA1⟩ := hq2
          have hW1 := hf1.Wd hW
          have hk1 : Fx [] [(1, 2)] h (am_wI hq1 1 2 (nI (nx tl tp b + 1))) := hf1.tr (Fx.wI (Or.inr (by decide)))
          have hRk := hR.fx hk1 (by decide)
          have hAk := hA1.mv (b := nx tl tp b + 1) (by omega)
          have hWk := hk1.Wd hW
          refine Eq_isn dX4_readTerm_26 (by decide) ?_
          refine Eam_nl (pc' := 27) (l' := [_, _, _, _]) rfl rfl ?_
          refine Eq_iln dX4_readTerm_27 rfl ?_
          refine Eq_bp (v := nI 42) dX4_readTerm_28 rfl ?_
          refine Ef_ic_eq dX4_readTerm_30 (tgt := 41) rfl (by rw [ec]; exact fun z => absurd ((nI_eq (by omega) (by omega)).mp z) (by decide)) ?_
          refine Eq_iln dX4_readTerm_33 rfl ?_
          refine Eq_bp (v := nI 47) dX4_readTerm_34 rfl ?_
          refine Et_ic_eq 41 dX4_readTerm_36 rfl (by rw [ec]; rfl) ?_
          refine Eq_aln dX4_readTerm_41 rfl ?_
          refine Eq_getR dX4_readTerm_42 fl_X4_9 (ws_6 hW1) rfl (wp_6_0 hW1) ?_
          refine Eq_V0 (N := m_X9_step) dX4_readTerm_45 lk_X4_74 mV_X9_step (c_step hW1 hA1) (by omega) (ws_1 hW1) rfl (by decide) (Nat.le_of_ble_eq_true rfl) (Nat.le_of_ble_eq_true rfl) ?_
          refine Eq_aln dX4_readTerm_48 rfl ?_
          refine Eq_iln dX4_readTerm_49 rfl ?_
          refine Eq_W1 (N := m_X4_readAtom) dX4_readTerm_50 lk_X4_80 mV_X4_readAtom (hs _ _ _ hWk hAk hRk (by omega)) (by omega) (ws_6 hW1) rfl (by decide) (Nat.le_of_ble_eq_true rfl) (Nat.le_of_ble_eq_true rfl) (fun vq hq1 hq2 => ?_)
          obtain ⟨rfl, hf2, hA2, hR2⟩ := hq2.s hq
          have hW2 := hf2.Wd hWk
          refine Et_if_ne 58 dX4_readTerm_53 rfl (by exact zf1) ?_
          refine Eq_aln dX4_readTerm_58 rfl ?_
          refine Eq_iln dX4_readTerm_59 rfl ?_
          refine Eam_x_pu dX4_readTerm_60 rfl ?_
          refine Eq_W1 (N := m_X4_write) dX4_readTerm_61 lk_X4_54 mV_X4_write (c_write hW2 hR2 (by simp only [List.length_append, List.length_map] at hl ⊢; omega)) (by omega) (ws_6 hW2) rfl (by decide) (Nat.le_of_ble_eq_true rfl) (Nat.le_of_ble_eq_true rfl) (fun vq hq1 hq2 => ?_)
          obtain ⟨rfl, hf3, hR3⟩ := hq2
          refine Eq_inc dX4_readTerm_64 rfl (by decide) ?_
          refine Eam_nl (pc' := 67) (l' := [_, _, _, _]) rfl rfl ?_
          refine Eam_x_goto (tgt := 12) dX4_readTerm_67 rfl ?_
          rw [ec] at hR3
          have hR4 : WR hq1 (l ++ (ts ++ us ++ [(5, 0)]).map cs) := by rw [← map3]; exact hR3
          obtain ⟨v5, h5, z1, z2⟩ := ih (p (nx tl tp b + 1)).1 (ts ++ us ++ [(5, 0)]) _ (j + 1) (by omega) (by omega) (hf3.Wd hW2) (hA2.fx hf3 (by decide)) hR4 (by simp only [List.length_append, List.length_map, List.length_cons, List.length_nil] at hl ⊢; omega) _
          exact ⟨v5, h5, z1, z2.tr ((hk1.mono (by decide) (by decide)).tr (hf2.tr (hf3.mono (by decide) (by decide))))⟩
      · have ho : opT (sgn tl tp (nx tl tp b)) = none := by unfold opT; rw [if_neg ed, if_neg ec]
        rw [chn_n ho]
        refine Eq_iln dX4_readTerm_12 rfl ?_
        refine Eq_sp (v := nI 160) dX4_readTerm_13 rfl ?_
        refine Ef_ic_ge dX4_readTerm_16 (tgt := 70) rfl (by exact nI_ge (b := 160) (by omega) (by omega)) ?_
        refine Eq_aln dX4_readTerm_19 rfl ?_
        refine Eq_getR dX4_readTerm_20 fl_X4_9 (ws_6 hW) rfl (wp_6_0 hW) ?_
        refine Eq_W0 (N := m_X9_next) dX4_readTerm_23 lk_X4_36 mV_X9_next (c_next hW hA) (by omega) (ws_1 hW) rfl (by decide) (Nat.le_of_ble_eq_true rfl) (Nat.le_of_ble_eq_true rfl) (fun vq hq1 hq2 => ?_)
        obtain ⟨rfl, hf1, hA1⟩ := hq2
        have hW1 := hf1.Wd hW
        have hR1 := hR.fx hf1 (by decide)
        refine Eq_isn dX4_readTerm_26 (by decide) ?_
        refine Eam_nl (pc' := 27) (l' := [_, _, _, _]) rfl rfl ?_
        refine Eq_iln dX4_readTerm_27 rfl ?_
        refine Eq_bp (v := nI 42) dX4_readTerm_28 rfl ?_
        refine Ef_ic_eq dX4_readTerm_30 (tgt := 41) rfl (by exact fun z => ed ((oNlt (fun k hk => by have := h2 k hk; omega) 42 (by omega)).mp z)) ?_
        refine Eq_iln dX4_readTerm_33 rfl ?_
        refine Eq_bp (v := nI 47) dX4_readTerm_34 rfl ?_
        refine Ef_ic_eq dX4_readTerm_36 (tgt := 41) rfl (by exact fun z => ec ((oNlt (fun k hk => by have := h2 k hk; omega) 47 (by omega)).mp z)) ?_
        refine Eq_ic (v := nI 1) dX4_readTerm_39 rfl ?_
        first | refine Eq_zrn dX4_readTerm_40 rfl (by first | omega | exact b2_le) ?_ | refine Eq_zr dX4_readTerm_40 rfl (by first | exact Or.inl rfl | exact Or.inr rfl | assumption) ?_
        exact ⟨hf1.mono (by decide) (by decide), rfl, hA1, hR1⟩
set_option maxHeartbeats 2000000 in
theorem c_readTerm {tl : Nat} {tp : Nat → Nat} {d e : Nat} {p : Nat → Rd} (hs : SC tl tp m_X4_readAtom d [.ref 6, .int (nI e)] p) (hp : Prs tl p) (hd : 2 ≤ d) : SC tl tp m_X4_readTerm (d + 1) [.ref 6, .int (nI e)] (chs tl tp opT p) := by
  intro h a l hW hA hR hl
  have htl := hA.1.2.1
  have hpi := hp a hA.2.2
  unfold chs
  cases hq : (p a).2 with
  | none =>
    rw [bd_n hq]
    refine Eq_aln dX4_readTerm_0 rfl ?_
    refine Eq_iln dX4_readTerm_1 rfl ?_
    refine Eq_W1 (N := m_X4_readAtom) dX4_readTerm_2 lk_X4_80 mV_X4_readAtom (hs _ _ _ hW hA hR hl) (by omega) (ws_6 hW) rfl (by decide) (Nat.le_of_ble_eq_true rfl) (Nat.le_of_ble_eq_true rfl) (fun vq hq1 hq2 => ?_)
    obtain ⟨rfl, hf2, hA2⟩ := hq2.n hq
    refine Ef_if_ne dX4_readTerm_5 (tgt := 10) rfl (by rfl) ?_
    refine Eq_ic (v := nI 0) dX4_readTerm_8 rfl ?_
    first | refine Eq_zrn dX4_readTerm_9 rfl (by first | omega | exact b2_le) ?_ | refine Eq_zr dX4_readTerm_9 rfl (by first | exact Or.inl rfl | exact Or.inr rfl | assumption) ?_
    exact ⟨hf2, rfl, hA2⟩
  | some ts =>
    rw [bd_s hq]
    have hul := hpi.2.2 ts hq
    refine Eq_aln dX4_readTerm_0 rfl ?_
    refine Eq_iln dX4_readTerm_1 rfl ?_
    refine Eq_W1 (N := m_X4_readAtom) dX4_readTerm_2 lk_X4_80 mV_X4_readAtom (hs _ _ _ hW hA hR hl) (by omega) (ws_6 hW) rfl (by decide) (Nat.le_of_ble_eq_true rfl) (Nat.le_of_ble_eq_true rfl) (fun vq hq1 hq2 => ?_)
    obtain ⟨rfl, hf2, hA2, hR2⟩ := hq2.s hq
    refine Et_if_ne 10 dX4_readTerm_5 rfl (by exact zf1) ?_
    refine Eq_ic (v := nI 0) dX4_readTerm_10 rfl ?_
    refine Eq_isn dX4_readTerm_11 (by decide) ?_
    refine Eam_nl (pc' := 12) (l' := [_, _, _, _]) rfl rfl ?_
    obtain ⟨v5, h5, z1, z2⟩ := c_readTerm_lp hs hp hd 161 (p a).1 ts _ 0 (by omega) (by omega) (hf2.Wd hW) hA2 hR2 (by simp only [List.length_append, List.length_map]; omega) _
    exact ⟨v5, h5, z1, z2.tr hf2⟩
set_option maxHeartbeats 2000000 in
theorem c_readSum_lp {tl : Nat} {tp : Nat → Nat} {d e : Nat} {p : Nat → Rd} (hs : SC tl tp m_X4_readTerm d [.ref 6, .int (nI e)] p) (hp : Prs tl p) (hd : 2 ≤ d) {l : List Int32} : ∀ k b ts h j, tl < b + k → 2 * j ≤ b → Wd h → TA h tl tp b → WR h (l ++ ts.map cs) → (l ++ ts.map cs).length ≤ b → ∀ l2, am_E (d + 1) m_X4_readSum 12 [some (.ref 6), some (.int (nI e)), some (.int (nI j)), l2] [] h (PQ tl tp (chn tl tp opS p k b ts) l h) := by
  intro k
  induction k with
  | zero => intro b ts h j hk hj hW hA; have := hA.2.2; omega
  | succ k ih =>
    intro b ts h j hk hj hW hA hR hl l2
    have h2 := sgn256 hA (nx tl tp b)
    have hx1 := nx_ge (tl := tl) (tp := tp) (a := b)
    have hx2 := nx_le (tp := tp) hA.2.2
    have htl := hA.1.2.1
    by_cases ec : sgn tl tp (nx tl tp b) = some 43
    · have hlt := (sgn_lt ec).1
      have ho : opS (sgn tl tp (nx tl tp b)) = some 2 := by rw [ec]; rfl
      rw [chn_s ho]
      have hpi := hp (nx tl tp b + 1) (by omega)
      cases hq : (p (nx tl tp b + 1)).2 with
      | none =>
        rw [bd_n hq]
        refine Eq_iln dX4_readSum_12 rfl ?_
        refine Eq_sp (v := nI 160) dX4_readSum_13 rfl ?_
        refine Ef_ic_ge dX4_readSum_16 (tgt := 70) rfl (by exact nI_ge (b := 160) (by omega) (by omega)) ?_
        refine Eq_aln dX4_readSum_19 rfl ?_
        refine Eq_getR dX4_readSum_20 fl_X4_9 (ws_6 hW) rfl (wp_6_0 hW) ?_
        refine Eq_W0 (N := m_X9_next) dX4_readSum_23 lk_X4_36 mV_X9_next (c_next hW hA) (by omega) (ws_1 hW) rfl (by decide) (Nat.le_of_ble_eq_true rfl) (Nat.le_of_ble_eq_true rfl) (fun vq hq1 hq2 => ?_)
        obtain ⟨rfl, hf1, hA1⟩ := hq2
        have hW1 := hf1.Wd hW
        have hk1 : Fx [] [(1, 2)] h (am_wI hq1 1 2 (nI (nx tl tp b + 1))) := hf1.tr (Fx.wI (Or.inr (by decide)))
        have hRk := hR.fx hk1 (by decide)
        have hAk := hA1.mv (b := nx tl tp b + 1) (by omega)
        have hWk := hk1.Wd hW
        refine Eq_isn dX4_readSum_26 (by decide) ?_
        refine Eam_nl (pc' := 27) (l' := [_, _, _, _]) rfl rfl ?_
        refine Eq_iln dX4_readSum_27 rfl ?_
        refine Eq_bp (v := nI 43) dX4_readSum_28 rfl ?_
        refine Et_ic_eq 41 dX4_readSum_30 rfl (by rw [ec]; rfl) ?_
        refine Eq_aln dX4_readSum_41 rfl ?_
        refine Eq_getR dX4_readSum_42 fl_X4_9 (ws_6 hW1) rfl (wp_6_0 hW1) ?_
        refine Eq_V0 (N := m_X9_step) dX4_readSum_45 lk_X4_74 mV_X9_step (c_step hW1 hA1) (by omega) (ws_1 hW1) rfl (by decide) (Nat.le_of_ble_eq_true rfl) (Nat.le_of_ble_eq_true rfl) ?_
        refine Eq_aln dX4_readSum_48 rfl ?_
        refine Eq_iln dX4_readSum_49 rfl ?_
        refine Eq_W1 (N := m_X4_readTerm) dX4_readSum_50 lk_X4_77 mV_X4_readTerm (hs _ _ _ hWk hAk hRk (by omega)) (by omega) (ws_6 hW1) rfl (by decide) (Nat.le_of_ble_eq_true rfl) (Nat.le_of_ble_eq_true rfl) (fun vq hq1 hq2 => ?_)
        obtain ⟨rfl, hf2, hA2⟩ := hq2.n hq
        refine Ef_if_ne dX4_readSum_53 (tgt := 58) rfl (by rfl) ?_
        refine Eq_ic (v := nI 0) dX4_readSum_56 rfl ?_
        first | refine Eq_zrn dX4_readSum_57 rfl (by first | omega | exact b2_le) ?_ | refine Eq_zr dX4_readSum_57 rfl (by first | exact Or.inl rfl | exact Or.inr rfl | assumption) ?_
        exact ⟨(hk1.mono (by decide) (by decide)).tr hf2, rfl, hA2⟩
      | some us =>
        rw [bd_s hq]
        have hul := hpi.2.2 us hq
        refine Eq_iln dX4_readSum_12 rfl ?_
        refine Eq_sp (v := nI 160) dX4_readSum_13 rfl ?_
        refine Ef_ic_ge dX4_readSum_16 (tgt := 70) rfl (by exact nI_ge (b := 160) (by omega) (by omega)) ?_
        refine Eq_aln dX4_readSum_19 rfl ?_
        refine Eq_getR dX4_readSum_20 fl_X4_9 (ws_6 hW) rfl (wp_6_0 hW) ?_
        refine Eq_W0 (N := m_X9_next) dX4_readSum_23 lk_X4_36 mV_X9_next (c_next hW hA) (by omega) (ws_1 hW) rfl (by decide) (Nat.le_of_ble_eq_true rfl) (Nat.le_of_ble_eq_true rfl) (fun vq hq1 hq2 => ?_)
        obtain ⟨rfl, hf1, hA1⟩ := hq2
        have hW1 := hf1.Wd hW
        have hk1 : Fx [] [(1, 2)] h (am_wI hq1 1 2 (nI (nx tl tp b + 1))) := hf1.tr (Fx.wI (Or.inr (by decide)))
        have hRk := hR.fx hk1 (by decide)
        have hAk := hA1.mv (b := nx tl tp b + 1) (by omega)
        have hWk := hk1.Wd hW
        refine Eq_isn dX4_readSum_26 (by decide) ?_
        refine Eam_nl (pc' := 27) (l' := [_, _, _, _]) rfl rfl ?_
        refine Eq_iln dX4_readSum_27 rfl ?_
        refine Eq_bp (v := nI 43) dX4_readSum_28 rfl ?_
        refine Et_ic_eq 41 dX4_readSum_30 rfl (by rw [ec]; rfl) ?_
        refine Eq_aln dX4_readSum_41 rfl ?_
        refine Eq_getR dX4_readSum_42 fl_X4_9 (ws_6 hW1) rfl (wp_6_0 hW1) ?_
        refine Eq_V0 (N := m_X9_step) dX4_readSum_45 lk_X4_74 mV_X9_step (c_step hW1 hA1) (by omega) (ws_1 hW1) rfl (by decide) (Nat.le_of_ble_eq_true rfl) (Nat.le_of_ble_eq_true rfl) ?_
        refine Eq_aln dX4_readSum_48 rfl ?_
        refine Eq_iln dX4_readSum_49 rfl ?_
        refine Eq_W1 (N := m_X4_readTerm) dX4_readSum_50 lk_X4_77 mV_X4_readTerm (hs _ _ _ hWk hAk hRk (by omega)) (by omega) (ws_6 hW1) rfl (by decide) (Nat.le_of_ble_eq_true rfl) (Nat.le_of_ble_eq_true rfl) (fun vq hq1 hq2 => ?_)
        obtain ⟨rfl, hf2, hA2, hR2⟩ := hq2.s hq
        have hW2 := hf2.Wd hWk
        refine Et_if_ne 58 dX4_readSum_53 rfl (by exact zf1) ?_
        refine Eq_aln dX4_readSum_58 rfl ?_
        refine Eq_iln dX4_readSum_59 rfl ?_
        refine Eam_x_pu dX4_readSum_60 rfl ?_
        refine Eq_W1 (N := m_X4_write) dX4_readSum_61 lk_X4_54 mV_X4_write (c_write hW2 hR2 (by simp only [List.length_append, List.length_map] at hl ⊢; omega)) (by omega) (ws_6 hW2) rfl (by decide) (Nat.le_of_ble_eq_true rfl) (Nat.le_of_ble_eq_true rfl) (fun vq hq1 hq2 => ?_)
        obtain ⟨rfl, hf3, hR3⟩ := hq2
        refine Eq_inc dX4_readSum_64 rfl (by decide) ?_
        refine Eam_nl (pc' := 67) (l' := [_, _, _, _]) rfl rfl ?_
        refine Eam_x_goto (tgt := 12) dX4_readSum_67 rfl ?_
        rw [ec] at hR3
        have hR4 : WR hq1 (l ++ (ts ++ us ++ [(2, 0)]).map cs) := by rw [← map3]; exact hR3
        obtain ⟨v5, h5, z1, z2⟩ := ih (p (nx tl tp b + 1)).1 (ts ++ us ++ [(2, 0)]) _ (j + 1) (by omega) (by omega) (hf3.Wd hW2) (hA2.fx hf3 (by decide)) hR4 (by simp only [List.length_append, List.length_map, List.length_cons, List.length_nil] at hl ⊢; omega) _
        exact ⟨v5, h5, z1, z2.tr ((hk1.mono (by decide) (by decide)).tr (hf2.tr (hf3.mono (by decide) (by decide))))⟩
    · have ed := ec
      clear ec
      by_cases ec : sgn tl tp (nx tl tp b) = some 45
      · have hlt := (sgn_lt ec).1
        have ho : opS (sgn tl tp (nx tl tp b)) = some 3 := by rw [ec]; rfl
        rw [chn_s ho]
        have hpi := hp (nx tl tp b + 1) (by omega)
        cases hq : (p (nx tl tp b + 1)).2 with
        | none =>
          rw [bd_n hq]
          refine Eq_iln dX4_readSum_12 rfl ?_
          refine Eq_sp (v := nI 160) dX4_readSum_13 rfl ?_
          refine Ef_ic_ge dX4_readSum_16 (tgt := 70) rfl (by exact nI_ge (b := 160) (by omega) (by omega)) ?_
          refine Eq_aln dX4_readSum_19 rfl ?_
          refine Eq_getR dX4_readSum_20 fl_X4_9 (ws_6 hW) rfl (wp_6_0 hW) ?_
          refine Eq_W0 (N := m_X9_next) dX4_readSum_23 lk_X4_36 mV_X9_next (c_next hW hA) (by omega) (ws_1 hW) rfl (by decide) (Nat.le_of_ble_eq_true rfl) (Nat.le_of_ble_eq_true rfl) (fun vq hq1 hq2 => ?_)
          obtain ⟨rfl, hf1, hA1⟩ := hq2
          have hW1 := hf1.Wd hW
          have hk1 : Fx [] [(1, 2)] h (am_wI hq1 1 2 (nI (nx tl tp b + 1))) := hf1.tr (Fx.wI (Or.inr (by decide)))
          have hRk := hR.fx hk1 (by decide)
          have hAk := hA1.mv (b := nx tl tp b + 1) (by omega)
          have hWk := hk1.Wd hW
          refine Eq_isn dX4_readSum_26 (by decide) ?_
          refine Eam_nl (pc' := 27) (l' := [_, _, _, _]) rfl rfl ?_
          refine Eq_iln dX4_readSum_27 rfl ?_
          refine Eq_bp (v := nI 43) dX4_readSum_28 rfl ?_
          refine Ef_ic_eq dX4_readSum_30 (tgt := 41) rfl (by rw [ec]; exact fun z => absurd ((nI_eq (by omega) (by omega)).mp z) (by decide)) ?_
          refine Eq_iln dX4_readSum_33 rfl ?_
          refine Eq_bp (v := nI 45) dX4_readSum_34 rfl ?_
          refine Et_ic_eq 41 dX4_readSum_36 rfl (by rw [ec]; rfl) ?_
          refine Eq_aln dX4_readSum_41 rfl ?_
          refine Eq_getR dX4_readSum_42 fl_X4_9 (ws_6 hW1) rfl (wp_6_0 hW1) ?_
          refine Eq_V0 (N := m_X9_step) dX4_readSum_45 lk_X4_74 mV_X9_step (c_step hW1 hA1) (by omega) (ws_1 hW1) rfl (by decide) (Nat.le_of_ble_eq_true rfl) (Nat.le_of_ble_eq_true rfl) ?_
          refine Eq_aln dX4_readSum_48 rfl ?_
          refine Eq_iln dX4_readSum_49 rfl ?_
          refine Eq_W1 (N := m_X4_readTerm) dX4_readSum_50 lk_X4_77 mV_X4_readTerm (hs _ _ _ hWk hAk hRk (by omega)) (by omega) (ws_6 hW1) rfl (by decide) (Nat.le_of_ble_eq_true rfl) (Nat.le_of_ble_eq_true rfl) (fun vq hq1 hq2 => ?_)
          obtain ⟨rfl, hf2, hA2⟩ := hq2.n hq
          refine Ef_if_ne dX4_readSum_53 (tgt := 58) rfl (by rfl) ?_
          refine Eq_ic (v := nI 0) dX4_readSum_56 rfl ?_
          first | refine Eq_zrn dX4_readSum_57 rfl (by first | omega | exact b2_le) ?_ | refine Eq_zr dX4_readSum_57 rfl (by first | exact Or.inl rfl | exact Or.inr rfl | assumption) ?_
          exact ⟨(hk1.mono (by decide) (by decide)).tr hf2, rfl, hA2⟩
        | some us =>
          rw [bd_s hq]
          have hul := hpi.2.2 us hq
          refine Eq_iln dX4_readSum_12 rfl ?_
          refine Eq_sp (v := nI 160) dX4_readSum_13 rfl ?_
          refine Ef_ic_ge dX4_readSum_16 (tgt := 70) rfl (by exact nI_ge (b := 160) (by omega) (by omega)) ?_
          refine Eq_aln dX4_readSum_19 rfl ?_
          refine Eq_getR dX4_readSum_20 fl_X4_9 (ws_6 hW) rfl (wp_6_0 hW) ?_
          refine Eq_W0 (N := m_X9_next) dX4_readSum_23 lk_X4_36 mV_X9_next (c_next hW hA) (by omega) (ws_1 hW) rfl (by decide) (Nat.le_of_ble_eq_true rfl) (Nat.le_of_ble_eq_true rfl) (fun vq hq1 hq2 => ?_)
          obtain ⟨rfl, hf1, hA1⟩ := hq2
          have hW1 := hf1.Wd hW
          have hk1 : Fx [] [(1, 2)] h (am_wI hq1 1 2 (nI (nx tl tp b + 1))) := hf1.tr (Fx.wI (Or.inr (by decide)))
          have hRk := hR.fx hk1 (by decide)
          have hAk := hA1.mv (b := nx tl tp b + 1) (by omega)
          have hWk := hk1.Wd hW
          refine Eq_isn dX4_readSum_26 (by decide) ?_
          refine Eam_nl (pc' := 27) (l' := [_, _, _, _]) rfl rfl ?_
          refine Eq_iln dX4_readSum_27 rfl ?_
          refine Eq_bp (v := nI 43) dX4_readSum_28 rfl ?_
          refine Ef_ic_eq dX4_readSum_30 (tgt := 41) rfl (by rw [ec]; exact fun z => absurd ((nI_eq (by omega) (by omega)).mp z) (by decide)) ?_
          refine Eq_iln dX4_readSum_33 rfl ?_
          refine Eq_bp (v := nI 45) dX4_readSum_34 rfl ?_
          refine Et_ic_eq 41 dX4_readSum_36 rfl (by rw [ec]; rfl) ?_
          refine Eq_aln dX4_readSum_41 rfl ?_
          refine Eq_getR dX4_readSum_42 fl_X4_9 (ws_6 hW1) rfl (wp_6_0 hW1) ?_
          refine Eq_V0 (N := m_X9_step) dX4_readSum_45 lk_X4_74 mV_X9_step (c_step hW1 hA1) (by omega) (ws_1 hW1) rfl (by decide) (Nat.le_of_ble_eq_true rfl) (Nat.le_of_ble_eq_true rfl) ?_
          refine Eq_aln dX4_readSum_48 rfl ?_
          refine Eq_iln dX4_readSum_49 rfl ?_
          refine Eq_W1 (N := m_X4_readTerm) dX4_readSum_50 lk_X4_77 mV_X4_readTerm (hs _ _ _ hWk hAk hRk (by omega)) (by omega) (ws_6 hW1) rfl (by decide) (Nat.le_of_ble_eq_true rfl) (Nat.le_of_ble_eq_true rfl) (fun vq hq1 hq2 => ?_)
          obtain ⟨rfl, hf2, hA2, hR2⟩ := hq2.s hq
          have hW2 := hf2.Wd hWk
          refine Et_if_ne 58 dX4_readSum_53 rfl (by exact zf1) ?_
          refine Eq_aln dX4_readSum_58 rfl ?_
          refine Eq_iln dX4_readSum_59 rfl ?_
          refine Eam_x_pu dX4_readSum_60 rfl ?_
          refine Eq_W1 (N := m_X4_write) dX4_readSum_61 lk_X4_54 mV_X4_write (c_write hW2 hR2 (by simp only [List.length_append, List.length_map] at hl ⊢; omega)) (by omega) (ws_6 hW2) rfl (by decide) (Nat.le_of_ble_eq_true rfl) (Nat.le_of_ble_eq_true rfl) (fun vq hq1 hq2 => ?_)
          obtain ⟨rfl, hf3, hR3⟩ := hq2
          refine Eq_inc dX4_readSum_64 rfl (by decide) ?_
          refine Eam_nl (pc' := 67) (l' := [_, _, _, _]) rfl rfl ?_
          refine Eam_x_goto (tgt := 12) dX4_readSum_67 rfl ?_
          rw [ec] at hR3
          have hR4 : WR hq1 (l ++ (ts ++ us ++ [(3, 0)]).map cs) := by rw [← map3]; exact hR3
          obtain ⟨v5, h5, z1, z2⟩ := ih (p (nx tl tp b + 1)).1 (ts ++ us ++ [(3, 0)]) _ (j + 1) (by omega) (by omega) (hf3.Wd hW2) (hA2.fx hf3 (by decide)) hR4 (by simp only [List.length_append, List.length_map, List.length_cons, List.length_nil] at hl ⊢; omega) _
          exact ⟨v5, h5, z1, z2.tr ((hk1.mono (by decide) (by decide)).tr (hf2.tr (hf3.mono (by decide) (by decide))))⟩
      · have ho : opS (sgn tl tp (nx tl tp b)) = none := by unfold opS; rw [if_neg ed, if_neg ec]
        rw [chn_n ho]
        refine Eq_iln dX4_readSum_12 rfl ?_
        refine Eq_sp (v := nI 160) dX4_readSum_13 rfl ?_
        refine Ef_ic_ge dX4_readSum_16 (tgt := 70) rfl (by exact nI_ge (b := 160) (by omega) (by omega)) ?_
        refine Eq_aln dX4_readSum_19 rfl ?_
        refine Eq_getR dX4_readSum_20 fl_X4_9 (ws_6 hW) rfl (wp_6_0 hW) ?_
        refine Eq_W0 (N := m_X9_next) dX4_readSum_23 lk_X4_36 mV_X9_next (c_next hW hA) (by omega) (ws_1 hW) rfl (by decide) (Nat.le_of_ble_eq_true rfl) (Nat.le_of_ble_eq_true rfl) (fun vq hq1 hq2 => ?_)
        obtain ⟨rfl, hf1, hA1⟩ := hq2
        have hW1 := hf1.Wd hW
        have hR1 := hR.fx hf1 (by decide)
        refine Eq_isn dX4_readSum_26 (by decide) ?_
        refine Eam_nl (pc' := 27) (l' := [_, _, _, _]) rfl rfl ?_
        refine Eq_iln dX4_readSum_27 rfl ?_
        refine Eq_bp (v := nI 43) dX4_readSum_28 rfl ?_
        refine Ef_ic_eq dX4_readSum_30 (tgt := 41) rfl (by exact fun z => ed ((oNlt (fun k hk => by have := h2 k hk; omega) 43 (by omega)).mp z)) ?_
        refine Eq_iln dX4_readSum_33 rfl ?_
        refine Eq_bp (v := nI 45) dX4_readSum_34 rfl ?_
        refine Ef_ic_eq dX4_readSum_36 (tgt := 41) rfl (by exact fun z => ec ((oNlt (fun k hk => by have := h2 k hk; omega) 45 (by omega)).mp z)) ?_
        refine Eq_ic (v := nI 1) dX4_readSum_39 rfl ?_
        first | refine Eq_zrn dX4_readSum_40 rfl (by first | omega | exact b2_le) ?_ | refine Eq_zr dX4_readSum_40 rfl (by first | exact Or.inl rfl | exact Or.inr rfl | assumption) ?_
        exact ⟨hf1.mono (by decide) (by decide), rfl, hA1, hR1⟩
set_option maxHeartbeats 2000000 in
theorem c_readSum {tl : Nat} {tp : Nat → Nat} {d e : Nat} {p : Nat → Rd} (hs : SC tl tp m_X4_readTerm d [.ref 6, .int (nI e)] p) (hp : Prs tl p) (hd : 2 ≤ d) : SC tl tp m_X4_readSum (d + 1) [.ref 6, .int (nI e)] (chs tl tp opS p) := by
  intro h a l hW hA hR hl
  have htl := hA.1.2.1
  have hpi := hp a hA.2.2
  unfold chs
  cases hq : (p a).2 with
  | none =>
    rw [bd_n hq]
    refine Eq_aln dX4_readSum_0 rfl ?_
    refine Eq_iln dX4_readSum_1 rfl ?_
    refine Eq_W1 (N := m_X4_readTerm) dX4_readSum_2 lk_X4_77 mV_X4_readTerm (hs _ _ _ hW hA hR hl) (by omega) (ws_6 hW) rfl (by decide) (Nat.le_of_ble_eq_true rfl) (Nat.le_of_ble_eq_true rfl) (fun vq hq1 hq2 => ?_)
    obtain ⟨rfl, hf2, hA2⟩ := hq2.n hq
    refine Ef_if_ne dX4_readSum_5 (tgt := 10) rfl (by rfl) ?_
    refine Eq_ic (v := nI 0) dX4_readSum_8 rfl ?_
    first | refine Eq_zrn dX4_readSum_9 rfl (by first | omega | exact b2_le) ?_ | refine Eq_zr dX4_readSum_9 rfl (by first | exact Or.inl rfl | exact Or.inr rfl | assumption) ?_
    exact ⟨hf2, rfl, hA2⟩
  | some ts =>
    rw [bd_s hq]
    have hul := hpi.2.2 ts hq
    refine Eq_aln dX4_readSum_0 rfl ?_
    refine Eq_iln dX4_readSum_1 rfl ?_
    refine Eq_W1 (N := m_X4_readTerm) dX4_readSum_2 lk_X4_77 mV_X4_readTerm (hs _ _ _ hW hA hR hl) (by omega) (ws_6 hW) rfl (by decide) (Nat.le_of_ble_eq_true rfl) (Nat.le_of_ble_eq_true rfl) (fun vq hq1 hq2 => ?_)
    obtain ⟨rfl, hf2, hA2, hR2⟩ := hq2.s hq
    refine Et_if_ne 10 dX4_readSum_5 rfl (by exact zf1) ?_
    refine Eq_ic (v := nI 0) dX4_readSum_10 rfl ?_
    refine Eq_isn dX4_readSum_11 (by decide) ?_
    refine Eam_nl (pc' := 12) (l' := [_, _, _, _]) rfl rfl ?_
    obtain ⟨v5, h5, z1, z2⟩ := c_readSum_lp hs hp hd 161 (p a).1 ts _ 0 (by omega) (by omega) (hf2.Wd hW) hA2 hR2 (by simp only [List.length_append, List.length_map]; omega) _
    exact ⟨v5, h5, z1, z2.tr hf2⟩
set_option maxHeartbeats 2000000 in
theorem c_sum {tl : Nat} {tp : Nat → Nat} : ∀ L, L ≤ 6 → SC tl tp m_X4_readSum (3 * L + 5) [.ref 6, .int (nI (6 - L))] (smP tl tp L) := by
  intro L
  induction L with
  | zero =>
    intro _
    exact c_readSum (d := 4) (c_readTerm (d := 3) (c_readAtom (d := 2) (L := 0) (by omega) (fun z => absurd rfl z) (fun z => absurd rfl z) (by omega)) (atm_pr (fun z => absurd rfl z)) (by omega)) (chs_pr opT_0 (atm_pr (fun z => absurd rfl z))) (by omega)
  | succ L ih =>
    intro hL
    have i1 := ih (by omega)
    rw [show 6 - L = 6 - (L + 1) + 1 by omega] at i1
    exact c_readSum (d := 3 * L + 5 + 2) (c_readTerm (d := 3 * L + 5 + 1) (c_readAtom (d := 3 * L + 5) hL (fun _ => i1) (fun _ => smP_pr L) (by omega)) (atm_pr (fun _ => smP_pr L)) (by omega)) (chs_pr opT_0 (atm_pr (fun _ => smP_pr L))) (by omega)
