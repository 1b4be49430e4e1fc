/-! the class reads conditions -/
def SC2 (tl : Nat) (tp : Nat → Nat) (N : am_M) (d e : Nat) (f : Nat → Rd) : Prop := SC tl tp N d [.ref 6, .int (nI e), .int (nI 0)] f
theorem rel_s {x : Option Nat} {o : Nat} (h : rel x = some o) : x = some (sgc o) ∧ 6 ≤ o ∧ o ≤ 8 := by
  unfold rel at h
  repeat' split at h
  all_goals cases h
  all_goals (refine ⟨by assumption, by omega, by omega⟩)
theorem rel_n {x : Option Nat} (h : rel x = none) : x ≠ some 61 ∧ x ≠ some 60 ∧ x ≠ some 62 := by
  unfold rel at h
  repeat' split at h
  all_goals first | exact ⟨by assumption, by assumption, by assumption⟩ | cases h
set_option maxHeartbeats 2000000 in
theorem c_isRelation {h : am_H} {x : Option Nat} (hx : ∀ c, x = some c → c < 256) : am_C 0 m_X4_isRelation [.int (oN x)] h (some (.int (nI (if rel x = none then 0 else 1))), h) := by
  by_cases e1 : x = some 61
  · rw [e1]
    refine q_iln dX4_isRelation_0 rfl ?_
    refine q_bp (v := nI 61) dX4_isRelation_1 rfl ?_
    refine t_ic_eq 18 dX4_isRelation_3 rfl (by rfl) ?_
    refine q_ic (v := nI 1) dX4_isRelation_18 rfl ?_
    refine am_x_goto (tgt := 23) dX4_isRelation_19 rfl ?_
    first | refine q_zrn dX4_isRelation_23 rfl (by first | omega | exact b2_le) ?_ | refine q_zr dX4_isRelation_23 rfl (by first | exact Or.inl rfl | exact Or.inr rfl | assumption) ?_
    rfl
  · by_cases e2 : x = some 60
    · rw [e2]
      refine q_iln dX4_isRelation_0 rfl ?_
      refine q_bp (v := nI 61) dX4_isRelation_1 rfl ?_
      refine f_ic_eq dX4_isRelation_3 (tgt := 18) rfl (by decide +kernel) ?_
      refine q_iln dX4_isRelation_6 rfl ?_
      refine q_bp (v := nI 60) dX4_isRelation_7 rfl ?_
      refine t_ic_eq 18 dX4_isRelation_9 rfl (by rfl) ?_
      refine q_ic (v := nI 1) dX4_isRelation_18 rfl ?_
      refine am_x_goto (tgt := 23) dX4_isRelation_19 rfl ?_
      first | refine q_zrn dX4_isRelation_23 rfl (by first | omega | exact b2_le) ?_ | refine q_zr dX4_isRelation_23 rfl (by first | exact Or.inl rfl | exact Or.inr rfl | assumption) ?_
      rfl
    · by_cases e3 : x = some 62
      · rw [e3]
        refine q_iln dX4_isRelation_0 rfl ?_
        refine q_bp (v := nI 61) dX4_isRelation_1 rfl ?_
        refine f_ic_eq dX4_isRelation_3 (tgt := 18) rfl (by decide +kernel) ?_
        refine q_iln dX4_isRelation_6 rfl ?_
        refine q_bp (v := nI 60) dX4_isRelation_7 rfl ?_
        refine f_ic_eq dX4_isRelation_9 (tgt := 18) rfl (by decide +kernel) ?_
        refine q_iln dX4_isRelation_12 rfl ?_
        refine q_bp (v := nI 62) dX4_isRelation_13 rfl ?_
        refine f_ic_ne dX4_isRelation_15 (tgt := 22) rfl (by rfl) ?_
        refine q_ic (v := nI 1) dX4_isRelation_18 rfl ?_
        refine am_x_goto (tgt := 23) dX4_isRelation_19 rfl ?_
        first | refine q_zrn dX4_isRelation_23 rfl (by first | omega | exact b2_le) ?_ | refine q_zr dX4_isRelation_23 rfl (by first | exact Or.inl rfl | exact Or.inr rfl | assumption) ?_
        rfl
      · have e : rel x = none := by unfold rel; rw [if_neg e1, if_neg e2, if_neg e3]
        rw [if_pos e]
        refine q_iln dX4_isRelation_0 rfl ?_
        refine q_bp (v := nI 61) dX4_isRelation_1 rfl ?_
        refine f_ic_eq dX4_isRelation_3 (tgt := 18) rfl (by exact fun z => e1 ((oNlt (fun k hk => by have := hx k hk; omega) 61 (by omega)).mp z)) ?_
        refine q_iln dX4_isRelation_6 rfl ?_
        refine q_bp (v := nI 60) dX4_isRelation_7 rfl ?_
        refine f_ic_eq dX4_isRelation_9 (tgt := 18) rfl (by exact fun z => e2 ((oNlt (fun k hk => by have := hx k hk; omega) 60 (by omega)).mp z)) ?_
        refine q_iln dX4_isRelation_12 rfl ?_
        refine q_bp (v := nI 62) dX4_isRelation_13 rfl ?_
        refine t_ic_ne 22 dX4_isRelation_15 rfl (by exact fun z => e3 ((oNlt (fun k hk => by have := hx k hk; omega) 62 (by omega)).mp z)) ?_
        refine q_ic (v := nI 0) dX4_isRelation_22 rfl ?_
        first | refine q_zrn dX4_isRelation_23 rfl (by first | omega | exact b2_le) ?_ | refine q_zr dX4_isRelation_23 rfl (by first | exact Or.inl rfl | exact Or.inr rfl | assumption) ?_
        rfl
set_option maxHeartbeats 2000000 in
theorem c_readRelation {tl : Nat} {tp : Nat → Nat} {d e : Nat} {sum : Nat → Rd} (hs : SC tl tp m_X4_readSum d [.ref 6, .int (nI e)] sum) (hp : Prs tl sum) (hd : 2 ≤ d) {h : am_H} {b : Nat} {l : List Int32} {ts : Tks} (hW : Wd h) (hA : TA h tl tp b) (hR : WR h (l ++ ts.map cs)) (hl : (l ++ ts.map cs).length ≤ b) : am_D (d + 1) m_X4_readRelation [.ref 6, .int (nI e)] h (PQ tl tp (rlt tl tp sum b ts) l h) := by
  have h2 := sgn256 hA (nx tl tp b)
  have hx1 := nx_ge (tl := tl) (tp := tp) (a := b)
  have hx2 := nx_le (tp := tp) hA.2.2
  have htl := hA.1.2.1
  unfold rlt
  cases hj : rel (sgn tl tp (nx tl tp b)) with
  | none =>
    dsimp only
    refine Eq_aln dX4_readRelation_0 rfl ?_
    refine Eq_getR dX4_readRelation_1 fl_X4_9 (ws_6 hW) rfl (wp_6_0 hW) ?_
    refine Eq_W0 (N := m_X9_next) dX4_readRelation_4 lk_X4_36 mV_X9_next (c_next hW hA) (by omega) (ws_1 hW) rfl (by decide) (Nat.le_of_ble_eq_true rfl) (Nat.le_of_ble_eq_true rfl) (fun vq hq1 hq2 => ?_)
    obtain ⟨rfl, hf1, hA1⟩ := hq2
    have hW1 := hf1.Wd hW
    have hR1 := hR.fx hf1 (by decide)
    refine Eq_isn dX4_readRelation_7 (by decide) ?_
    refine Eam_nl (pc' := 8) (l' := [_, _, _]) rfl rfl ?_
    refine Eq_iln dX4_readRelation_8 rfl ?_
    refine Eq_S1 (N := m_X4_isRelation) dX4_readRelation_9 lk_X4_51 mS_X4_isRelation ((by have z := c_isRelation (h := hq1) h2; rw [if_pos hj] at z; exact z)) (by omega) (Nat.le_of_ble_eq_true rfl) (Nat.le_of_ble_eq_true rfl) ?_
    refine Ef_if_ne dX4_readRelation_12 (tgt := 17) rfl (by rfl) ?_
    refine Eq_ic (v := nI 0) dX4_readRelation_15 rfl ?_
    first | refine Eq_zrn dX4_readRelation_16 rfl (by first | omega | exact b2_le) ?_ | refine Eq_zr dX4_readRelation_16 rfl (by first | exact Or.inl rfl | exact Or.inr rfl | assumption) ?_
    exact ⟨hf1.mono (by decide) (by decide), rfl, hA1⟩
  | some o =>
    obtain ⟨ho, ho6, ho8⟩ := rel_s hj
    have hlt := (sgn_lt ho).1
    have hpi := hp (nx tl tp b + 1) (by omega)
    dsimp only
    cases hq : (sum (nx tl tp b + 1)).2 with
    | none =>
      rw [bd_n hq]
      refine Eq_aln dX4_readRelation_0 rfl ?_
      refine Eq_getR dX4_readRelation_1 fl_X4_9 (ws_6 hW) rfl (wp_6_0 hW) ?_
      refine Eq_W0 (N := m_X9_next) dX4_readRelation_4 lk_X4_36 mV_X9_next (c_next hW hA) (by omega) (ws_1 hW) rfl (by decide) (Nat.le_of_ble_eq_true rfl) (Nat.le_of_ble_eq_true rfl) (fun vq hq1 hq2 => ?_)
      obtain ⟨rfl, hf1, hA1⟩ := hq2
      have hW1 := hf1.Wd hW
      have hk1 : Fx [] [(1, 2)] h (am_wI hq1 1 2 (nI (nx tl tp b + 1))) := hf1.tr (Fx.wI (Or.inr (by decide)))
      have hRk := hR.fx hk1 (by decide)
      have hAk := hA1.mv (b := nx tl tp b + 1) (by omega)
      have hWk := hk1.Wd hW
      refine Eq_isn dX4_readRelation_7 (by decide) ?_
      refine Eam_nl (pc' := 8) (l' := [_, _, _]) rfl rfl ?_
      refine Eq_iln dX4_readRelation_8 rfl ?_
      refine Eq_S1 (N := m_X4_isRelation) dX4_readRelation_9 lk_X4_51 mS_X4_isRelation ((by have z := c_isRelation (h := hq1) h2; rw [if_neg (by rw [hj]; exact fun z => nomatch z)] at z; exact z)) (by omega) (Nat.le_of_ble_eq_true rfl) (Nat.le_of_ble_eq_true rfl) ?_
      refine Et_if_ne 17 dX4_readRelation_12 rfl (by exact zf1) ?_
      refine Eq_aln dX4_readRelation_17 rfl ?_
      refine Eq_getR dX4_readRelation_18 fl_X4_9 (ws_6 hW1) rfl (wp_6_0 hW1) ?_
      refine Eq_V0 (N := m_X9_step) dX4_readRelation_21 lk_X4_74 mV_X9_step (c_step hW1 hA1) (by omega) (ws_1 hW1) rfl (by decide) (Nat.le_of_ble_eq_true rfl) (Nat.le_of_ble_eq_true rfl) ?_
      refine Eq_aln dX4_readRelation_24 rfl ?_
      refine Eq_iln dX4_readRelation_25 rfl ?_
      refine Eq_W1 (N := m_X4_readSum) dX4_readRelation_26 lk_X4_48 mV_X4_readSum (hs _ _ _ hWk hAk hRk (by omega)) (by omega) (ws_6 hW1) rfl (by decide) (Nat.le_of_ble_eq_true rfl) (Nat.le_of_ble_eq_true rfl) (fun vq hq1 hq2 => ?_)
      obtain ⟨rfl, hf2, hA2⟩ := hq2.n hq
      refine Ef_if_ne dX4_readRelation_29 (tgt := 34) rfl (by rfl) ?_
      refine Eq_ic (v := nI 0) dX4_readRelation_32 rfl ?_
      first | refine Eq_zrn dX4_readRelation_33 rfl (by first | omega | exact b2_le) ?_ | refine Eq_zr dX4_readRelation_33 rfl (by first | exact Or.inl rfl | exact Or.inr rfl | assumption) ?_
      exact ⟨(hk1.mono (by decide) (by decide)).tr hf2, rfl, hA2⟩
    | some us =>
      rw [bd_s hq]
      have hul := hpi.2.2 us hq
      refine Eq_aln dX4_readRelation_0 rfl ?_
      refine Eq_getR dX4_readRelation_1 fl_X4_9 (ws_6 hW) rfl (wp_6_0 hW) ?_
      refine Eq_W0 (N := m_X9_next) dX4_readRelation_4 lk_X4_36 mV_X9_next (c_next hW hA) (by omega) (ws_1 hW) rfl (by decide) (Nat.le_of_ble_eq_true rfl) (Nat.le_of_ble_eq_true rfl) (fun vq hq1 hq2 => ?_)
      obtain ⟨rfl, hf1, hA1⟩ := hq2
      have hW1 := hf1.Wd hW
      have hk1 : Fx [] [(1, 2)] h (am_wI hq1 1 2 (nI (nx tl tp b + 1))) := hf1.tr (Fx.wI (Or.inr (by decide)))
      have hRk := hR.fx hk1 (by decide)
      have hAk := hA1.mv (b := nx tl tp b + 1) (by omega)
      have hWk := hk1.Wd hW
      refine Eq_isn dX4_readRelation_7 (by decide) ?_
      refine Eam_nl (pc' := 8) (l' := [_, _, _]) rfl rfl ?_
      refine Eq_iln dX4_readRelation_8 rfl ?_
      refine Eq_S1 (N := m_X4_isRelation) dX4_readRelation_9 lk_X4_51 mS_X4_isRelation ((by have z := c_isRelation (h := hq1) h2; rw [if_neg (by rw [hj]; exact fun z => nomatch z)] at z; exact z)) (by omega) (Nat.le_of_ble_eq_true rfl) (Nat.le_of_ble_eq_true rfl) ?_
      refine Et_if_ne 17 dX4_readRelation_12 rfl (by exact zf1) ?_
      refine Eq_aln dX4_readRelation_17 rfl ?_
      refine Eq_getR dX4_readRelation_18 fl_X4_9 (ws_6 hW1) rfl (wp_6_0 hW1) ?_
      refine Eq_V0 (N := m_X9_step) dX4_readRelation_21 lk_X4_74 mV_X9_step (c_step hW1 hA1) (by omega) (ws_1 hW1) rfl (by decide) (Nat.le_of_ble_eq_true rfl) (Nat.le_of_ble_eq_true rfl) ?_
      refine Eq_aln dX4_readRelation_24 rfl ?_
      refine Eq_iln dX4_readRelation_25 rfl ?_
      refine Eq_W1 (N := m_X4_readSum) dX4_readRelation_26 lk_X4_48 mV_X4_readSum (hs _ _ _ hWk hAk hRk (by omega)) (by omega) (ws_6 hW1) rfl (by decide) (Nat.le_of_ble_eq_true rfl) (Nat.le_of_ble_eq_true rfl) (fun vq hq1 hq2 => ?_)
      obtain ⟨rfl, hf2, hA2, hR2⟩ := hq2.s hq
      have hW2 := hf2.Wd hWk
      refine Et_if_ne 34 dX4_readRelation_29 rfl (by exact zf1) ?_
      refine Eq_aln dX4_readRelation_34 rfl ?_
      refine Eq_iln dX4_readRelation_35 rfl ?_
      refine Eam_x_pu dX4_readRelation_36 rfl ?_
      refine Eq_W1 (N := m_X4_write) dX4_readRelation_37 lk_X4_54 mV_X4_write (c_write hW2 hR2 (by simp only [List.length_append, List.length_map] at hl ⊢; omega)) (by omega) (ws_6 hW2) rfl (by decide) (Nat.le_of_ble_eq_true rfl) (Nat.le_of_ble_eq_true rfl) (fun vq hq1 hq2 => ?_)
      obtain ⟨rfl, hf3, hR3⟩ := hq2
      refine Eq_ic (v := nI 1) dX4_readRelation_40 rfl ?_
      first | refine Eq_zrn dX4_readRelation_41 rfl (by first | omega | exact b2_le) ?_ | refine Eq_zr dX4_readRelation_41 rfl (by first | exact Or.inl rfl | exact Or.inr rfl | assumption) ?_
      have hR4 : WR hq1 (l ++ (ts ++ us ++ [(o, 0)]).map cs) := by
        rw [← map3, show cs (o, 0) = -nI (sgc o) by simp only [cs]; rw [if_neg (by omega), if_neg (by omega)]]
        rw [ho] at hR3
        exact hR3
      exact ⟨(hk1.mono (by decide) (by decide)).tr (hf2.tr (hf3.mono (by decide) (by decide))), rfl, hA2.fx hf3 (by decide), hR4⟩
set_option maxHeartbeats 2000000 in
theorem c_readUnit1 {tl : Nat} {tp : Nat → Nat} {d e D : Nat} {sum : Nat → Rd} (hs : SC tl tp m_X4_readSum d [.ref 6, .int (nI e)] sum) (hp : Prs tl sum) (hd : 2 ≤ d) (hD : d + 2 ≤ D) {h : am_H} {b : Nat} {l : List Int32} {ts : Tks} (hW : Wd h) (hA : TA h tl tp b) (hR : WR h (l ++ ts.map cs)) (hl : (l ++ ts.map cs).length ≤ b) : am_D D m_X4_readUnit [.ref 6, .int (nI e), .int (nI 1)] h (PQ tl tp (rlt tl tp sum b ts) l h) := by
  cases hq : (rlt tl tp sum b ts).2 with
  | none =>
    refine Eq_iln dX4_readUnit_0 rfl ?_
    refine Ef_if_eq dX4_readUnit_1 (tgt := 10) rfl (by exact zf1) ?_
    refine Eq_aln dX4_readUnit_4 rfl ?_
    refine Eq_iln dX4_readUnit_5 rfl ?_
    refine Eq_W1 (N := m_X4_readRelation) dX4_readUnit_6 lk_X4_71 mV_X4_readRelation (c_readRelation hs hp hd hW hA hR hl) (by omega) (ws_6 hW) rfl (by decide) (Nat.le_of_ble_eq_true rfl) (Nat.le_of_ble_eq_true rfl) (fun vq hq1 hq2 => ?_)
    have hq3 := hq2.n hq
    obtain ⟨rfl, hf2, hA2⟩ := hq3
    first | refine Eq_zrn dX4_readUnit_9 rfl (by first | omega | exact b2_le) ?_ | refine Eq_zr dX4_readUnit_9 rfl (by first | exact Or.inl rfl | exact Or.inr rfl | assumption) ?_
    exact hq2
  | some us =>
    refine Eq_iln dX4_readUnit_0 rfl ?_
    refine Ef_if_eq dX4_readUnit_1 (tgt := 10) rfl (by exact zf1) ?_
    refine Eq_aln dX4_readUnit_4 rfl ?_
    refine Eq_iln dX4_readUnit_5 rfl ?_
    refine Eq_W1 (N := m_X4_readRelation) dX4_readUnit_6 lk_X4_71 mV_X4_readRelation (c_readRelation hs hp hd hW hA hR hl) (by omega) (ws_6 hW) rfl (by decide) (Nat.le_of_ble_eq_true rfl) (Nat.le_of_ble_eq_true rfl) (fun vq hq1 hq2 => ?_)
    have hq3 := hq2.s hq
    obtain ⟨rfl, hf2, hA2⟩ := hq3
    first | refine Eq_zrn dX4_readUnit_9 rfl (by first | omega | exact b2_le) ?_ | refine Eq_zr dX4_readUnit_9 rfl (by first | exact Or.inl rfl | exact Or.inr rfl | assumption) ?_
    exact hq2
set_option maxHeartbeats 2000000 in
theorem c_readUnit {tl : Nat} {tp : Nat → Nat} {L d du dc D : Nat} (hL6 : L ≤ 6) {sum iu ic : Nat → Rd} (hs : SC tl tp m_X4_readSum d [.ref 6, .int (nI (6 - L))] sum) (hp : Prs tl sum) (hu : L ≠ 0 → SC2 tl tp m_X4_readUnit du (6 - L + 1) iu) (hpu : L ≠ 0 → Prs tl iu) (hc : L ≠ 0 → SC2 tl tp m_X4_readCondition dc (6 - L + 1) ic) (hpc : L ≠ 0 → Prs tl ic) (hd : 2 ≤ d) (hD : d + 2 ≤ D) (hDu : du + 1 ≤ D) (hDc : dc + 1 ≤ D) : SC2 tl tp m_X4_readUnit D (6 - L) (untW tl tp L sum iu ic) := by
  intro h a l hW hA hR hl
  have h2 := sgn256 hA (nx tl tp a)
  have hx1 := nx_ge (tl := tl) (tp := tp) (a := a)
  have hx2 := nx_le (tp := tp) hA.2.2
  have htl := hA.1.2.1
  unfold untW
  by_cases e : sgn tl tp (nx tl tp a) = some 33
  · rw [if_pos e]
    have hlt := (sgn_lt e).1
    by_cases hL : L = 0
    · rw [if_pos hL]
      refine Eq_iln dX4_readUnit_0 rfl ?_
      refine Et_if_eq 10 dX4_readUnit_1 rfl (by rfl) ?_
      refine Eq_aln dX4_readUnit_10 rfl ?_
      refine Eq_getR dX4_readUnit_11 fl_X4_9 (ws_6 hW) rfl (wp_6_0 hW) ?_
      refine Eq_W0 (N := m_X9_next) dX4_readUnit_14 lk_X4_36 mV_X9_next (c_next hW hA) (by omega) (ws_1 hW) rfl (by decide) (Nat.le_of_ble_eq_true rfl) (Nat.le_of_ble_eq_true rfl) (fun vq hq1 hq2 => ?_)
      obtain ⟨rfl, hf1, hA1⟩ := hq2
      have hW1 := hf1.Wd hW
      have hR1 := hR.fx hf1 (by decide)
      refine Eq_isn dX4_readUnit_17 (by decide) ?_
      refine Eam_nl (pc' := 18) (l' := [_, _, _, _]) rfl rfl ?_
      refine Eq_iln dX4_readUnit_18 rfl ?_
      refine Eq_bp (v := nI 33) dX4_readUnit_19 rfl ?_
      refine Et_ic_eq 52 dX4_readUnit_21 rfl (by rw [e]; rfl) ?_
      refine Eq_iln dX4_readUnit_52 rfl ?_
      refine Eq_bp (v := nI 6) dX4_readUnit_53 rfl ?_
      refine Ef_ic_lt dX4_readUnit_55 (tgt := 60) rfl (by rw [hL]; exact nI_nlt (by omega) (by omega)) ?_
      refine Eq_ic (v := nI 0) dX4_readUnit_58 rfl ?_
      first | refine Eq_zrn dX4_readUnit_59 rfl (by first | omega | exact b2_le) ?_ | refine Eq_zr dX4_readUnit_59 rfl (by first | exact Or.inl rfl | exact Or.inr rfl | assumption) ?_
      exact ⟨hf1.mono (by decide) (by decide), rfl, hA1⟩
    · rw [if_neg hL]
      have hpi := hpu hL (nx tl tp a + 1) (by omega)
      cases hq : (iu (nx tl tp a + 1)).2 with
      | none =>
        rw [bd_n hq]
        refine Eq_iln dX4_readUnit_0 rfl ?_
        refine Et_if_eq 10 dX4_readUnit_1 rfl (by rfl) ?_
        refine Eq_aln dX4_readUnit_10 rfl ?_
        refine Eq_getR dX4_readUnit_11 fl_X4_9 (ws_6 hW) rfl (wp_6_0 hW) ?_
        refine Eq_W0 (N := m_X9_next) dX4_readUnit_14 lk_X4_36 mV_X9_next (c_next hW hA) (by omega) (ws_1 hW) rfl (by decide) (Nat.le_of_ble_eq_true rfl) (Nat.le_of_ble_eq_true rfl) (fun vq hq1 hq2 => ?_)
        obtain ⟨rfl, hf1, hA1⟩ := hq2
        have hW1 := hf1.Wd hW
        have hk1 : Fx [] [(1, 2)] h (am_wI hq1 1 2 (nI (nx tl tp a + 1))) := hf1.tr (Fx.wI (Or.inr (by decide)))
        have hRk := hR.fx hk1 (by decide)
        have hAk := hA1.mv (b := nx tl tp a + 1) (by omega)
        have hWk := hk1.Wd hW
        refine Eq_isn dX4_readUnit_17 (by decide) ?_
        refine Eam_nl (pc' := 18) (l' := [_, _, _, _]) rfl rfl ?_
        refine Eq_iln dX4_readUnit_18 rfl ?_
        refine Eq_bp (v := nI 33) dX4_readUnit_19 rfl ?_
        refine Et_ic_eq 52 dX4_readUnit_21 rfl (by rw [e]; rfl) ?_
        refine Eq_iln dX4_readUnit_52 rfl ?_
        refine Eq_bp (v := nI 6) dX4_readUnit_53 rfl ?_
        refine Et_ic_lt 60 dX4_readUnit_55 rfl (by exact nI_lt (by omega) (by omega)) ?_
        refine Eq_aln dX4_readUnit_60 rfl ?_
        refine Eq_getR dX4_readUnit_61 fl_X4_9 (ws_6 hW1) rfl (wp_6_0 hW1) ?_
        refine Eq_V0 (N := m_X9_step) dX4_readUnit_64 lk_X4_74 mV_X9_step (c_step hW1 hA1) (by omega) (ws_1 hW1) rfl (by decide) (Nat.le_of_ble_eq_true rfl) (Nat.le_of_ble_eq_true rfl) ?_
        refine Eq_iln dX4_readUnit_67 rfl ?_
        refine Eq_bp (v := nI 40) dX4_readUnit_68 rfl ?_
        refine Et_ic_ne 102 dX4_readUnit_70 rfl (by rw [e]; exact fun z => absurd ((nI_eq (by omega) (by omega)).mp z) (by decide)) ?_
        refine Eq_aln dX4_readUnit_102 rfl ?_
        refine Eq_iln dX4_readUnit_103 rfl ?_
        refine Eq_ic (v := nI 1) dX4_readUnit_104 rfl ?_
        first | refine Eq_add dX4_readUnit_105 ?_ | refine Eam_x_pu dX4_readUnit_105 rfl ?_
        refine Eq_ic (v := nI 0) dX4_readUnit_106 rfl ?_
        refine Eq_W2 (N := m_X4_readUnit) dX4_readUnit_107 lk_X4_68 mV_X4_readUnit (hu hL _ _ _ hWk hAk hRk (by omega)) (by omega) (ws_6 hW1) rfl (by decide) (Nat.le_of_ble_eq_true rfl) (Nat.le_of_ble_eq_true rfl) (fun vq hq1 hq2 => ?_)
        obtain ⟨rfl, hf2, hA2⟩ := hq2.n hq
        have hW2 := hf2.Wd hWk
        refine Ef_if_ne dX4_readUnit_110 (tgt := 115) rfl (by rfl) ?_
        refine Eq_ic (v := nI 0) dX4_readUnit_113 rfl ?_
        first | refine Eq_zrn dX4_readUnit_114 rfl (by first | omega | exact b2_le) ?_ | refine Eq_zr dX4_readUnit_114 rfl (by first | exact Or.inl rfl | exact Or.inr rfl | assumption) ?_
        exact ⟨(hk1.mono (by decide) (by decide)).tr hf2, rfl, hA2⟩
      | some us =>
        rw [bd_s hq]
        have hul := hpi.2.2 us hq
        refine Eq_iln dX4_readUnit_0 rfl ?_
        refine Et_if_eq 10 dX4_readUnit_1 rfl (by rfl) ?_
        refine Eq_aln dX4_readUnit_10 rfl ?_
        refine Eq_getR dX4_readUnit_11 fl_X4_9 (ws_6 hW) rfl (wp_6_0 hW) ?_
        refine Eq_W0 (N := m_X9_next) dX4_readUnit_14 lk_X4_36 mV_X9_next (c_next hW hA) (by omega) (ws_1 hW) rfl (by decide) (Nat.le_of_ble_eq_true rfl) (Nat.le_of_ble_eq_true rfl) (fun vq hq1 hq2 => ?_)
        obtain ⟨rfl, hf1, hA1⟩ := hq2
        have hW1 := hf1.Wd hW
        have hk1 : Fx [] [(1, 2)] h (am_wI hq1 1 2 (nI (nx tl tp a + 1))) := hf1.tr (Fx.wI (Or.inr (by decide)))
        have hRk := hR.fx hk1 (by decide)
        have hAk := hA1.mv (b := nx tl tp a + 1) (by omega)
        have hWk := hk1.Wd hW
        refine Eq_isn dX4_readUnit_17 (by decide) ?_
        refine Eam_nl (pc' := 18) (l' := [_, _, _, _]) rfl rfl ?_
        refine Eq_iln dX4_readUnit_18 rfl ?_
        refine Eq_bp (v := nI 33) dX4_readUnit_19 rfl ?_
        refine Et_ic_eq 52 dX4_readUnit_21 rfl (by rw [e]; rfl) ?_
        refine Eq_iln dX4_readUnit_52 rfl ?_
        refine Eq_bp (v := nI 6) dX4_readUnit_53 rfl ?_
        refine Et_ic_lt 60 dX4_readUnit_55 rfl (by exact nI_lt (by omega) (by omega)) ?_
        refine Eq_aln dX4_readUnit_60 rfl ?_
        refine Eq_getR dX4_readUnit_61 fl_X4_9 (ws_6 hW1) rfl (wp_6_0 hW1) ?_
        refine Eq_V0 (N := m_X9_step) dX4_readUnit_64 lk_X4_74 mV_X9_step (c_step hW1 hA1) (by omega) (ws_1 hW1) rfl (by decide) (Nat.le_of_ble_eq_true rfl) (Nat.le_of_ble_eq_true rfl) ?_
        refine Eq_iln dX4_readUnit_67 rfl ?_
        refine Eq_bp (v := nI 40) dX4_readUnit_68 rfl ?_
        refine Et_ic_ne 102 dX4_readUnit_70 rfl (by rw [e]; exact fun z => absurd ((nI_eq (by omega) (by omega)).mp z) (by decide)) ?_
        refine Eq_aln dX4_readUnit_102 rfl ?_
        refine Eq_iln dX4_readUnit_103 rfl ?_
        refine Eq_ic (v := nI 1) dX4_readUnit_104 rfl ?_
        first | refine Eq_add dX4_readUnit_105 ?_ | refine Eam_x_pu dX4_readUnit_105 rfl ?_
        refine Eq_ic (v := nI 0) dX4_readUnit_106 rfl ?_
        refine Eq_W2 (N := m_X4_readUnit) dX4_readUnit_107 lk_X4_68 mV_X4_readUnit (hu hL _ _ _ hWk hAk hRk (by omega)) (by omega) (ws_6 hW1) rfl (by decide) (Nat.le_of_ble_eq_true rfl) (Nat.le_of_ble_eq_true rfl) (fun vq hq1 hq2 => ?_)
        obtain ⟨rfl, hf2, hA2, hR2⟩ := hq2.s hq
        have hW2 := hf2.Wd hWk
        refine Et_if_ne 115 dX4_readUnit_110 rfl (by exact zf1) ?_
        refine Eq_aln dX4_readUnit_115 rfl ?_
        refine Eq_bp (v := -33) dX4_readUnit_116 rfl ?_
        refine Eq_W1 (N := m_X4_write) dX4_readUnit_118 lk_X4_54 mV_X4_write (c_write hW2 hR2 (by simp only [List.length_append, List.length_map]; omega)) (by omega) (ws_6 hW2) rfl (by decide) (Nat.le_of_ble_eq_true rfl) (Nat.le_of_ble_eq_true rfl) (fun vq hq1 hq2 => ?_)
        obtain ⟨rfl, hf3, hR3⟩ := hq2
        refine Eq_ic (v := nI 1) dX4_readUnit_121 rfl ?_
        first | refine Eq_zrn dX4_readUnit_122 rfl (by first | omega | exact b2_le) ?_ | refine Eq_zr dX4_readUnit_122 rfl (by first | exact Or.inl rfl | exact Or.inr rfl | assumption) ?_
        have hR4 : WR hq1 (l ++ (us ++ [(9, 0)]).map cs) := by
          rw [List.map_append, ← List.append_assoc]
          exact hR3
        exact ⟨(hk1.mono (by decide) (by decide)).tr (hf2.tr (hf3.mono (by decide) (by decide))), rfl, hA2.fx hf3 (by decide), hR4⟩
  · rw [if_neg e]
    by_cases e2 : sgn tl tp (nx tl tp a) = some 40
    · rw [if_pos e2]
      have hlt := (sgn_lt e2).1
      by_cases hL : L = 0
      · rw [if_pos hL]
        refine Eq_iln dX4_readUnit_0 rfl ?_
        refine Et_if_eq 10 dX4_readUnit_1 rfl (by rfl) ?_
        refine Eq_aln dX4_readUnit_10 rfl ?_
        refine Eq_getR dX4_readUnit_11 fl_X4_9 (ws_6 hW) rfl (wp_6_0 hW) ?_
        refine Eq_W0 (N := m_X9_next) dX4_readUnit_14 lk_X4_36 mV_X9_next (c_next hW hA) (by omega) (ws_1 hW) rfl (by decide) (Nat.le_of_ble_eq_true rfl) (Nat.le_of_ble_eq_true rfl) (fun vq hq1 hq2 => ?_)
        obtain ⟨rfl, hf1, hA1⟩ := hq2
        have hW1 := hf1.Wd hW
        have hR1 := hR.fx hf1 (by decide)
        refine Eq_isn dX4_readUnit_17 (by decide) ?_
        refine Eam_nl (pc' := 18) (l' := [_, _, _, _]) rfl rfl ?_
        refine Eq_iln dX4_readUnit_18 rfl ?_
        refine Eq_bp (v := nI 33) dX4_readUnit_19 rfl ?_
        refine Ef_ic_eq dX4_readUnit_21 (tgt := 52) rfl (by exact fun z => e ((oNlt (fun k hk => by have := h2 k hk; omega) 33 (by omega)).mp z)) ?_
        refine Eq_iln dX4_readUnit_24 rfl ?_
        refine Eq_bp (v := nI 40) dX4_readUnit_25 rfl ?_
        refine Et_ic_eq 52 dX4_readUnit_27 rfl (by rw [e2]; rfl) ?_
        refine Eq_iln dX4_readUnit_52 rfl ?_
        refine Eq_bp (v := nI 6) dX4_readUnit_53 rfl ?_
        refine Ef_ic_lt dX4_readUnit_55 (tgt := 60) rfl (by rw [hL]; exact nI_nlt (by omega) (by omega)) ?_
        refine Eq_ic (v := nI 0) dX4_readUnit_58 rfl ?_
        first | refine Eq_zrn dX4_readUnit_59 rfl (by first | omega | exact b2_le) ?_ | refine Eq_zr dX4_readUnit_59 rfl (by first | exact Or.inl rfl | exact Or.inr rfl | assumption) ?_
        exact ⟨hf1.mono (by decide) (by decide), rfl, hA1⟩
      · rw [if_neg hL]
        have hpi := hpc hL (nx tl tp a + 1) (by omega)
        unfold clo
        cases hq : (ic (nx tl tp a + 1)).2 with
        | none =>
          rw [bd_n hq]
          refine Eq_iln dX4_readUnit_0 rfl ?_
          refine Et_if_eq 10 dX4_readUnit_1 rfl (by rfl) ?_
          refine Eq_aln dX4_readUnit_10 rfl ?_
          refine Eq_getR dX4_readUnit_11 fl_X4_9 (ws_6 hW) rfl (wp_6_0 hW) ?_
          refine Eq_W0 (N := m_X9_next) dX4_readUnit_14 lk_X4_36 mV_X9_next (c_next hW hA) (by omega) (ws_1 hW) rfl (by decide) (Nat.le_of_ble_eq_true rfl) (Nat.le_of_ble_eq_true rfl) (fun vq hq1 hq2 => ?_)
          obtain ⟨rfl, hf1, hA1⟩ := hq2
          have hW1 := hf1.Wd hW
          have hk1 : Fx [] [(1, 2)] h (am_wI hq1 1 2 (nI (nx tl tp a + 1))) := hf1.tr (Fx.wI (Or.inr (by decide)))
          have hRk := hR.fx hk1 (by decide)
          have hAk := hA1.mv (b := nx tl tp a + 1) (by omega)
          have hWk := hk1.Wd hW
          refine Eq_isn dX4_readUnit_17 (by decide) ?_
          refine Eam_nl (pc' := 18) (l' := [_, _, _, _]) rfl rfl ?_
          refine Eq_iln dX4_readUnit_18 rfl ?_
          refine Eq_bp (v := nI 33) dX4_readUnit_19 rfl ?_
          refine Ef_ic_eq dX4_readUnit_21 (tgt := 52) rfl (by exact fun z => e ((oNlt (fun k hk => by have := h2 k hk; omega) 33 (by omega)).mp z)) ?_
          refine Eq_iln dX4_readUnit_24 rfl ?_
          refine Eq_bp (v := nI 40) dX4_readUnit_25 rfl ?_
          refine Et_ic_eq 52 dX4_readUnit_27 rfl (by rw [e2]; rfl) ?_
          refine Eq_iln dX4_readUnit_52 rfl ?_
          refine Eq_bp (v := nI 6) dX4_readUnit_53 rfl ?_
          refine Et_ic_lt 60 dX4_readUnit_55 rfl (by exact nI_lt (by omega) (by omega)) ?_
          refine Eq_aln dX4_readUnit_60 rfl ?_
          refine Eq_getR dX4_readUnit_61 fl_X4_9 (ws_6 hW1) rfl (wp_6_0 hW1) ?_
          refine Eq_V0 (N := m_X9_step) dX4_readUnit_64 lk_X4_74 mV_X9_step (c_step hW1 hA1) (by omega) (ws_1 hW1) rfl (by decide) (Nat.le_of_ble_eq_true rfl) (Nat.le_of_ble_eq_true rfl) ?_
          refine Eq_iln dX4_readUnit_67 rfl ?_
          refine Eq_bp (v := nI 40) dX4_readUnit_68 rfl ?_
          refine Ef_ic_ne dX4_readUnit_70 (tgt := 102) rfl (by rw [e2]; rfl) ?_
          refine Eq_aln dX4_readUnit_73 rfl ?_
          refine Eq_iln dX4_readUnit_74 rfl ?_
          refine Eq_ic (v := nI 1) dX4_readUnit_75 rfl ?_
          first | refine Eq_add dX4_readUnit_76 ?_ | refine Eam_x_pu dX4_readUnit_76 rfl ?_
          refine Eq_ic (v := nI 0) dX4_readUnit_77 rfl ?_
          refine Eq_W2 (N := m_X4_readCondition) dX4_readUnit_78 lk_X4_58 mV_X4_readCondition (hc hL _ _ _ hWk hAk hRk (by omega)) (by omega) (ws_6 hW1) rfl (by decide) (Nat.le_of_ble_eq_true rfl) (Nat.le_of_ble_eq_true rfl) (fun vq hq1 hq2 => ?_)
          obtain ⟨rfl, hf2, hA2⟩ := hq2.n hq
          have hW2 := hf2.Wd hWk
          refine Et_if_eq 100 dX4_readUnit_81 rfl (by rfl) ?_
          refine Eq_ic (v := nI 0) dX4_readUnit_100 rfl ?_
          first | refine Eq_zrn dX4_readUnit_101 rfl (by first | omega | exact b2_le) ?_ | refine Eq_zr dX4_readUnit_101 rfl (by first | exact Or.inl rfl | exact Or.inr rfl | assumption) ?_
          exact ⟨(hk1.mono (by decide) (by decide)).tr hf2, rfl, hA2⟩
        | some us =>
          rw [bd_s hq]
          have hul := hpi.2.2 us hq
          by_cases ec : sgn tl tp (nx tl tp (ic (nx tl tp a + 1)).1) = some 41
          · rw [if_pos ec]
            refine Eq_iln dX4_readUnit_0 rfl ?_
            refine Et_if_eq 10 dX4_readUnit_1 rfl (by rfl) ?_
            refine Eq_aln dX4_readUnit_10 rfl ?_
            refine Eq_getR dX4_readUnit_11 fl_X4_9 (ws_6 hW) rfl (wp_6_0 hW) ?_
            refine Eq_W0 (N := m_X9_next) dX4_readUnit_14 lk_X4_36 mV_X9_next (c_next hW hA) (by omega) (ws_1 hW) rfl (by decide) (Nat.le_of_ble_eq_true rfl) (Nat.le_of_ble_eq_true rfl) (fun vq hq1 hq2 => ?_)
            obtain ⟨rfl, hf1, hA1⟩ := hq2
            have hW1 := hf1.Wd hW
            have hk1 : Fx [] [(1, 2)] h (am_wI hq1 1 2 (nI (nx tl tp a + 1))) := hf1.tr (Fx.wI (Or.inr (by decide)))
            have hRk := hR.fx hk1 (by decide)
            have hAk := hA1.mv (b := nx tl tp a + 1) (by omega)
            have hWk := hk1.Wd hW
            refine Eq_isn dX4_readUnit_17 (by decide) ?_
            refine Eam_nl (pc' := 18) (l' := [_, _, _, _]) rfl rfl ?_
            refine Eq_iln dX4_readUnit_18 rfl ?_
            refine Eq_bp (v := nI 33) dX4_readUnit_19 rfl ?_
            refine Ef_ic_eq dX4_readUnit_21 (tgt := 52) rfl (by exact fun z => e ((oNlt (fun k hk => by have := h2 k hk; omega) 33 (by omega)).mp z)) ?_
            refine Eq_iln dX4_readUnit_24 rfl ?_
            refine Eq_bp (v := nI 40) dX4_readUnit_25 rfl ?_
            refine Et_ic_eq 52 dX4_readUnit_27 rfl (by rw [e2]; rfl) ?_
            refine Eq_iln dX4_readUnit_52 rfl ?_
            refine Eq_bp (v := nI 6) dX4_readUnit_53 rfl ?_
            refine Et_ic_lt 60 dX4_readUnit_55 rfl (by exact nI_lt (by omega) (by omega)) ?_
            refine Eq_aln dX4_readUnit_60 rfl ?_
            refine Eq_getR dX4_readUnit_61 fl_X4_9 (ws_6 hW1) rfl (wp_6_0 hW1) ?_
            refine Eq_V0 (N := m_X9_step) dX4_readUnit_64 lk_X4_74 mV_X9_step (c_step hW1 hA1) (by omega) (ws_1 hW1) rfl (by decide) (Nat.le_of_ble_eq_true rfl) (Nat.le_of_ble_eq_true rfl) ?_
            refine Eq_iln dX4_readUnit_67 rfl ?_
            refine Eq_bp (v := nI 40) dX4_readUnit_68 rfl ?_
            refine Ef_ic_ne dX4_readUnit_70 (tgt := 102) rfl (by rw [e2]; rfl) ?_
            refine Eq_aln dX4_readUnit_73 rfl ?_
            refine Eq_iln dX4_readUnit_74 rfl ?_
            refine Eq_ic (v := nI 1) dX4_readUnit_75 rfl ?_
            first | refine Eq_add dX4_readUnit_76 ?_ | refine Eam_x_pu dX4_readUnit_76 rfl ?_
            refine Eq_ic (v := nI 0) dX4_readUnit_77 rfl ?_
            refine Eq_W2 (N := m_X4_readCondition) dX4_readUnit_78 lk_X4_58 mV_X4_readCondition (hc hL _ _ _ hWk hAk hRk (by omega)) (by omega) (ws_6 hW1) rfl (by decide) (Nat.le_of_ble_eq_true rfl) (Nat.le_of_ble_eq_true rfl) (fun vq hq1 hq2 => ?_)
            obtain ⟨rfl, hf2, hA2, hR2⟩ := hq2.s hq
            have hW2 := hf2.Wd hWk
            refine Ef_if_eq dX4_readUnit_81 (tgt := 100) rfl (by exact zf1) ?_
            refine Eq_aln dX4_readUnit_84 rfl ?_
            refine Eq_getR dX4_readUnit_85 fl_X4_9 (ws_6 hW2) rfl (wp_6_0 hW2) ?_
            refine Eq_bp (v := nI 41) dX4_readUnit_88 rfl ?_
            refine Eq_W1 (N := m_X9_pass) dX4_readUnit_90 lk_X4_32 mV_X9_pass (c_pass hW2 hA2 (c := 41) (by omega)) (by omega) (ws_1 hW2) rfl (by decide) (Nat.le_of_ble_eq_true rfl) (Nat.le_of_ble_eq_true rfl) (fun vq hq1 hq2 => ?_)
            rw [if_pos ec] at hq2
            obtain ⟨rfl, hf3, hA3⟩ := hq2
            refine Ef_if_eq dX4_readUnit_93 (tgt := 100) rfl (by exact zf1) ?_
            refine Eq_ic (v := nI 1) dX4_readUnit_96 rfl ?_
            refine Eam_x_goto (tgt := 101) dX4_readUnit_97 rfl ?_
            first | refine Eq_zrn dX4_readUnit_101 rfl (by first | omega | exact b2_le) ?_ | refine Eq_zr dX4_readUnit_101 rfl (by first | exact Or.inl rfl | exact Or.inr rfl | assumption) ?_
            exact ⟨(hk1.mono (by decide) (by decide)).tr (hf2.tr (hf3.mono (by decide) (by decide))), rfl, hA3, hR2.fx hf3 (by decide)⟩
          · rw [if_neg ec]
            refine Eq_iln dX4_readUnit_0 rfl ?_
            refine Et_if_eq 10 dX4_readUnit_1 rfl (by rfl) ?_
            refine Eq_aln dX4_readUnit_10 rfl ?_
            refine Eq_getR dX4_readUnit_11 fl_X4_9 (ws_6 hW) rfl (wp_6_0 hW) ?_
            refine Eq_W0 (N := m_X9_next) dX4_readUnit_14 lk_X4_36 mV_X9_next (c_next hW hA) (by omega) (ws_1 hW) rfl (by decide) (Nat.le_of_ble_eq_true rfl) (Nat.le_of_ble_eq_true rfl) (fun vq hq1 hq2 => ?_)
            obtain ⟨rfl, hf1, hA1⟩ := hq2
            have hW1 := hf1.Wd hW
            have hk1 : Fx [] [(1, 2)] h (am_wI hq1 1 2 (nI (nx tl tp a + 1))) := hf1.tr (Fx.wI (Or.inr (by decide)))
            have hRk := hR.fx hk1 (by decide)
            have hAk := hA1.mv (b := nx tl tp a + 1) (by omega)
            have hWk := hk1.Wd hW
            refine Eq_isn dX4_readUnit_17 (by decide) ?_
            refine Eam_nl (pc' := 18) (l' := [_, _, _, _]) rfl rfl ?_
            refine Eq_iln dX4_readUnit_18 rfl ?_
            refine Eq_bp (v := nI 33) dX4_readUnit_19 rfl ?_
            refine Ef_ic_eq dX4_readUnit_21 (tgt := 52) rfl (by exact fun z => e ((oNlt (fun k hk => by have := h2 k hk; omega) 33 (by omega)).mp z)) ?_
            refine Eq_iln dX4_readUnit_24 rfl ?_
            refine Eq_bp (v := nI 40) dX4_readUnit_25 rfl ?_
            refine Et_ic_eq 52 dX4_readUnit_27 rfl (by rw [e2]; rfl) ?_
            refine Eq_iln dX4_readUnit_52 rfl ?_
            refine Eq_bp (v := nI 6) dX4_readUnit_53 rfl ?_
            refine Et_ic_lt 60 dX4_readUnit_55 rfl (by exact nI_lt (by omega) (by omega)) ?_
            refine Eq_aln dX4_readUnit_60 rfl ?_
            refine Eq_getR dX4_readUnit_61 fl_X4_9 (ws_6 hW1) rfl (wp_6_0 hW1) ?_
            refine Eq_V0 (N := m_X9_step) dX4_readUnit_64 lk_X4_74 mV_X9_step (c_step hW1 hA1) (by omega) (ws_1 hW1) rfl (by decide) (Nat.le_of_ble_eq_true rfl) (Nat.le_of_ble_eq_true rfl) ?_
            refine Eq_iln dX4_readUnit_67 rfl ?_
            refine Eq_bp (v := nI 40) dX4_readUnit_68 rfl ?_
            refine Ef_ic_ne dX4_readUnit_70 (tgt := 102) rfl (by rw [e2]; rfl) ?_
            refine Eq_aln dX4_readUnit_73 rfl ?_
            refine Eq_iln dX4_readUnit_74 rfl ?_
            refine Eq_ic (v := nI 1) dX4_readUnit_75 rfl ?_
            first | refine Eq_add dX4_readUnit_76 ?_ | refine Eam_x_pu dX4_readUnit_76 rfl ?_
            refine Eq_ic (v := nI 0) dX4_readUnit_77 rfl ?_
            refine Eq_W2 (N := m_X4_readCondition) dX4_readUnit_78 lk_X4_58 mV_X4_readCondition (hc hL _ _ _ hWk hAk hRk (by omega)) (by omega) (ws_6 hW1) rfl (by decide) (Nat.le_of_ble_eq_true rfl) (Nat.le_of_ble_eq_true rfl) (fun vq hq1 hq2 => ?_)
            obtain ⟨rfl, hf2, hA2, hR2⟩ := hq2.s hq
            have hW2 := hf2.Wd hWk
            refine Ef_if_eq dX4_readUnit_81 (tgt := 100) rfl (by exact zf1) ?_
            refine Eq_aln dX4_readUnit_84 rfl ?_
            refine Eq_getR dX4_readUnit_85 fl_X4_9 (ws_6 hW2) rfl (wp_6_0 hW2) ?_
            refine Eq_bp (v := nI 41) dX4_readUnit_88 rfl ?_
            refine Eq_W1 (N := m_X9_pass) dX4_readUnit_90 lk_X4_32 mV_X9_pass (c_pass hW2 hA2 (c := 41) (by omega)) (by omega) (ws_1 hW2) rfl (by decide) (Nat.le_of_ble_eq_true rfl) (Nat.le_of_ble_eq_true rfl) (fun vq hq1 hq2 => ?_)
            rw [if_neg ec] at hq2
            obtain ⟨rfl, hf3, hA3⟩ := hq2
            refine Et_if_eq 100 dX4_readUnit_93 rfl (by rfl) ?_
            refine Eq_ic (v := nI 0) dX4_readUnit_100 rfl ?_
            first | refine Eq_zrn dX4_readUnit_101 rfl (by first | omega | exact b2_le) ?_ | refine Eq_zr dX4_readUnit_101 rfl (by first | exact Or.inl rfl | exact Or.inr rfl | assumption) ?_
            exact ⟨(hk1.mono (by decide) (by decide)).tr (hf2.tr (hf3.mono (by decide) (by decide))), rfl, hA3⟩
    · rw [if_neg e2]
      have hpi := hp (nx tl tp a) hx2
      cases hq : (sum (nx tl tp a)).2 with
      | none =>
        rw [bd_n hq]
        refine Eq_iln dX4_readUnit_0 rfl ?_
        refine Et_if_eq 10 dX4_readUnit_1 rfl (by rfl) ?_
        refine Eq_aln dX4_readUnit_10 rfl ?_
        refine Eq_getR dX4_readUnit_11 fl_X4_9 (ws_6 hW) rfl (wp_6_0 hW) ?_
        refine Eq_W0 (N := m_X9_next) dX4_readUnit_14 lk_X4_36 mV_X9_next (c_next hW hA) (by omega) (ws_1 hW) rfl (by decide) (Nat.le_of_ble_eq_true rfl) (Nat.le_of_ble_eq_true rfl) (fun vq hq1 hq2 => ?_)
        obtain ⟨rfl, hf1, hA1⟩ := hq2
        have hW1 := hf1.Wd hW
        have hR1 := hR.fx hf1 (by decide)
        refine Eq_isn dX4_readUnit_17 (by decide) ?_
        refine Eam_nl (pc' := 18) (l' := [_, _, _, _]) rfl rfl ?_
        refine Eq_iln dX4_readUnit_18 rfl ?_
        refine Eq_bp (v := nI 33) dX4_readUnit_19 rfl ?_
        refine Ef_ic_eq dX4_readUnit_21 (tgt := 52) rfl (by exact fun z => e ((oNlt (fun k hk => by have := h2 k hk; omega) 33 (by omega)).mp z)) ?_
        refine Eq_iln dX4_readUnit_24 rfl ?_
        refine Eq_bp (v := nI 40) dX4_readUnit_25 rfl ?_
        refine Ef_ic_eq dX4_readUnit_27 (tgt := 52) rfl (by exact fun z => e2 ((oNlt (fun k hk => by have := h2 k hk; omega) 40 (by omega)).mp z)) ?_
        refine Eq_aln dX4_readUnit_30 rfl ?_
        refine Eq_iln dX4_readUnit_31 rfl ?_
        refine Eq_W1 (N := m_X4_readSum) dX4_readUnit_32 lk_X4_48 mV_X4_readSum (hs _ _ _ hW1 hA1 hR1 (by omega)) (by omega) (ws_6 hW1) rfl (by decide) (Nat.le_of_ble_eq_true rfl) (Nat.le_of_ble_eq_true rfl) (fun vq hq1 hq2 => ?_)
        obtain ⟨rfl, hf2, hA2⟩ := hq2.n hq
        refine Et_if_eq 50 dX4_readUnit_35 rfl (by rfl) ?_
        refine Eq_ic (v := nI 0) dX4_readUnit_50 rfl ?_
        first | refine Eq_zrn dX4_readUnit_51 rfl (by first | omega | exact b2_le) ?_ | refine Eq_zr dX4_readUnit_51 rfl (by first | exact Or.inl rfl | exact Or.inr rfl | assumption) ?_
        exact ⟨(hf1.mono (by decide) (by decide)).tr hf2, rfl, hA2⟩
      | some us =>
        rw [bd_s hq]
        have hul := hpi.2.2 us hq
        cases hr : (rlt tl tp sum (sum (nx tl tp a)).1 us).2 with
        | none =>
          refine Eq_iln dX4_readUnit_0 rfl ?_
          refine Et_if_eq 10 dX4_readUnit_1 rfl (by rfl) ?_
          refine Eq_aln dX4_readUnit_10 rfl ?_
          refine Eq_getR dX4_readUnit_11 fl_X4_9 (ws_6 hW) rfl (wp_6_0 hW) ?_
          refine Eq_W0 (N := m_X9_next) dX4_readUnit_14 lk_X4_36 mV_X9_next (c_next hW hA) (by omega) (ws_1 hW) rfl (by decide) (Nat.le_of_ble_eq_true rfl) (Nat.le_of_ble_eq_true rfl) (fun vq hq1 hq2 => ?_)
          obtain ⟨rfl, hf1, hA1⟩ := hq2
          have hW1 := hf1.Wd hW
          have hR1 := hR.fx hf1 (by decide)
          refine Eq_isn dX4_readUnit_17 (by decide) ?_
          refine Eam_nl (pc' := 18) (l' := [_, _, _, _]) rfl rfl ?_
          refine Eq_iln dX4_readUnit_18 rfl ?_
          refine Eq_bp (v := nI 33) dX4_readUnit_19 rfl ?_
          refine Ef_ic_eq dX4_readUnit_21 (tgt := 52) rfl (by exact fun z => e ((oNlt (fun k hk => by have := h2 k hk; omega) 33 (by omega)).mp z)) ?_
          refine Eq_iln dX4_readUnit_24 rfl ?_
          refine Eq_bp (v := nI 40) dX4_readUnit_25 rfl ?_
          refine Ef_ic_eq dX4_readUnit_27 (tgt := 52) rfl (by exact fun z => e2 ((oNlt (fun k hk => by have := h2 k hk; omega) 40 (by omega)).mp z)) ?_
          refine Eq_aln dX4_readUnit_30 rfl ?_
          refine Eq_iln dX4_readUnit_31 rfl ?_
          refine Eq_W1 (N := m_X4_readSum) dX4_readUnit_32 lk_X4_48 mV_X4_readSum (hs _ _ _ hW1 hA1 hR1 (by omega)) (by omega) (ws_6 hW1) rfl (by decide) (Nat.le_of_ble_eq_true rfl) (Nat.le_of_ble_eq_true rfl) (fun vq hq1 hq2 => ?_)
          obtain ⟨rfl, hf2, hA2, hR2⟩ := hq2.s hq
          have hW2 := hf2.Wd hW1
          refine Ef_if_eq dX4_readUnit_35 (tgt := 50) rfl (by exact zf1) ?_
          refine Eq_aln dX4_readUnit_38 rfl ?_
          refine Eq_iln dX4_readUnit_39 rfl ?_
          refine Eq_W1 (N := m_X4_readRelation) dX4_readUnit_40 lk_X4_71 mV_X4_readRelation (c_readRelation hs hp hd hW2 hA2 hR2 (by simp only [List.length_append, List.length_map]; omega)) (by omega) (ws_6 hW2) rfl (by decide) (Nat.le_of_ble_eq_true rfl) (Nat.le_of_ble_eq_true rfl) (fun vq hq1 hq2 => ?_)
          have hq3 := hq2.n hr
          obtain ⟨rfl, hf3, hA3⟩ := hq3
          refine Et_if_eq 50 dX4_readUnit_43 rfl (by rfl) ?_
          refine Eq_ic (v := nI 0) dX4_readUnit_50 rfl ?_
          first | refine Eq_zrn dX4_readUnit_51 rfl (by first | omega | exact b2_le) ?_ | refine Eq_zr dX4_readUnit_51 rfl (by first | exact Or.inl rfl | exact Or.inr rfl | assumption) ?_
          exact hq2.tr ((hf1.mono (by decide) (by decide)).tr hf2)
        | some vs =>
          refine Eq_iln dX4_readUnit_0 rfl ?_
          refine Et_if_eq 10 dX4_readUnit_1 rfl (by rfl) ?_
          refine Eq_aln dX4_readUnit_10 rfl ?_
          refine Eq_getR dX4_readUnit_11 fl_X4_9 (ws_6 hW) rfl (wp_6_0 hW) ?_
          refine Eq_W0 (N := m_X9_next) dX4_readUnit_14 lk_X4_36 mV_X9_next (c_next hW hA) (by omega) (ws_1 hW) rfl (by decide) (Nat.le_of_ble_eq_true rfl) (Nat.le_of_ble_eq_true rfl) (fun vq hq1 hq2 => ?_)
          obtain ⟨rfl, hf1, hA1⟩ := hq2
          have hW1 := hf1.Wd hW
          have hR1 := hR.fx hf1 (by decide)
          refine Eq_isn dX4_readUnit_17 (by decide) ?_
          refine Eam_nl (pc' := 18) (l' := [_, _, _, _]) rfl rfl ?_
          refine Eq_iln dX4_readUnit_18 rfl ?_
          refine Eq_bp (v := nI 33) dX4_readUnit_19 rfl ?_
          refine Ef_ic_eq dX4_readUnit_21 (tgt := 52) rfl (by exact fun z => e ((oNlt (fun k hk => by have := h2 k hk; omega) 33 (by omega)).mp z)) ?_
          refine Eq_iln dX4_readUnit_24 rfl ?_
          refine Eq_bp (v := nI 40) dX4_readUnit_25 rfl ?_
          refine Ef_ic_eq dX4_readUnit_27 (tgt := 52) rfl (by exact fun z => e2 ((oNlt (fun k hk => by have := h2 k hk; omega) 40 (by omega)).mp z)) ?_
          refine Eq_aln dX4_readUnit_30 rfl ?_
          refine Eq_iln dX4_readUnit_31 rfl ?_
          refine Eq_W1 (N := m_X4_readSum) dX4_readUnit_32 lk_X4_48 mV_X4_readSum (hs _ _ _ hW1 hA1 hR1 (by omega)) (by omega) (ws_6 hW1) rfl (by decide) (Nat.le_of_ble_eq_true rfl) (Nat.le_of_ble_eq_true rfl) (fun vq hq1 hq2 => ?_)
          obtain ⟨rfl, hf2, hA2, hR2⟩ := hq2.s hq
          have hW2 := hf2.Wd hW1
          refine Ef_if_eq dX4_readUnit_35 (tgt := 50) rfl (by exact zf1) ?_
          refine Eq_aln dX4_readUnit_38 rfl ?_
          refine Eq_iln dX4_readUnit_39 rfl ?_
          refine Eq_W1 (N := m_X4_readRelation) dX4_readUnit_40 lk_X4_71 mV_X4_readRelation (c_readRelation hs hp hd hW2 hA2 hR2 (by simp only [List.length_append, List.length_map]; omega)) (by omega) (ws_6 hW2) rfl (by decide) (Nat.le_of_ble_eq_true rfl) (Nat.le_of_ble_eq_true rfl) (fun vq hq1 hq2 => ?_)
          have hq3 := hq2.s hr
          obtain ⟨rfl, hf3, hA3⟩ := hq3
          refine Ef_if_eq dX4_readUnit_43 (tgt := 50) rfl (by exact zf1) ?_
          refine Eq_ic (v := nI 1) dX4_readUnit_46 rfl ?_
          refine Eam_x_goto (tgt := 51) dX4_readUnit_47 rfl ?_
          first | refine Eq_zrn dX4_readUnit_51 rfl (by first | omega | exact b2_le) ?_ | refine Eq_zr dX4_readUnit_51 rfl (by first | exact Or.inl rfl | exact Or.inr rfl | assumption) ?_
          exact hq2.tr ((hf1.mono (by decide) (by decide)).tr hf2)
set_option maxHeartbeats 2000000 in
theorem c_readTruth_lp {tl : Nat} {tp : Nat → Nat} {d e : Nat} {x : Int32} {p : Nat → Rd} (hs : SC2 tl tp m_X4_readUnit d e p) (hp : Prs tl p) (hd : 2 ≤ d) {l : List Int32} : ∀ k b ts h j, tl < b + k → 2 * j ≤ b → Wd h → TA h tl tp b → WR h (l ++ ts.map cs) → (l ++ ts.map cs).length ≤ b → am_E (d + 1) m_X4_readTruth 13 [some (.ref 6), some (.int (nI e)), some (.int x), some (.int (nI j))] [] h (PQ tl tp (chn tl tp opA p k b ts) l h) := by
  intro k
  induction k with
  | zero => intro b ts h j hk hj hW hA; have := hA.2.2; omega
  | succ k ih =>
    intro b ts h j hk hj hW hA hR hl
    have h2 := sgn256 hA (nx tl tp b)
    have hx1 := nx_ge (tl := tl) (tp := tp) (a := b)
    have hx2 := nx_le (tp := tp) hA.2.2
    have htl := hA.1.2.1
    by_cases ec : sgn tl tp (nx tl tp b) = some 38
    · have hlt := (sgn_lt ec).1
      have ho : opA (sgn tl tp (nx tl tp b)) = some 10 := by rw [ec]; rfl
      rw [chn_s ho]
      have hpi := hp (nx tl tp b + 1) (by omega)
      cases hq : (p (nx tl tp b + 1)).2 with
      | none =>
        rw [bd_n hq]
        refine Eq_iln dX4_readTruth_13 rfl ?_
        refine Eq_sp (v := nI 160) dX4_readTruth_14 rfl ?_
        refine Ef_ic_ge dX4_readTruth_17 (tgt := 55) rfl (by exact nI_ge (b := 160) (by omega) (by omega)) ?_
        refine Eq_aln dX4_readTruth_20 rfl ?_
        refine Eq_getR dX4_readTruth_21 fl_X4_9 (ws_6 hW) rfl (wp_6_0 hW) ?_
        refine Eq_bp (v := nI 38) dX4_readTruth_24 rfl ?_
        refine Eq_W1 (N := m_X9_pass) dX4_readTruth_26 lk_X4_32 mV_X9_pass (c_pass hW hA (c := 38) (by omega)) (by omega) (ws_1 hW) rfl (by decide) (Nat.le_of_ble_eq_true rfl) (Nat.le_of_ble_eq_true rfl) (fun vq hq1 hq2 => ?_)
        rw [if_pos ec] at hq2
        obtain ⟨rfl, hk1, hAk⟩ := hq2
        have hRk := hR.fx hk1 (by decide)
        have hWk := hk1.Wd hW
        refine Ef_if_eq dX4_readTruth_29 (tgt := 55) rfl (by exact zf1) ?_
        refine Eq_aln dX4_readTruth_32 rfl ?_
        refine Eq_iln dX4_readTruth_33 rfl ?_
        refine Eq_ic (v := nI 0) dX4_readTruth_34 rfl ?_
        refine Eq_W2 (N := m_X4_readUnit) dX4_readTruth_35 lk_X4_68 mV_X4_readUnit (hs _ _ _ hWk hAk hRk (by omega)) (by omega) (ws_6 hWk) rfl (by decide) (Nat.le_of_ble_eq_true rfl) (Nat.le_of_ble_eq_true rfl) (fun vq hq1 hq2 => ?_)
        obtain ⟨rfl, hf2, hA2⟩ := hq2.n hq
        refine Ef_if_ne dX4_readTruth_38 (tgt := 43) rfl (by rfl) ?_
        refine Eq_ic (v := nI 0) dX4_readTruth_41 rfl ?_
        first | refine Eq_zrn dX4_readTruth_42 rfl (by first | omega | exact b2_le) ?_ | refine Eq_zr dX4_readTruth_42 rfl (by first | exact Or.inl rfl | exact Or.inr rfl | assumption) ?_
        exact ⟨(hk1.mono (by decide) (by decide)).tr hf2, rfl, hA2⟩
      | some us =>
        rw [bd_s hq]
        have hul := hpi.2.2 us hq
        refine Eq_iln dX4_readTruth_13 rfl ?_
        refine Eq_sp (v := nI 160) dX4_readTruth_14 rfl ?_
        refine Ef_ic_ge dX4_readTruth_17 (tgt := 55) rfl (by exact nI_ge (b := 160) (by omega) (by omega)) ?_
        refine Eq_aln dX4_readTruth_20 rfl ?_
        refine Eq_getR dX4_readTruth_21 fl_X4_9 (ws_6 hW) rfl (wp_6_0 hW) ?_
        refine Eq_bp (v := nI 38) dX4_readTruth_24 rfl ?_
        refine Eq_W1 (N := m_X9_pass) dX4_readTruth_26 lk_X4_32 mV_X9_pass (c_pass hW hA (c := 38) (by omega)) (by omega) (ws_1 hW) rfl (by decide) (Nat.le_of_ble_eq_true rfl) (Nat.le_of_ble_eq_true rfl) (fun vq hq1 hq2 => ?_)
        rw [if_pos ec] at hq2
        obtain ⟨rfl, hk1, hAk⟩ := hq2
        have hRk := hR.fx hk1 (by decide)
        have hWk := hk1.Wd hW
        refine Ef_if_eq dX4_readTruth_29 (tgt := 55) rfl (by exact zf1) ?_
        refine Eq_aln dX4_readTruth_32 rfl ?_
        refine Eq_iln dX4_readTruth_33 rfl ?_
        refine Eq_ic (v := nI 0) dX4_readTruth_34 rfl ?_
        refine Eq_W2 (N := m_X4_readUnit) dX4_readTruth_35 lk_X4_68 mV_X4_readUnit (hs _ _ _ hWk hAk hRk (by omega)) (by omega) (ws_6 hWk) rfl (by decide) (Nat.le_of_ble_eq_true rfl) (Nat.le_of_ble_eq_true rfl) (fun vq hq1 hq2 => ?_)
        obtain ⟨rfl, hf2, hA2, hR2⟩ := hq2.s hq
        have hW2 := hf2.Wd hWk
        refine Et_if_ne 43 dX4_readTruth_38 rfl (by exact zf1) ?_
        refine Eq_aln dX4_readTruth_43 rfl ?_
        refine Eq_bp (v := -38) dX4_readTruth_44 rfl ?_
        refine Eq_W1 (N := m_X4_write) dX4_readTruth_46 lk_X4_54 mV_X4_write (c_write hW2 hR2 (by simp only [List.length_append, List.length_map] at hl ⊢; omega)) (by omega) (ws_6 hW2) rfl (by decide) (Nat.le_of_ble_eq_true rfl) (Nat.le_of_ble_eq_true rfl) (fun vq hq1 hq2 => ?_)
        obtain ⟨rfl, hf3, hR3⟩ := hq2
        refine Eq_inc dX4_readTruth_49 rfl (by decide) ?_
        refine Eam_nl (pc' := 52) (l' := [_, _, _, _]) rfl rfl ?_
        refine Eam_x_goto (tgt := 13) dX4_readTruth_52 rfl ?_
        have hR4 : WR hq1 (l ++ (ts ++ us ++ [(10, 0)]).map cs) := by rw [← map3]; exact hR3
        obtain ⟨v5, h5, z1, z2⟩ := ih (p (nx tl tp b + 1)).1 (ts ++ us ++ [(10, 0)]) _ (j + 1) (by omega) (by omega) (hf3.Wd hW2) (hA2.fx hf3 (by decide)) hR4 (by simp only [List.length_append, List.length_map, List.length_cons, List.length_nil] at hl ⊢; omega)
        exact ⟨v5, h5, z1, z2.tr ((hk1.mono (by decide) (by decide)).tr (hf2.tr (hf3.mono (by decide) (by decide))))⟩
    · have ho : opA (sgn tl tp (nx tl tp b)) = none := by unfold opA; rw [if_neg ec]
      rw [chn_n ho]
      refine Eq_iln dX4_readTruth_13 rfl ?_
      refine Eq_sp (v := nI 160) dX4_readTruth_14 rfl ?_
      refine Ef_ic_ge dX4_readTruth_17 (tgt := 55) rfl (by exact nI_ge (b := 160) (by omega) (by omega)) ?_
      refine Eq_aln dX4_readTruth_20 rfl ?_
      refine Eq_getR dX4_readTruth_21 fl_X4_9 (ws_6 hW) rfl (wp_6_0 hW) ?_
      refine Eq_bp (v := nI 38) dX4_readTruth_24 rfl ?_
      refine Eq_W1 (N := m_X9_pass) dX4_readTruth_26 lk_X4_32 mV_X9_pass (c_pass hW hA (c := 38) (by omega)) (by omega) (ws_1 hW) rfl (by decide) (Nat.le_of_ble_eq_true rfl) (Nat.le_of_ble_eq_true rfl) (fun vq hq1 hq2 => ?_)
      rw [if_neg ec] at hq2
      obtain ⟨rfl, hf1, hA1⟩ := hq2
      have hR1 := hR.fx hf1 (by decide)
      refine Et_if_eq 55 dX4_readTruth_29 rfl (by rfl) ?_
      refine Eq_ic (v := nI 1) dX4_readTruth_55 rfl ?_
      first | refine Eq_zrn dX4_readTruth_56 rfl (by first | omega | exact b2_le) ?_ | refine Eq_zr dX4_readTruth_56 rfl (by first | exact Or.inl rfl | exact Or.inr rfl | assumption) ?_
      exact ⟨hf1.mono (by decide) (by decide), rfl, hA1, hR1⟩
set_option maxHeartbeats 2000000 in
theorem c_readTruth_g {tl : Nat} {tp : Nat → Nat} {d e : Nat} {x : Int32} {p : Nat → Rd} (hs : SC2 tl tp m_X4_readUnit d e p) (hp : Prs tl p) (hd : 2 ≤ d) {h : am_H} {l : List Int32} {r : Rd} (hf : am_D d m_X4_readUnit [.ref 6, .int (nI e), .int x] h (PQ tl tp r l h)) (hW : Wd h) (htl : tl ≤ 160) (hr : ∀ ts, r.2 = some ts → l.length + ts.length ≤ r.1) : am_D (d + 1) m_X4_readTruth [.ref 6, .int (nI e), .int x] h (PQ tl tp (bd r (chn tl tp opA p 161)) l h) := by
  cases hq : r.2 with
  | none =>
    rw [bd_n hq]
    refine Eq_aln dX4_readTruth_0 rfl ?_
    refine Eq_iln dX4_readTruth_1 rfl ?_
    refine Eq_iln dX4_readTruth_2 rfl ?_
    refine Eq_W2 (N := m_X4_readUnit) dX4_readTruth_3 lk_X4_68 mV_X4_readUnit (hf) (by omega) (ws_6 hW) rfl (by decide) (Nat.le_of_ble_eq_true rfl) (Nat.le_of_ble_eq_true rfl) (fun vq hq1 hq2 => ?_)
    obtain ⟨rfl, hf2, hA2⟩ := hq2.n hq
    refine Ef_if_ne dX4_readTruth_6 (tgt := 11) rfl (by rfl) ?_
    refine Eq_ic (v := nI 0) dX4_readTruth_9 rfl ?_
    first | refine Eq_zrn dX4_readTruth_10 rfl (by first | omega | exact b2_le) ?_ | refine Eq_zr dX4_readTruth_10 rfl (by first | exact Or.inl rfl | exact Or.inr rfl | assumption) ?_
    exact ⟨hf2, rfl, hA2⟩
  | some ts =>
    rw [bd_s hq]
    have hul := hr ts hq
    refine Eq_aln dX4_readTruth_0 rfl ?_
    refine Eq_iln dX4_readTruth_1 rfl ?_
    refine Eq_iln dX4_readTruth_2 rfl ?_
    refine Eq_W2 (N := m_X4_readUnit) dX4_readTruth_3 lk_X4_68 mV_X4_readUnit (hf) (by omega) (ws_6 hW) rfl (by decide) (Nat.le_of_ble_eq_true rfl) (Nat.le_of_ble_eq_true rfl) (fun vq hq1 hq2 => ?_)
    obtain ⟨rfl, hf2, hA2, hR2⟩ := hq2.s hq
    refine Et_if_ne 11 dX4_readTruth_6 rfl (by exact zf1) ?_
    refine Eq_ic (v := nI 0) dX4_readTruth_11 rfl ?_
    refine Eq_isn dX4_readTruth_12 (by decide) ?_
    refine Eam_nl (pc' := 13) (l' := [_, _, _, _]) rfl rfl ?_
    obtain ⟨v5, h5, z1, z2⟩ := c_readTruth_lp hs hp hd 161 r.1 ts _ 0 (by omega) (by omega) (hf2.Wd hW) hA2 hR2 (by simp only [List.length_append, List.length_map]; omega)
    exact ⟨v5, h5, z1, z2.tr hf2⟩
set_option maxHeartbeats 2000000 in
theorem c_readTruth {tl : Nat} {tp : Nat → Nat} {d e : Nat} {p : Nat → Rd} (hs : SC2 tl tp m_X4_readUnit d e p) (hp : Prs tl p) (hd : 2 ≤ d) : SC2 tl tp m_X4_readTruth (d + 1) e (chs tl tp opA p) := by
  intro h a l hW hA hR hl
  exact c_readTruth_g hs hp hd (hs h a l hW hA hR hl) hW hA.1.2.1 (fun ts hq => by have := (hp a hA.2.2).2.2 ts hq; omega)
set_option maxHeartbeats 2000000 in
theorem c_readCondition_lp {tl : Nat} {tp : Nat → Nat} {d e : Nat} {x : Int32} {p : Nat → Rd} (hs : SC2 tl tp m_X4_readTruth d e p) (hp : Prs tl p) (hd : 2 ≤ d) {l : List Int32} : ∀ k b ts h j, tl < b + k → 2 * j ≤ b → Wd h → TA h tl tp b → WR h (l ++ ts.map cs) → (l ++ ts.map cs).length ≤ b → am_E (d + 1) m_X4_readCondition 13 [some (.ref 6), some (.int (nI e)), some (.int x), some (.int (nI j))] [] h (PQ tl tp (chn tl tp opO p k b ts) l h) := by
  intro k
  induction k with
  | zero => intro b ts h j hk hj hW hA; have := hA.2.2; omega
  | succ k ih =>
    intro b ts h j hk hj hW hA hR hl
    have h2 := sgn256 hA (nx tl tp b)
    have hx1 := nx_ge (tl := tl) (tp := tp) (a := b)
    have hx2 := nx_le (tp := tp) hA.2.2
    have htl := hA.1.2.1
    by_cases ec : sgn tl tp (nx tl tp b) = some 124
    · have hlt := (sgn_lt ec).1
      have ho : opO (sgn tl tp (nx tl tp b)) = some 11 := by rw [ec]; rfl
      rw [chn_s ho]
      have hpi := hp (nx tl tp b + 1) (by omega)
      cases hq : (p (nx tl tp b + 1)).2 with
      | none =>
        rw [bd_n hq]
        refine Eq_iln dX4_readCondition_13 rfl ?_
        refine Eq_sp (v := nI 160) dX4_readCondition_14 rfl ?_
        refine Ef_ic_ge dX4_readCondition_17 (tgt := 55) rfl (by exact nI_ge (b := 160) (by omega) (by omega)) ?_
        refine Eq_aln dX4_readCondition_20 rfl ?_
        refine Eq_getR dX4_readCondition_21 fl_X4_9 (ws_6 hW) rfl (wp_6_0 hW) ?_
        refine Eq_bp (v := nI 124) dX4_readCondition_24 rfl ?_
        refine Eq_W1 (N := m_X9_pass) dX4_readCondition_26 lk_X4_32 mV_X9_pass (c_pass hW hA (c := 124) (by omega)) (by omega) (ws_1 hW) rfl (by decide) (Nat.le_of_ble_eq_true rfl) (Nat.le_of_ble_eq_true rfl) (fun vq hq1 hq2 => ?_)
        rw [if_pos ec] at hq2
        obtain ⟨rfl, hk1, hAk⟩ := hq2
        have hRk := hR.fx hk1 (by decide)
        have hWk := hk1.Wd hW
        refine Ef_if_eq dX4_readCondition_29 (tgt := 55) rfl (by exact zf1) ?_
        refine Eq_aln dX4_readCondition_32 rfl ?_
        refine Eq_iln dX4_readCondition_33 rfl ?_
        refine Eq_ic (v := nI 0) dX4_readCondition_34 rfl ?_
        refine Eq_W2 (N := m_X4_readTruth) dX4_readCondition_35 lk_X4_65 mV_X4_readTruth (hs _ _ _ hWk hAk hRk (by omega)) (by omega) (ws_6 hWk) rfl (by decide) (Nat.le_of_ble_eq_true rfl) (Nat.le_of_ble_eq_true rfl) (fun vq hq1 hq2 => ?_)
        obtain ⟨rfl, hf2, hA2⟩ := hq2.n hq
        refine Ef_if_ne dX4_readCondition_38 (tgt := 43) rfl (by rfl) ?_
        refine Eq_ic (v := nI 0) dX4_readCondition_41 rfl ?_
        first | refine Eq_zrn dX4_readCondition_42 rfl (by first | omega | exact b2_le) ?_ | refine Eq_zr dX4_readCondition_42 rfl (by first | exact Or.inl rfl | exact Or.inr rfl | assumption) ?_
        exact ⟨(hk1.mono (by decide) (by decide)).tr hf2, rfl, hA2⟩
      | some us =>
        rw [bd_s hq]
        have hul := hpi.2.2 us hq
        refine Eq_iln dX4_readCondition_13 rfl ?_
        refine Eq_sp (v := nI 160) dX4_readCondition_14 rfl ?_
        refine Ef_ic_ge dX4_readCondition_17 (tgt := 55) rfl (by exact nI_ge (b := 160) (by omega) (by omega)) ?_
        refine Eq_aln dX4_readCondition_20 rfl ?_
        refine Eq_getR dX4_readCondition_21 fl_X4_9 (ws_6 hW) rfl (wp_6_0 hW) ?_
        refine Eq_bp (v := nI 124) dX4_readCondition_24 rfl ?_
        refine Eq_W1 (N := m_X9_pass) dX4_readCondition_26 lk_X4_32 mV_X9_pass (c_pass hW hA (c := 124) (by omega)) (by omega) (ws_1 hW) rfl (by decide) (Nat.le_of_ble_eq_true rfl) (Nat.le_of_ble_eq_true rfl) (fun vq hq1 hq2 => ?_)
        rw [if_pos ec] at hq2
        obtain ⟨rfl, hk1, hAk⟩ := hq2
        have hRk := hR.fx hk1 (by decide)
        have hWk := hk1.Wd hW
        refine Ef_if_eq dX4_readCondition_29 (tgt := 55) rfl (by exact zf1) ?_
        refine Eq_aln dX4_readCondition_32 rfl ?_
        refine Eq_iln dX4_readCondition_33 rfl ?_
        refine Eq_ic (v := nI 0) dX4_readCondition_34 rfl ?_
        refine Eq_W2 (N := m_X4_readTruth) dX4_readCondition_35 lk_X4_65 mV_X4_readTruth (hs _ _ _ hWk hAk hRk (by omega)) (by omega) (ws_6 hWk) rfl (by decide) (Nat.le_of_ble_eq_true rfl) (Nat.le_of_ble_eq_true rfl) (fun vq hq1 hq2 => ?_)
        obtain ⟨rfl, hf2, hA2, hR2⟩ := hq2.s hq
        have hW2 := hf2.Wd hWk
        refine Et_if_ne 43 dX4_readCondition_38 rfl (by exact zf1) ?_
        refine Eq_aln dX4_readCondition_43 rfl ?_
        refine Eq_bp (v := -124) dX4_readCondition_44 rfl ?_
        refine Eq_W1 (N := m_X4_write) dX4_readCondition_46 lk_X4_54 mV_X4_write (c_write hW2 hR2 (by simp only [List.length_append, List.length_map] at hl ⊢; omega)) (by omega) (ws_6 hW2) rfl (by decide) (Nat.le_of_ble_eq_true rfl) (Nat.le_of_ble_eq_true rfl) (fun vq hq1 hq2 => ?_)
        obtain ⟨rfl, hf3, hR3⟩ := hq2
        refine Eq_inc dX4_readCondition_49 rfl (by decide) ?_
        refine Eam_nl (pc' := 52) (l' := [_, _, _, _]) rfl rfl ?_
        refine Eam_x_goto (tgt := 13) dX4_readCondition_52 rfl ?_
        have hR4 : WR hq1 (l ++ (ts ++ us ++ [(11, 0)]).map cs) := by rw [← map3]; exact hR3
        obtain ⟨v5, h5, z1, z2⟩ := ih (p (nx tl tp b + 1)).1 (ts ++ us ++ [(11, 0)]) _ (j + 1) (by omega) (by omega) (hf3.Wd hW2) (hA2.fx hf3 (by decide)) hR4 (by simp only [List.length_append, List.length_map, List.length_cons, List.length_nil] at hl ⊢; omega)
        exact ⟨v5, h5, z1, z2.tr ((hk1.mono (by decide) (by decide)).tr (hf2.tr (hf3.mono (by decide) (by decide))))⟩
    · have ho : opO (sgn tl tp (nx tl tp b)) = none := by unfold opO; rw [if_neg ec]
      rw [chn_n ho]
      refine Eq_iln dX4_readCondition_13 rfl ?_
      refine Eq_sp (v := nI 160) dX4_readCondition_14 rfl ?_
      refine Ef_ic_ge dX4_readCondition_17 (tgt := 55) rfl (by exact nI_ge (b := 160) (by omega) (by omega)) ?_
      refine Eq_aln dX4_readCondition_20 rfl ?_
      refine Eq_getR dX4_readCondition_21 fl_X4_9 (ws_6 hW) rfl (wp_6_0 hW) ?_
      refine Eq_bp (v := nI 124) dX4_readCondition_24 rfl ?_
      refine Eq_W1 (N := m_X9_pass) dX4_readCondition_26 lk_X4_32 mV_X9_pass (c_pass hW hA (c := 124) (by omega)) (by omega) (ws_1 hW) rfl (by decide) (Nat.le_of_ble_eq_true rfl) (Nat.le_of_ble_eq_true rfl) (fun vq hq1 hq2 => ?_)
      rw [if_neg ec] at hq2
      obtain ⟨rfl, hf1, hA1⟩ := hq2
      have hR1 := hR.fx hf1 (by decide)
      refine Et_if_eq 55 dX4_readCondition_29 rfl (by rfl) ?_
      refine Eq_ic (v := nI 1) dX4_readCondition_55 rfl ?_
      first | refine Eq_zrn dX4_readCondition_56 rfl (by first | omega | exact b2_le) ?_ | refine Eq_zr dX4_readCondition_56 rfl (by first | exact Or.inl rfl | exact Or.inr rfl | assumption) ?_
      exact ⟨hf1.mono (by decide) (by decide), rfl, hA1, hR1⟩
set_option maxHeartbeats 2000000 in
theorem c_readCondition_g {tl : Nat} {tp : Nat → Nat} {d e : Nat} {x : Int32} {p : Nat → Rd} (hs : SC2 tl tp m_X4_readTruth d e p) (hp : Prs tl p) (hd : 2 ≤ d) {h : am_H} {l : List Int32} {r : Rd} (hf : am_D d m_X4_readTruth [.ref 6, .int (nI e), .int x] h (PQ tl tp r l h)) (hW : Wd h) (htl : tl ≤ 160) (hr : ∀ ts, r.2 = some ts → l.length + ts.length ≤ r.1) : am_D (d + 1) m_X4_readCondition [.ref 6, .int (nI e), .int x] h (PQ tl tp (bd r (chn tl tp opO p 161)) l h) := by
  cases hq : r.2 with
  | none =>
    rw [bd_n hq]
    refine Eq_aln dX4_readCondition_0 rfl ?_
    refine Eq_iln dX4_readCondition_1 rfl ?_
    refine Eq_iln dX4_readCondition_2 rfl ?_
    refine Eq_W2 (N := m_X4_readTruth) dX4_readCondition_3 lk_X4_65 mV_X4_readTruth (hf) (by omega) (ws_6 hW) rfl (by decide) (Nat.le_of_ble_eq_true rfl) (Nat.le_of_ble_eq_true rfl) (fun vq hq1 hq2 => ?_)
    obtain ⟨rfl, hf2, hA2⟩ := hq2.n hq
    refine Ef_if_ne dX4_readCondition_6 (tgt := 11) rfl (by rfl) ?_
    refine Eq_ic (v := nI 0) dX4_readCondition_9 rfl ?_
    first | refine Eq_zrn dX4_readCondition_10 rfl (by first | omega | exact b2_le) ?_ | refine Eq_zr dX4_readCondition_10 rfl (by first | exact Or.inl rfl | exact Or.inr rfl | assumption) ?_
    exact ⟨hf2, rfl, hA2⟩
  | some ts =>
    rw [bd_s hq]
    have hul := hr ts hq
    refine Eq_aln dX4_readCondition_0 rfl ?_
    refine Eq_iln dX4_readCondition_1 rfl ?_
    refine Eq_iln dX4_readCondition_2 rfl ?_
    refine Eq_W2 (N := m_X4_readTruth) dX4_readCondition_3 lk_X4_65 mV_X4_readTruth (hf) (by omega) (ws_6 hW) rfl (by decide) (Nat.le_of_ble_eq_true rfl) (Nat.le_of_ble_eq_true rfl) (fun vq hq1 hq2 => ?_)
    obtain ⟨rfl, hf2, hA2, hR2⟩ := hq2.s hq
    refine Et_if_ne 11 dX4_readCondition_6 rfl (by exact zf1) ?_
    refine Eq_ic (v := nI 0) dX4_readCondition_11 rfl ?_
    refine Eq_isn dX4_readCondition_12 (by decide) ?_
    refine Eam_nl (pc' := 13) (l' := [_, _, _, _]) rfl rfl ?_
    obtain ⟨v5, h5, z1, z2⟩ := c_readCondition_lp hs hp hd 161 r.1 ts _ 0 (by omega) (by omega) (hf2.Wd hW) hA2 hR2 (by simp only [List.length_append, List.length_map]; omega)
    exact ⟨v5, h5, z1, z2.tr hf2⟩
set_option maxHeartbeats 2000000 in
theorem c_readCondition {tl : Nat} {tp : Nat → Nat} {d e : Nat} {p : Nat → Rd} (hs : SC2 tl tp m_X4_readTruth d e p) (hp : Prs tl p) (hd : 2 ≤ d) : SC2 tl tp m_X4_readCondition (d + 1) e (chs tl tp opO p) := by
  intro h a l hW hA hR hl
  exact c_readCondition_g hs hp hd (hs h a l hW hA hR hl) hW hA.1.2.1 (fun ts hq => by have := (hp a hA.2.2).2.2 ts hq; omega)
set_option maxHeartbeats 2000000 in
theorem c_unit {tl : Nat} {tp : Nat → Nat} : ∀ L, L ≤ 6 → SC2 tl tp m_X4_readUnit (3 * L + 7) (6 - L) (unP tl tp L) := by
  intro L
  induction L with
  | zero =>
    intro _
    exact c_readUnit (d := 5) (du := 0) (dc := 0) (L := 0) (by omega) (c_sum 0 (by omega)) (smP_pr 0) (fun z => absurd rfl z) (fun z => absurd rfl z) (fun z => absurd rfl z) (fun z => absurd rfl z) (by omega) (by omega) (by omega) (by omega)
  | succ L ih =>
    intro hL
    have i1 := ih (by omega)
    rw [show 6 - L = 6 - (L + 1) + 1 by omega] at i1
    have i2 := c_readCondition (c_readTruth i1 (unP_pr L) (by omega)) (chs_pr opA_0 (unP_pr L)) (by omega)
    exact c_readUnit (d := 3 * (L + 1) + 5) (du := 3 * L + 7) (dc := 3 * L + 7 + 1 + 1) hL (c_sum (L + 1) hL) (smP_pr (L + 1)) (fun _ => i1) (fun _ => unP_pr L) (fun _ => i2) (fun _ => cndW_pr (unP_pr L)) (by omega) (by omega) (by omega) (by omega)
