set_option maxHeartbeats 2000000 in
theorem c_mostOf_0 {h : am_H} : am_C 0 m_X5_mostOf [.int (nI 0)] h (some (.int (nI 1)), h) := by
  refine q_iln dX5_mostOf_0 rfl ?_
  refine f_if_lt dX5_mostOf_1 (tgt := 20) rfl (by decide +kernel) ?_
  refine q_iln dX5_mostOf_4 rfl ?_
  refine am_x_gs dX5_mostOf_5 gs_X5_23 ?_
  refine am_x_slen dX5_mostOf_8 (by decide) ?_
  refine f_ic_ge dX5_mostOf_9 (tgt := 20) rfl (by decide +kernel) ?_
  refine am_x_gs dX5_mostOf_12 gs_X5_23 ?_
  refine q_iln dX5_mostOf_15 rfl ?_
  refine q_sld dX5_mostOf_16 (by decide) (by decide) (by decide) rfl ?_
  refine am_x_goto (tgt := 21) dX5_mostOf_17 rfl ?_
  refine q_ir dX5_mostOf_21 rfl ?_
  rfl
set_option maxHeartbeats 2000000 in
theorem c_mostOf_1 {h : am_H} : am_C 0 m_X5_mostOf [.int (nI 1)] h (some (.int (nI 20)), h) := by
  refine q_iln dX5_mostOf_0 rfl ?_
  refine f_if_lt dX5_mostOf_1 (tgt := 20) rfl (by decide +kernel) ?_
  refine q_iln dX5_mostOf_4 rfl ?_
  refine am_x_gs dX5_mostOf_5 gs_X5_23 ?_
  refine am_x_slen dX5_mostOf_8 (by decide) ?_
  refine f_ic_ge dX5_mostOf_9 (tgt := 20) rfl (by decide +kernel) ?_
  refine am_x_gs dX5_mostOf_12 gs_X5_23 ?_
  refine q_iln dX5_mostOf_15 rfl ?_
  refine q_sld dX5_mostOf_16 (by decide) (by decide) (by decide) rfl ?_
  refine am_x_goto (tgt := 21) dX5_mostOf_17 rfl ?_
  refine q_ir dX5_mostOf_21 rfl ?_
  rfl
set_option maxHeartbeats 2000000 in
theorem c_mostOf_2 {h : am_H} : am_C 0 m_X5_mostOf [.int (nI 2)] h (some (.int (nI 99)), h) := by
  refine q_iln dX5_mostOf_0 rfl ?_
  refine f_if_lt dX5_mostOf_1 (tgt := 20) rfl (by decide +kernel) ?_
  refine q_iln dX5_mostOf_4 rfl ?_
  refine am_x_gs dX5_mostOf_5 gs_X5_23 ?_
  refine am_x_slen dX5_mostOf_8 (by decide) ?_
  refine f_ic_ge dX5_mostOf_9 (tgt := 20) rfl (by decide +kernel) ?_
  refine am_x_gs dX5_mostOf_12 gs_X5_23 ?_
  refine q_iln dX5_mostOf_15 rfl ?_
  refine q_sld dX5_mostOf_16 (by decide) (by decide) (by decide) rfl ?_
  refine am_x_goto (tgt := 21) dX5_mostOf_17 rfl ?_
  refine q_ir dX5_mostOf_21 rfl ?_
  rfl
set_option maxHeartbeats 2000000 in
theorem c_mostOf_3 {h : am_H} : am_C 0 m_X5_mostOf [.int (nI 3)] h (some (.int (nI 3)), h) := by
  refine q_iln dX5_mostOf_0 rfl ?_
  refine f_if_lt dX5_mostOf_1 (tgt := 20) rfl (by decide +kernel) ?_
  refine q_iln dX5_mostOf_4 rfl ?_
  refine am_x_gs dX5_mostOf_5 gs_X5_23 ?_
  refine am_x_slen dX5_mostOf_8 (by decide) ?_
  refine f_ic_ge dX5_mostOf_9 (tgt := 20) rfl (by decide +kernel) ?_
  refine am_x_gs dX5_mostOf_12 gs_X5_23 ?_
  refine q_iln dX5_mostOf_15 rfl ?_
  refine q_sld dX5_mostOf_16 (by decide) (by decide) (by decide) rfl ?_
  refine am_x_goto (tgt := 21) dX5_mostOf_17 rfl ?_
  refine q_ir dX5_mostOf_21 rfl ?_
  rfl
set_option maxHeartbeats 2000000 in
theorem c_mostOf_4 {h : am_H} : am_C 0 m_X5_mostOf [.int (nI 4)] h (some (.int (nI 7)), h) := by
  refine q_iln dX5_mostOf_0 rfl ?_
  refine f_if_lt dX5_mostOf_1 (tgt := 20) rfl (by decide +kernel) ?_
  refine q_iln dX5_mostOf_4 rfl ?_
  refine am_x_gs dX5_mostOf_5 gs_X5_23 ?_
  refine am_x_slen dX5_mostOf_8 (by decide) ?_
  refine f_ic_ge dX5_mostOf_9 (tgt := 20) rfl (by decide +kernel) ?_
  refine am_x_gs dX5_mostOf_12 gs_X5_23 ?_
  refine q_iln dX5_mostOf_15 rfl ?_
  refine q_sld dX5_mostOf_16 (by decide) (by decide) (by decide) rfl ?_
  refine am_x_goto (tgt := 21) dX5_mostOf_17 rfl ?_
  refine q_ir dX5_mostOf_21 rfl ?_
  rfl
set_option maxHeartbeats 2000000 in
theorem c_mostOf_5 {h : am_H} : am_C 0 m_X5_mostOf [.int (nI 5)] h (some (.int (nI 20)), h) := by
  refine q_iln dX5_mostOf_0 rfl ?_
  refine f_if_lt dX5_mostOf_1 (tgt := 20) rfl (by decide +kernel) ?_
  refine q_iln dX5_mostOf_4 rfl ?_
  refine am_x_gs dX5_mostOf_5 gs_X5_23 ?_
  refine am_x_slen dX5_mostOf_8 (by decide) ?_
  refine f_ic_ge dX5_mostOf_9 (tgt := 20) rfl (by decide +kernel) ?_
  refine am_x_gs dX5_mostOf_12 gs_X5_23 ?_
  refine q_iln dX5_mostOf_15 rfl ?_
  refine q_sld dX5_mostOf_16 (by decide) (by decide) (by decide) rfl ?_
  refine am_x_goto (tgt := 21) dX5_mostOf_17 rfl ?_
  refine q_ir dX5_mostOf_21 rfl ?_
  rfl
set_option maxHeartbeats 2000000 in
theorem c_mostOf_6 {h : am_H} : am_C 0 m_X5_mostOf [.int (nI 6)] h (some (.int (nI 99)), h) := by
  refine q_iln dX5_mostOf_0 rfl ?_
  refine f_if_lt dX5_mostOf_1 (tgt := 20) rfl (by decide +kernel) ?_
  refine q_iln dX5_mostOf_4 rfl ?_
  refine am_x_gs dX5_mostOf_5 gs_X5_23 ?_
  refine am_x_slen dX5_mostOf_8 (by decide) ?_
  refine f_ic_ge dX5_mostOf_9 (tgt := 20) rfl (by decide +kernel) ?_
  refine am_x_gs dX5_mostOf_12 gs_X5_23 ?_
  refine q_iln dX5_mostOf_15 rfl ?_
  refine q_sld dX5_mostOf_16 (by decide) (by decide) (by decide) rfl ?_
  refine am_x_goto (tgt := 21) dX5_mostOf_17 rfl ?_
  refine q_ir dX5_mostOf_21 rfl ?_
  rfl
set_option maxHeartbeats 2000000 in
theorem c_mostOf {h : am_H} {i : Nat} (hi : i < 7) : am_C 0 m_X5_mostOf [.int (nI i)] h (some (.int (nI (most i))), h) := by
  rcases (show i = 0 ∨ i = 1 ∨ i = 2 ∨ i = 3 ∨ i = 4 ∨ i = 5 ∨ i = 6 by omega) with rfl | rfl | rfl | rfl | rfl | rfl | rfl
  · exact c_mostOf_0
  · exact c_mostOf_1
  · exact c_mostOf_2
  · exact c_mostOf_3
  · exact c_mostOf_4
  · exact c_mostOf_5
  · exact c_mostOf_6
set_option maxHeartbeats 2000000 in
theorem c_forgetB_lp {h : am_H} (hW : Wd h)  : ∀ k j hc, j + k = 3 → Fx [26] [] h hc → (∀ w, w < j → am_i hc 26 w = nI 0) → am_E 0 m_X0_forget 2 [some (.ref 20), some (.int (nI j))] [] hc (fun v h2 => v = none ∧ Fx [26] [] h h2 ∧ ∀ w, w < 3 → am_i h2 26 w = nI 0) := by
  intro k
  induction k with
  | zero =>
    intro j hc hj hfr hz
    have hj3 : j = 3 := by omega
    subst hj3
    have hWc := hfr.Wd hW
    refine Eq_iln dX0_forget_2 rfl ?_
    refine Eq_ic (v := nI 3) dX0_forget_3 rfl ?_
    refine Et_ic_ge 20 dX0_forget_4 rfl (by decide +kernel) ?_
    refine Eq_vr dX0_forget_20 rfl ?_
    exact ⟨rfl, hfr, hz⟩
  | succ k ih =>
    intro j hc hj hfr hz
    have hWc := hfr.Wd hW
    refine Eq_iln dX0_forget_2 rfl ?_
    refine Eq_ic (v := nI 3) dX0_forget_3 rfl ?_
    refine Ef_ic_ge dX0_forget_4 (tgt := 20) rfl (by exact nI_ge (by omega) (by omega)) ?_
    refine Eq_aln dX0_forget_7 rfl ?_
    refine Eq_getR dX0_forget_8 fl_X0_40 (ws_20 hWc) rfl (wp_20_12 hWc) ?_
    refine Eq_iln dX0_forget_11 rfl ?_
    refine Eq_ic (v := nI 0) dX0_forget_12 rfl ?_
    refine Eq_zst dX0_forget_13 (ws_26 hWc) (by omega) (by omega) (by first | exact Or.inl rfl | exact Or.inr rfl | assumption) ?_
    refine Eq_inc dX0_forget_14 rfl (by decide) ?_
    refine Eam_x_goto (tgt := 2) dX0_forget_17 rfl ?_
    (refine ih (j + 1) _ (by omega) (hfr.tr (Fx.wI (Or.inl (by decide)))) (fun w hw => ?_); rw [wI_eq]; by_cases e : w = j; rw [if_pos e]; rw [if_neg e]; exact hz w (by omega))
set_option maxHeartbeats 2000000 in
theorem c_forgetB {h : am_H} (hW : Wd h)  : am_D 0 m_X0_forget [.ref 20] h (fun v h2 => v = none ∧ Fx [26] [] h h2 ∧ ∀ w, w < 3 → am_i h2 26 w = nI 0) := by
  refine Eq_ic (v := nI 0) dX0_forget_0 rfl ?_
  refine Eq_isn dX0_forget_1 (by decide) ?_
  exact c_forgetB_lp hW 3 0 h (by omega) Fx.rf (fun w hw => by omega)
set_option maxHeartbeats 2000000 in
theorem c_forgetC {h : am_H} (hW : Wd h)  : am_C 0 m_X1_forget [.ref 29] h (none, am_wI h 29 7 (nI 0)) := by
  refine q_aln dX1_forget_0 rfl ?_
  refine q_ic (v := nI 0) dX1_forget_1 rfl ?_
  refine am_x_putI dX1_forget_2 (fw_X1_46 rfl) (ws_29 hW) (Or.inr ⟨rfl, by first | exact Or.inl rfl | exact Or.inr rfl | assumption⟩) ?_
  refine q_vr dX1_forget_5 rfl ?_
  rfl
set_option maxHeartbeats 2000000 in
theorem c_forgetA {h : am_H} (hW : Wd h)  : am_D 1 m_X11_forgetAnswers [.ref 0] h (fun v h2 => v = none ∧ Fx [26] [(29, 7)] h h2 ∧ KF h2) := by
  refine Eq_aln dX11_forgetAnswers_0 rfl ?_
  refine Eq_getR dX11_forgetAnswers_1 fl_X11_82 (ws_0 hW) rfl (wp_0_10 hW) ?_
  refine Eq_W0 (N := m_X0_forget) dX11_forgetAnswers_4 lk_X11_161 mV_X0_forget (c_forgetB hW) (by decide) (ws_20 hW) rfl (by decide) (Nat.le_of_ble_eq_true rfl) (Nat.le_of_ble_eq_true rfl) (fun vq hq1 hq2 => ?_)
  obtain ⟨rfl, hf, hz⟩ := hq2
  have hW2 := hf.Wd hW
  refine Eq_aln dX11_forgetAnswers_7 rfl ?_
  refine Eq_getR dX11_forgetAnswers_8 fl_X11_89 (ws_0 hW2) rfl (wp_0_11 hW2) ?_
  refine Eq_V0 (N := m_X1_forget) dX11_forgetAnswers_11 lk_X11_164 mV_X1_forget (c_forgetC hW2) (by decide) (ws_29 hW2) rfl (by decide) (Nat.le_of_ble_eq_true rfl) (Nat.le_of_ble_eq_true rfl) ?_
  refine Eq_vr dX11_forgetAnswers_14 rfl ?_
  exact ⟨rfl, (hf.mono (by decide) (by decide)).tr (Fx.wI (Or.inr (by decide))), fun w hw => by rw [wI_ne (by decide)]; exact hz w hw, by rw [wI_eq, if_pos rfl]⟩
def seO (n : Nat) (F : Nat → Nat → Nat) (x1 x2 x3 : Int32) : Option (Nat × Nat × Nat) := match rg x1 n with
  | none => none
  | some m => match rg x2 2 with
    | none => none
    | some w => match rg x3 (if w = 0 then 2 else 4) with
      | none => none
      | some v => if F (if w = 0 then 0 else 3) m = v then none else some (if w = 0 then 0 else 3, m, v)
theorem MB.tell {h h2 : am_H} {n : Nat} {g : Bool} {F : Nat → Nat → Nat} {i m v : Nat} (k : MB h n g F) (hi : i < 7) (hm : m < n) (hv : v ≤ most i) (h1 : am_i h2 9 = am_i h 9) (h3 : am_i h2 10 = am_i (am_wI h 10 (i * 7 + m) (nI v)) 10) : MB h2 n g (upF F i m v) := by
  obtain ⟨hn, hg, h7, hF, hB⟩ := k
  have hm9 : most i ≤ 99 := by unfold most; (repeat' split) <;> omega
  refine ⟨by rw [h1]; exact hn, by rw [h1]; exact hg, h7, fun i' m' hi' hm' => ?_, fun m' hm' => ?_⟩
  · rw [h3, wI_eq]
    by_cases e : i' = i ∧ m' = m
    · obtain ⟨rfl, rfl⟩ := e
      rw [if_pos rfl, upF_eq]
      exact ⟨rfl, by omega⟩
    · rw [if_neg (by omega), upF_ne e]
      exact hF i' m' hi' hm'
  · have hb := hB m' hm'
    have key : ∀ j, (j = 0 ∨ j = 3 ∨ j = 4 ∨ j = 1 ∨ j = 5) → F j m' ≤ most j → upF F i m v j m' ≤ most j := by
      intro j _ hj
      by_cases e : j = i ∧ m' = m
      · obtain ⟨rfl, rfl⟩ := e
        rw [upF_eq]; exact hv
      · rw [upF_ne e]; exact hj
    exact ⟨key 0 (by omega) hb.1, key 3 (by omega) hb.2.1, key 4 (by omega) hb.2.2.1, key 1 (by omega) hb.2.2.2.1, key 5 (by omega) hb.2.2.2.2⟩
theorem RB.tell {h h2 : am_H} {n : Nat} {g : Bool} {F : Nat → Nat → Nat} {S T : Nat → Nat} {i m v : Nat} (k : RB h n g F S T) (hi : i < 7) (hm : m < n) (hv : v ≤ most i) (h1 : am_i h2 50 = am_i h 50) (h3 : am_i h2 62 = am_i (am_wI h 62 (7 * m + i) (nI v)) 62) (h4 : am_i h2 63 = am_i h 63) : RB h2 n g (upF F i m v) S T := by
  obtain ⟨hn, hg, h7, hF, hB, hS, hT⟩ := k
  have hm9 : most i ≤ 99 := by unfold most; (repeat' split) <;> omega
  refine ⟨by rw [h1]; exact hn, by rw [h1]; exact hg, h7, fun i' m' hi' hm' => ?_, fun m' hm' => ?_, by rw [h4]; exact hS, hT⟩
  · rw [h3, wI_eq]
    by_cases e : i' = i ∧ m' = m
    · obtain ⟨rfl, rfl⟩ := e
      rw [if_pos rfl, upF_eq]
      exact ⟨rfl, by omega⟩
    · rw [if_neg (by omega), upF_ne e]
      exact hF i' m' hi' hm'
  · have hb := hB m' hm'
    have key : ∀ j, (j = 0 ∨ j = 3 ∨ j = 4 ∨ j = 1 ∨ j = 5) → F j m' ≤ most j → upF F i m v j m' ≤ most j := by
      intro j _ hj
      by_cases e : j = i ∧ m' = m
      · obtain ⟨rfl, rfl⟩ := e
        rw [upF_eq]; exact hv
      · rw [upF_ne e]; exact hj
    exact ⟨key 0 (by omega) hb.1, key 3 (by omega) hb.2.1, key 4 (by omega) hb.2.2.1, key 1 (by omega) hb.2.2.2.1, key 5 (by omega) hb.2.2.2.2⟩
set_option maxHeartbeats 2000000 in
theorem c_tell {h : am_H} {n : Nat} {g : Bool} {F : Nat → Nat → Nat} (hW : Wd h) (hM : MB h n g F) {i m v : Nat} (hi : i < 7) (hm : m < n) : am_C 1 m_X5_tell [.ref 9, .int (nI i), .int (nI m), .int (nI v)] h (none, am_wI h 10 (i * 7 + m) (nI v)) := by
  obtain ⟨hn, hg, h7, hF, hB⟩ := id hM
  refine q_aln dX5_tell_0 rfl ?_
  refine q_iln dX5_tell_1 rfl ?_
  refine q_V1 (N := m_X5_has) dX5_tell_2 lk_X5_43 mV_X5_has (c_has hW hM hm) (by decide) (ws_9 hW) rfl (by decide) (Nat.le_of_ble_eq_true rfl) (Nat.le_of_ble_eq_true rfl) ?_
  refine f_if_eq dX5_tell_5 (tgt := 30) rfl (by exact zf1) ?_
  refine q_iln dX5_tell_8 rfl ?_
  refine n_if_lt (tgt := 30) dX5_tell_9 rfl (by omega) ?_
  refine q_iln dX5_tell_12 rfl ?_
  refine q_bp (v := nI 7) dX5_tell_13 rfl ?_
  refine f_ic_ge dX5_tell_15 (tgt := 30) rfl (by exact nI_ge (by omega) (by omega)) ?_
  refine q_aln dX5_tell_18 rfl ?_
  refine q_getR dX5_tell_19 fl_X5_19 (ws_9 hW) rfl (wp_9_2 hW) ?_
  refine q_iln dX5_tell_22 rfl ?_
  refine q_bp (v := nI 7) dX5_tell_23 rfl ?_
  first | refine q_mul dX5_tell_25 ?_ | refine am_x_pu dX5_tell_25 rfl ?_
  refine q_iln dX5_tell_26 rfl ?_
  first | refine q_add dX5_tell_27 ?_ | refine am_x_pu dX5_tell_27 rfl ?_
  refine q_iln dX5_tell_28 rfl ?_
  refine q_ast dX5_tell_29 (ws_10 hW) (by omega) (by omega) ?_
  refine q_vr dX5_tell_30 rfl ?_
  rfl
set_option maxHeartbeats 2000000 in
theorem c_set {h : am_H} {n : Nat} {g : Bool} {F : Nat → Nat → Nat} (hW : Wd h) (hM : MB h n g F) {x1 x2 x3 : Int32} : am_D 2 m_X11_set [.ref 0, .int x1, .int x2, .int x3] h (fun v h2 => match seO n F x1 x2 x3 with
    | none => v = some (.int (nI 0)) ∧ h2 = h
    | some q => v = some (.int (nI 1)) ∧ q.1 < 7 ∧ q.2.1 < n ∧ q.2.2 ≤ most q.1 ∧ Fx [10, 26] [(29, 7)] h h2 ∧ MB h2 n g (upF F q.1 q.2.1 q.2.2) ∧ KF h2) := by
  obtain ⟨hn, hg, h7, hF, hB⟩ := id hM
  cases hr2 : rg x2 2 with
  | none =>
    have e0 := rg_ne (k := 0) (by omega) (by omega) hr2
    have e1 := rg_ne (k := 1) (by omega) (by omega) hr2
    rw [show seO n F x1 x2 x3 = none by unfold seO; rw [hr2]; split <;> rfl]
    refine Eq_iln dX11_set_0 rfl ?_
    refine Ef_if_eq dX11_set_1 (tgt := 11) rfl (by exact e0) ?_
    refine Eq_iln dX11_set_4 rfl ?_
    refine Eq_ic (v := nI 1) dX11_set_5 rfl ?_
    refine Ef_ic_eq dX11_set_6 (tgt := 11) rfl (by exact e1) ?_
    refine Eq_ic (v := nI 0) dX11_set_9 rfl ?_
    first | refine Eq_zrn dX11_set_10 rfl (by first | omega | exact b2_le) ?_ | refine Eq_zr dX11_set_10 rfl (by first | exact Or.inl rfl | exact Or.inr rfl | assumption) ?_
    exact ⟨rfl, rfl⟩
  | some w =>
    obtain ⟨rfl, hw⟩ := rg_some (by omega) hr2
    cases hr1 : rg x1 n with
    | none =>
      rw [show seO n F x1 (nI w) x3 = none by unfold seO; rw [hr1]]
      rcases (show w = 0 ∨ w = 1 by omega) with rfl | rfl
      · refine Eq_iln dX11_set_0 rfl ?_
        refine Et_if_eq 11 dX11_set_1 rfl (by rfl) ?_
        refine Eq_iln dX11_set_11 rfl ?_
        refine Ef_if_ne dX11_set_12 (tgt := 19) rfl (by rfl) ?_
        refine Eq_ic (v := nI 0) dX11_set_15 rfl ?_
        refine Eam_x_goto (tgt := 20) dX11_set_16 rfl ?_
        refine Eq_is dX11_set_20 (by decide) ?_
        refine Eq_aln dX11_set_22 rfl ?_
        refine Eq_getR dX11_set_23 fl_X11_48 (ws_0 hW) rfl (wp_0_6 hW) ?_
        refine Eq_iln dX11_set_26 rfl ?_
        refine Eq_V1 (N := m_X5_has) dX11_set_27 lk_X11_165 mV_X5_has ((by have z := c_hasX hW hM (x := x1); rw [isr_n hr1] at z; exact z)) (by decide) (ws_9 hW) rfl (by decide) (Nat.le_of_ble_eq_true rfl) (Nat.le_of_ble_eq_true rfl) ?_
        refine Et_if_eq 60 dX11_set_30 rfl (by rfl) ?_
        refine Eq_ic (v := nI 0) dX11_set_60 rfl ?_
        first | refine Eq_zrn dX11_set_61 rfl (by first | omega | exact b2_le) ?_ | refine Eq_zr dX11_set_61 rfl (by first | exact Or.inl rfl | exact Or.inr rfl | assumption) ?_
        exact ⟨rfl, rfl⟩
      · refine Eq_iln dX11_set_0 rfl ?_
        refine Ef_if_eq dX11_set_1 (tgt := 11) rfl (by exact zf1) ?_
        refine Eq_iln dX11_set_4 rfl ?_
        refine Eq_ic (v := nI 1) dX11_set_5 rfl ?_
        refine Et_ic_eq 11 dX11_set_6 rfl (by rfl) ?_
        refine Eq_iln dX11_set_11 rfl ?_
        refine Et_if_ne 19 dX11_set_12 rfl (by exact zf1) ?_
        refine Eq_ic (v := nI 3) dX11_set_19 rfl ?_
        refine Eq_is dX11_set_20 (by decide) ?_
        refine Eq_aln dX11_set_22 rfl ?_
        refine Eq_getR dX11_set_23 fl_X11_48 (ws_0 hW) rfl (wp_0_6 hW) ?_
        refine Eq_iln dX11_set_26 rfl ?_
        refine Eq_V1 (N := m_X5_has) dX11_set_27 lk_X11_165 mV_X5_has ((by have z := c_hasX hW hM (x := x1); rw [isr_n hr1] at z; exact z)) (by decide) (ws_9 hW) rfl (by decide) (Nat.le_of_ble_eq_true rfl) (Nat.le_of_ble_eq_true rfl) ?_
        refine Et_if_eq 60 dX11_set_30 rfl (by rfl) ?_
        refine Eq_ic (v := nI 0) dX11_set_60 rfl ?_
        first | refine Eq_zrn dX11_set_61 rfl (by first | omega | exact b2_le) ?_ | refine Eq_zr dX11_set_61 rfl (by first | exact Or.inl rfl | exact Or.inr rfl | assumption) ?_
        exact ⟨rfl, rfl⟩
    | some m =>
      obtain ⟨rfl, hm⟩ := rg_some (by omega) hr1
      rcases (show w = 0 ∨ w = 1 by omega) with rfl | rfl
      · cases hr3 : rg x3 2 with
        | none =>
          rw [show seO n F (nI m) (nI 0) x3 = none by unfold seO; rw [hr1, hr2]; simp only [hr3, if_true, if_false, Nat.one_ne_zero, reduceIte]]
          rcases rg_none (by omega) hr3 with hx | ⟨hx, hy⟩
          · refine Eq_iln dX11_set_0 rfl ?_
            refine Et_if_eq 11 dX11_set_1 rfl (by rfl) ?_
            refine Eq_iln dX11_set_11 rfl ?_
            refine Ef_if_ne dX11_set_12 (tgt := 19) rfl (by rfl) ?_
            refine Eq_ic (v := nI 0) dX11_set_15 rfl ?_
            refine Eam_x_goto (tgt := 20) dX11_set_16 rfl ?_
            refine Eq_is dX11_set_20 (by decide) ?_
            refine Eq_aln dX11_set_22 rfl ?_
            refine Eq_getR dX11_set_23 fl_X11_48 (ws_0 hW) rfl (wp_0_6 hW) ?_
            refine Eq_iln dX11_set_26 rfl ?_
            refine Eq_V1 (N := m_X5_has) dX11_set_27 lk_X11_165 mV_X5_has (c_has hW hM hm) (by decide) (ws_9 hW) rfl (by decide) (Nat.le_of_ble_eq_true rfl) (Nat.le_of_ble_eq_true rfl) ?_
            refine Ef_if_eq dX11_set_30 (tgt := 60) rfl (by exact zf1) ?_
            refine Eq_iln dX11_set_33 rfl ?_
            refine Et_if_lt 60 dX11_set_34 rfl (by exact hx) ?_
            refine Eq_ic (v := nI 0) dX11_set_60 rfl ?_
            first | refine Eq_zrn dX11_set_61 rfl (by first | omega | exact b2_le) ?_ | refine Eq_zr dX11_set_61 rfl (by first | exact Or.inl rfl | exact Or.inr rfl | assumption) ?_
            exact ⟨rfl, rfl⟩
          · refine Eq_iln dX11_set_0 rfl ?_
            refine Et_if_eq 11 dX11_set_1 rfl (by rfl) ?_
            refine Eq_iln dX11_set_11 rfl ?_
            refine Ef_if_ne dX11_set_12 (tgt := 19) rfl (by rfl) ?_
            refine Eq_ic (v := nI 0) dX11_set_15 rfl ?_
            refine Eam_x_goto (tgt := 20) dX11_set_16 rfl ?_
            refine Eq_is dX11_set_20 (by decide) ?_
            refine Eq_aln dX11_set_22 rfl ?_
            refine Eq_getR dX11_set_23 fl_X11_48 (ws_0 hW) rfl (wp_0_6 hW) ?_
            refine Eq_iln dX11_set_26 rfl ?_
            refine Eq_V1 (N := m_X5_has) dX11_set_27 lk_X11_165 mV_X5_has (c_has hW hM hm) (by decide) (ws_9 hW) rfl (by decide) (Nat.le_of_ble_eq_true rfl) (Nat.le_of_ble_eq_true rfl) ?_
            refine Ef_if_eq dX11_set_30 (tgt := 60) rfl (by exact zf1) ?_
            refine Eq_iln dX11_set_33 rfl ?_
            refine Ef_if_lt dX11_set_34 (tgt := 60) rfl (by exact hx) ?_
            refine Eq_iln dX11_set_37 rfl ?_
            refine Eq_il dX11_set_38 rfl ?_
            refine Eq_S1 (N := m_X5_mostOf) dX11_set_40 lk_X11_191 mS_X5_mostOf (c_mostOf_0) (by decide) (Nat.le_of_ble_eq_true rfl) (Nat.le_of_ble_eq_true rfl) ?_
            refine Et_ic_gt 60 dX11_set_43 rfl (by exact rg_gt2 (by omega) hy) ?_
            refine Eq_ic (v := nI 0) dX11_set_60 rfl ?_
            first | refine Eq_zrn dX11_set_61 rfl (by first | omega | exact b2_le) ?_ | refine Eq_zr dX11_set_61 rfl (by first | exact Or.inl rfl | exact Or.inr rfl | assumption) ?_
            exact ⟨rfl, rfl⟩
        | some v =>
          obtain ⟨rfl, hv⟩ := rg_some (by omega) hr3
          have hb := hB m hm
          by_cases he : F 0 m = v
          · rw [show seO n F (nI m) (nI 0) (nI v) = none by unfold seO; rw [hr1, hr2]; simp [hr3, he]]
            refine Eq_iln dX11_set_0 rfl ?_
            refine Et_if_eq 11 dX11_set_1 rfl (by rfl) ?_
            refine Eq_iln dX11_set_11 rfl ?_
            refine Ef_if_ne dX11_set_12 (tgt := 19) rfl (by rfl) ?_
            refine Eq_ic (v := nI 0) dX11_set_15 rfl ?_
            refine Eam_x_goto (tgt := 20) dX11_set_16 rfl ?_
            refine Eq_is dX11_set_20 (by decide) ?_
            refine Eq_aln dX11_set_22 rfl ?_
            refine Eq_getR dX11_set_23 fl_X11_48 (ws_0 hW) rfl (wp_0_6 hW) ?_
            refine Eq_iln dX11_set_26 rfl ?_
            refine Eq_V1 (N := m_X5_has) dX11_set_27 lk_X11_165 mV_X5_has (c_has hW hM hm) (by decide) (ws_9 hW) rfl (by decide) (Nat.le_of_ble_eq_true rfl) (Nat.le_of_ble_eq_true rfl) ?_
            refine Ef_if_eq dX11_set_30 (tgt := 60) rfl (by exact zf1) ?_
            refine Eq_iln dX11_set_33 rfl ?_
            refine En_if_lt (tgt := 60) dX11_set_34 rfl (by omega) ?_
            refine Eq_iln dX11_set_37 rfl ?_
            refine Eq_il dX11_set_38 rfl ?_
            refine Eq_S1 (N := m_X5_mostOf) dX11_set_40 lk_X11_191 mS_X5_mostOf (c_mostOf_0) (by decide) (Nat.le_of_ble_eq_true rfl) (Nat.le_of_ble_eq_true rfl) ?_
            refine Ef_ic_gt dX11_set_43 (tgt := 60) rfl (by exact nI_nlt (by omega) (by omega)) ?_
            refine Eq_aln dX11_set_46 rfl ?_
            refine Eq_getR dX11_set_47 fl_X11_48 (ws_0 hW) rfl (wp_0_6 hW) ?_
            refine Eq_il dX11_set_50 rfl ?_
            refine Eq_iln dX11_set_52 rfl ?_
            refine Eq_V2 (N := m_X5_fact) dX11_set_53 lk_X11_180 mV_X5_fact (c_fact hW hM (by omega) hm) (by decide) (ws_9 hW) rfl (by decide) (Nat.le_of_ble_eq_true rfl) (Nat.le_of_ble_eq_true rfl) ?_
            refine Eq_iln dX11_set_56 rfl ?_
            refine Ef_ic_ne dX11_set_57 (tgt := 62) rfl (by rw [he]) ?_
            refine Eq_ic (v := nI 0) dX11_set_60 rfl ?_
            first | refine Eq_zrn dX11_set_61 rfl (by first | omega | exact b2_le) ?_ | refine Eq_zr dX11_set_61 rfl (by first | exact Or.inl rfl | exact Or.inr rfl | assumption) ?_
            exact ⟨rfl, rfl⟩
          · rw [show seO n F (nI m) (nI 0) (nI v) = some (0, m, v) by unfold seO; rw [hr1, hr2]; simp [hr3, he]]
            refine Eq_iln dX11_set_0 rfl ?_
            refine Et_if_eq 11 dX11_set_1 rfl (by rfl) ?_
            refine Eq_iln dX11_set_11 rfl ?_
            refine Ef_if_ne dX11_set_12 (tgt := 19) rfl (by rfl) ?_
            refine Eq_ic (v := nI 0) dX11_set_15 rfl ?_
            refine Eam_x_goto (tgt := 20) dX11_set_16 rfl ?_
            refine Eq_is dX11_set_20 (by decide) ?_
            refine Eq_aln dX11_set_22 rfl ?_
            refine Eq_getR dX11_set_23 fl_X11_48 (ws_0 hW) rfl (wp_0_6 hW) ?_
            refine Eq_iln dX11_set_26 rfl ?_
            refine Eq_V1 (N := m_X5_has) dX11_set_27 lk_X11_165 mV_X5_has (c_has hW hM hm) (by decide) (ws_9 hW) rfl (by decide) (Nat.le_of_ble_eq_true rfl) (Nat.le_of_ble_eq_true rfl) ?_
            refine Ef_if_eq dX11_set_30 (tgt := 60) rfl (by exact zf1) ?_
            refine Eq_iln dX11_set_33 rfl ?_
            refine En_if_lt (tgt := 60) dX11_set_34 rfl (by omega) ?_
            refine Eq_iln dX11_set_37 rfl ?_
            refine Eq_il dX11_set_38 rfl ?_
            refine Eq_S1 (N := m_X5_mostOf) dX11_set_40 lk_X11_191 mS_X5_mostOf (c_mostOf_0) (by decide) (Nat.le_of_ble_eq_true rfl) (Nat.le_of_ble_eq_true rfl) ?_
            refine Ef_ic_gt dX11_set_43 (tgt := 60) rfl (by exact nI_nlt (by omega) (by omega)) ?_
            refine Eq_aln dX11_set_46 rfl ?_
            refine Eq_getR dX11_set_47 fl_X11_48 (ws_0 hW) rfl (wp_0_6 hW) ?_
            refine Eq_il dX11_set_50 rfl ?_
            refine Eq_iln dX11_set_52 rfl ?_
            refine Eq_V2 (N := m_X5_fact) dX11_set_53 lk_X11_180 mV_X5_fact (c_fact hW hM (by omega) hm) (by decide) (ws_9 hW) rfl (by decide) (Nat.le_of_ble_eq_true rfl) (Nat.le_of_ble_eq_true rfl) ?_
            refine Eq_iln dX11_set_56 rfl ?_
            refine Et_ic_ne 62 dX11_set_57 rfl (by exact fun z => he ((nI_eq (by omega) (by omega)).mp z)) ?_
            refine Eq_aln dX11_set_62 rfl ?_
            refine Eq_getR dX11_set_63 fl_X11_48 (ws_0 hW) rfl (wp_0_6 hW) ?_
            refine Eq_il dX11_set_66 rfl ?_
            refine Eq_iln dX11_set_68 rfl ?_
            refine Eq_iln dX11_set_69 rfl ?_
            refine Eq_V3 (N := m_X5_tell) dX11_set_70 lk_X11_194 mV_X5_tell (c_tell hW hM (by omega) hm) (by decide) (ws_9 hW) rfl (by decide) (Nat.le_of_ble_eq_true rfl) (Nat.le_of_ble_eq_true rfl) ?_
            refine Eq_aln dX11_set_73 rfl ?_
            refine Eq_W0 (N := m_X11_forgetAnswers) dX11_set_74 lk_X11_158 mV_X11_forgetAnswers (c_forgetA (Fx.Wd (Fx.wI (A := [10]) (B := []) (Or.inl (by decide))) hW)) (by decide) (ws_0 hW) rfl (by decide) (Nat.le_of_ble_eq_true rfl) (Nat.le_of_ble_eq_true rfl) (fun vq hq1 hq2 => ?_)
            obtain ⟨rfl, hf, hz⟩ := hq2
            refine Eq_ic (v := nI 1) dX11_set_77 rfl ?_
            first | refine Eq_zrn dX11_set_78 rfl (by first | omega | exact b2_le) ?_ | refine Eq_zr dX11_set_78 rfl (by first | exact Or.inl rfl | exact Or.inr rfl | assumption) ?_
            exact ⟨rfl, (show (0 : Nat) < 7 by decide), hm, by show v ≤ most 0; unfold most; simp; omega, ((Fx.wI (Or.inl (by decide))).tr (hf.mono (by decide) (by decide))), hM.tell (show (0 : Nat) < 7 by decide) hm (by show v ≤ most 0; unfold most; simp; omega) ((hf.ia (by decide) (by decide)).trans (wI_ne (by decide))) (hf.ia (by decide) (by decide)), hz⟩
      · cases hr3 : rg x3 4 with
        | none =>
          rw [show seO n F (nI m) (nI 1) x3 = none by unfold seO; rw [hr1, hr2]; simp only [hr3, if_true, if_false, Nat.one_ne_zero, reduceIte]]
          rcases rg_none (by omega) hr3 with hx | ⟨hx, hy⟩
          · refine Eq_iln dX11_set_0 rfl ?_
            refine Ef_if_eq dX11_set_1 (tgt := 11) rfl (by exact zf1) ?_
            refine Eq_iln dX11_set_4 rfl ?_
            refine Eq_ic (v := nI 1) dX11_set_5 rfl ?_
            refine Et_ic_eq 11 dX11_set_6 rfl (by rfl) ?_
            refine Eq_iln dX11_set_11 rfl ?_
            refine Et_if_ne 19 dX11_set_12 rfl (by exact zf1) ?_
            refine Eq_ic (v := nI 3) dX11_set_19 rfl ?_
            refine Eq_is dX11_set_20 (by decide) ?_
            refine Eq_aln dX11_set_22 rfl ?_
            refine Eq_getR dX11_set_23 fl_X11_48 (ws_0 hW) rfl (wp_0_6 hW) ?_
            refine Eq_iln dX11_set_26 rfl ?_
            refine Eq_V1 (N := m_X5_has) dX11_set_27 lk_X11_165 mV_X5_has (c_has hW hM hm) (by decide) (ws_9 hW) rfl (by decide) (Nat.le_of_ble_eq_true rfl) (Nat.le_of_ble_eq_true rfl) ?_
            refine Ef_if_eq dX11_set_30 (tgt := 60) rfl (by exact zf1) ?_
            refine Eq_iln dX11_set_33 rfl ?_
            refine Et_if_lt 60 dX11_set_34 rfl (by exact hx) ?_
            refine Eq_ic (v := nI 0) dX11_set_60 rfl ?_
            first | refine Eq_zrn dX11_set_61 rfl (by first | omega | exact b2_le) ?_ | refine Eq_zr dX11_set_61 rfl (by first | exact Or.inl rfl | exact Or.inr rfl | assumption) ?_
            exact ⟨rfl, rfl⟩
          · refine Eq_iln dX11_set_0 rfl ?_
            refine Ef_if_eq dX11_set_1 (tgt := 11) rfl (by exact zf1) ?_
            refine Eq_iln dX11_set_4 rfl ?_
            refine Eq_ic (v := nI 1) dX11_set_5 rfl ?_
            refine Et_ic_eq 11 dX11_set_6 rfl (by rfl) ?_
            refine Eq_iln dX11_set_11 rfl ?_
            refine Et_if_ne 19 dX11_set_12 rfl (by exact zf1) ?_
            refine Eq_ic (v := nI 3) dX11_set_19 rfl ?_
            refine Eq_is dX11_set_20 (by decide) ?_
            refine Eq_aln dX11_set_22 rfl ?_
            refine Eq_getR dX11_set_23 fl_X11_48 (ws_0 hW) rfl (wp_0_6 hW) ?_
            refine Eq_iln dX11_set_26 rfl ?_
            refine Eq_V1 (N := m_X5_has) dX11_set_27 lk_X11_165 mV_X5_has (c_has hW hM hm) (by decide) (ws_9 hW) rfl (by decide) (Nat.le_of_ble_eq_true rfl) (Nat.le_of_ble_eq_true rfl) ?_
            refine Ef_if_eq dX11_set_30 (tgt := 60) rfl (by exact zf1) ?_
            refine Eq_iln dX11_set_33 rfl ?_
            refine Ef_if_lt dX11_set_34 (tgt := 60) rfl (by exact hx) ?_
            refine Eq_iln dX11_set_37 rfl ?_
            refine Eq_il dX11_set_38 rfl ?_
            refine Eq_S1 (N := m_X5_mostOf) dX11_set_40 lk_X11_191 mS_X5_mostOf (c_mostOf_3) (by decide) (Nat.le_of_ble_eq_true rfl) (Nat.le_of_ble_eq_true rfl) ?_
            refine Et_ic_gt 60 dX11_set_43 rfl (by exact rg_gt2 (by omega) hy) ?_
            refine Eq_ic (v := nI 0) dX11_set_60 rfl ?_
            first | refine Eq_zrn dX11_set_61 rfl (by first | omega | exact b2_le) ?_ | refine Eq_zr dX11_set_61 rfl (by first | exact Or.inl rfl | exact Or.inr rfl | assumption) ?_
            exact ⟨rfl, rfl⟩
        | some v =>
          obtain ⟨rfl, hv⟩ := rg_some (by omega) hr3
          have hb := hB m hm
          by_cases he : F 3 m = v
          · rw [show seO n F (nI m) (nI 1) (nI v) = none by unfold seO; rw [hr1, hr2]; simp [hr3, he]]
            refine Eq_iln dX11_set_0 rfl ?_
            refine Ef_if_eq dX11_set_1 (tgt := 11) rfl (by exact zf1) ?_
            refine Eq_iln dX11_set_4 rfl ?_
            refine Eq_ic (v := nI 1) dX11_set_5 rfl ?_
            refine Et_ic_eq 11 dX11_set_6 rfl (by rfl) ?_
            refine Eq_iln dX11_set_11 rfl ?_
            refine Et_if_ne 19 dX11_set_12 rfl (by exact zf1) ?_
            refine Eq_ic (v := nI 3) dX11_set_19 rfl ?_
            refine Eq_is dX11_set_20 (by decide) ?_
            refine Eq_aln dX11_set_22 rfl ?_
            refine Eq_getR dX11_set_23 fl_X11_48 (ws_0 hW) rfl (wp_0_6 hW) ?_
            refine Eq_iln dX11_set_26 rfl ?_
            refine Eq_V1 (N := m_X5_has) dX11_set_27 lk_X11_165 mV_X5_has (c_has hW hM hm) (by decide) (ws_9 hW) rfl (by decide) (Nat.le_of_ble_eq_true rfl) (Nat.le_of_ble_eq_true rfl) ?_
            refine Ef_if_eq dX11_set_30 (tgt := 60) rfl (by exact zf1) ?_
            refine Eq_iln dX11_set_33 rfl ?_
            refine En_if_lt (tgt := 60) dX11_set_34 rfl (by omega) ?_
            refine Eq_iln dX11_set_37 rfl ?_
            refine Eq_il dX11_set_38 rfl ?_
            refine Eq_S1 (N := m_X5_mostOf) dX11_set_40 lk_X11_191 mS_X5_mostOf (c_mostOf_3) (by decide) (Nat.le_of_ble_eq_true rfl) (Nat.le_of_ble_eq_true rfl) ?_
            refine Ef_ic_gt dX11_set_43 (tgt := 60) rfl (by exact nI_nlt (by omega) (by omega)) ?_
            refine Eq_aln dX11_set_46 rfl ?_
            refine Eq_getR dX11_set_47 fl_X11_48 (ws_0 hW) rfl (wp_0_6 hW) ?_
            refine Eq_il dX11_set_50 rfl ?_
            refine Eq_iln dX11_set_52 rfl ?_
            refine Eq_V2 (N := m_X5_fact) dX11_set_53 lk_X11_180 mV_X5_fact (c_fact hW hM (by omega) hm) (by decide) (ws_9 hW) rfl (by decide) (Nat.le_of_ble_eq_true rfl) (Nat.le_of_ble_eq_true rfl) ?_
            refine Eq_iln dX11_set_56 rfl ?_
            refine Ef_ic_ne dX11_set_57 (tgt := 62) rfl (by rw [he]) ?_
            refine Eq_ic (v := nI 0) dX11_set_60 rfl ?_
            first | refine Eq_zrn dX11_set_61 rfl (by first | omega | exact b2_le) ?_ | refine Eq_zr dX11_set_61 rfl (by first | exact Or.inl rfl | exact Or.inr rfl | assumption) ?_
            exact ⟨rfl, rfl⟩
          · rw [show seO n F (nI m) (nI 1) (nI v) = some (3, m, v) by unfold seO; rw [hr1, hr2]; simp [hr3, he]]
            refine Eq_iln dX11_set_0 rfl ?_
            refine Ef_if_eq dX11_set_1 (tgt := 11) rfl (by exact zf1) ?_
            refine Eq_iln dX11_set_4 rfl ?_
            refine Eq_ic (v := nI 1) dX11_set_5 rfl ?_
            refine Et_ic_eq 11 dX11_set_6 rfl (by rfl) ?_
            refine Eq_iln dX11_set_11 rfl ?_
            refine Et_if_ne 19 dX11_set_12 rfl (by exact zf1) ?_
            refine Eq_ic (v := nI 3) dX11_set_19 rfl ?_
            refine Eq_is dX11_set_20 (by decide) ?_
            refine Eq_aln dX11_set_22 rfl ?_
            refine Eq_getR dX11_set_23 fl_X11_48 (ws_0 hW) rfl (wp_0_6 hW) ?_
            refine Eq_iln dX11_set_26 rfl ?_
            refine Eq_V1 (N := m_X5_has) dX11_set_27 lk_X11_165 mV_X5_has (c_has hW hM hm) (by decide) (ws_9 hW) rfl (by decide) (Nat.le_of_ble_eq_true rfl) (Nat.le_of_ble_eq_true rfl) ?_
            refine Ef_if_eq dX11_set_30 (tgt := 60) rfl (by exact zf1) ?_
            refine Eq_iln dX11_set_33 rfl ?_
            refine En_if_lt (tgt := 60) dX11_set_34 rfl (by omega) ?_
            refine Eq_iln dX11_set_37 rfl ?_
            refine Eq_il dX11_set_38 rfl ?_
            refine Eq_S1 (N := m_X5_mostOf) dX11_set_40 lk_X11_191 mS_X5_mostOf (c_mostOf_3) (by decide) (Nat.le_of_ble_eq_true rfl) (Nat.le_of_ble_eq_true rfl) ?_
            refine Ef_ic_gt dX11_set_43 (tgt := 60) rfl (by exact nI_nlt (by omega) (by omega)) ?_
            refine Eq_aln dX11_set_46 rfl ?_
            refine Eq_getR dX11_set_47 fl_X11_48 (ws_0 hW) rfl (wp_0_6 hW) ?_
            refine Eq_il dX11_set_50 rfl ?_
            refine Eq_iln dX11_set_52 rfl ?_
            refine Eq_V2 (N := m_X5_fact) dX11_set_53 lk_X11_180 mV_X5_fact (c_fact hW hM (by omega) hm) (by decide) (ws_9 hW) rfl (by decide) (Nat.le_of_ble_eq_true rfl) (Nat.le_of_ble_eq_true rfl) ?_
            refine Eq_iln dX11_set_56 rfl ?_
            refine Et_ic_ne 62 dX11_set_57 rfl (by exact fun z => he ((nI_eq (by omega) (by omega)).mp z)) ?_
            refine Eq_aln dX11_set_62 rfl ?_
            refine Eq_getR dX11_set_63 fl_X11_48 (ws_0 hW) rfl (wp_0_6 hW) ?_
            refine Eq_il dX11_set_66 rfl ?_
            refine Eq_iln dX11_set_68 rfl ?_
            refine Eq_iln dX11_set_69 rfl ?_
            refine Eq_V3 (N := m_X5_tell) dX11_set_70 lk_X11_194 mV_X5_tell (c_tell hW hM (by omega) hm) (by decide) (ws_9 hW) rfl (by decide) (Nat.le_of_ble_eq_true rfl) (Nat.le_of_ble_eq_true rfl) ?_
            refine Eq_aln dX11_set_73 rfl ?_
            refine Eq_W0 (N := m_X11_forgetAnswers) dX11_set_74 lk_X11_158 mV_X11_forgetAnswers (c_forgetA (Fx.Wd (Fx.wI (A := [10]) (B := []) (Or.inl (by decide))) hW)) (by decide) (ws_0 hW) rfl (by decide) (Nat.le_of_ble_eq_true rfl) (Nat.le_of_ble_eq_true rfl) (fun vq hq1 hq2 => ?_)
            obtain ⟨rfl, hf, hz⟩ := hq2
            refine Eq_ic (v := nI 1) dX11_set_77 rfl ?_
            first | refine Eq_zrn dX11_set_78 rfl (by first | omega | exact b2_le) ?_ | refine Eq_zr dX11_set_78 rfl (by first | exact Or.inl rfl | exact Or.inr rfl | assumption) ?_
            exact ⟨rfl, (show (3 : Nat) < 7 by decide), hm, by show v ≤ most 3; unfold most; simp; omega, ((Fx.wI (Or.inl (by decide))).tr (hf.mono (by decide) (by decide))), hM.tell (show (3 : Nat) < 7 by decide) hm (by show v ≤ most 3; unfold most; simp; omega) ((hf.ia (by decide) (by decide)).trans (wI_ne (by decide))) (hf.ia (by decide) (by decide)), hz⟩
set_option maxHeartbeats 2000000 in
theorem r_set {h : am_H} {n : Nat} {g : Bool} {F : Nat → Nat → Nat} {S T : Nat → Nat} (hW : Wd h) (hR : RB h n g F S T) {x1 x2 x3 : Int32} : am_D 2 m_X12_set [.ref 50, .int x1, .int x2, .int x3] h (fun v h2 => match seO n F x1 x2 x3 with
    | none => v = some (.int (nI 0)) ∧ h2 = h
    | some q => v = some (.int (nI 1)) ∧ q.1 < 7 ∧ q.2.1 < n ∧ q.2.2 ≤ most q.1 ∧ Fx [62] [] h h2 ∧ RB h2 n g (upF F q.1 q.2.1 q.2.2) S T) := by
  obtain ⟨hn, hg, h7, hF, hB, hS, hT⟩ := id hR
  cases hr1 : rg x1 n with
  | none =>
    rw [show seO n F x1 x2 x3 = none by unfold seO; rw [hr1]]
    refine Eq_aln dX12_set_0 rfl ?_
    refine Eq_iln dX12_set_1 rfl ?_
    refine Eq_V1 (N := m_X12_isMember) dX12_set_2 lk_X12_288 mV_X12_isMember ((by have z := r_isMember hW hR (x := x1); rw [isr_n hr1] at z; exact z)) (by decide) (ws_50 hW) rfl (by decide) (Nat.le_of_ble_eq_true rfl) (Nat.le_of_ble_eq_true rfl) ?_
    refine Et_if_eq 34 dX12_set_5 rfl (by rfl) ?_
    refine Eq_ic (v := nI 0) dX12_set_34 rfl ?_
    first | refine Eq_zrn dX12_set_35 rfl (by first | omega | exact b2_le) ?_ | refine Eq_zr dX12_set_35 rfl (by first | exact Or.inl rfl | exact Or.inr rfl | assumption) ?_
    exact ⟨rfl, rfl⟩
  | some m =>
    cases hr2 : rg x2 2 with
    | none =>
      rw [show seO n F x1 x2 x3 = none by unfold seO; rw [hr1, hr2]]
      refine Eq_aln dX12_set_0 rfl ?_
      refine Eq_iln dX12_set_1 rfl ?_
      refine Eq_V1 (N := m_X12_isMember) dX12_set_2 lk_X12_288 mV_X12_isMember ((by have z := r_isMember hW hR (x := x1); rw [isr_s hr1] at z; exact z)) (by decide) (ws_50 hW) rfl (by decide) (Nat.le_of_ble_eq_true rfl) (Nat.le_of_ble_eq_true rfl) ?_
      refine Ef_if_eq dX12_set_5 (tgt := 34) rfl (by exact zf1) ?_
      refine Eq_iln dX12_set_8 rfl ?_
      refine Eq_ic (v := nI 0) dX12_set_9 rfl ?_
      refine Eq_ic (v := nI 1) dX12_set_10 rfl ?_
      refine Eq_S3 (N := m_X12_in) dX12_set_11 lk_X12_215 mS_X12_in ((by have z := r_inr (h := h) (x := x2) (k := 1) (by omega); rw [isr_n hr2] at z; exact z)) (by decide) (Nat.le_of_ble_eq_true rfl) (Nat.le_of_ble_eq_true rfl) ?_
      refine Et_if_eq 34 dX12_set_14 rfl (by rfl) ?_
      refine Eq_ic (v := nI 0) dX12_set_34 rfl ?_
      first | refine Eq_zrn dX12_set_35 rfl (by first | omega | exact b2_le) ?_ | refine Eq_zr dX12_set_35 rfl (by first | exact Or.inl rfl | exact Or.inr rfl | assumption) ?_
      exact ⟨rfl, rfl⟩
    | some w =>
      obtain ⟨rfl, hm⟩ := rg_some (by omega) hr1
      obtain ⟨rfl, hw⟩ := rg_some (by omega) hr2
      rcases (show w = 0 ∨ w = 1 by omega) with rfl | rfl
      · cases hr3 : rg x3 2 with
        | none =>
          rw [show seO n F (nI m) (nI 0) x3 = none by unfold seO; rw [hr1, hr2]; simp only [hr3, if_true, if_false, Nat.one_ne_zero, reduceIte]]
          refine Eq_aln dX12_set_0 rfl ?_
          refine Eq_iln dX12_set_1 rfl ?_
          refine Eq_V1 (N := m_X12_isMember) dX12_set_2 lk_X12_288 mV_X12_isMember ((by have z := r_isMember hW hR (x := nI m); rw [isr_s hr1] at z; exact z)) (by decide) (ws_50 hW) rfl (by decide) (Nat.le_of_ble_eq_true rfl) (Nat.le_of_ble_eq_true rfl) ?_
          refine Ef_if_eq dX12_set_5 (tgt := 34) rfl (by exact zf1) ?_
          refine Eq_iln dX12_set_8 rfl ?_
          refine Eq_ic (v := nI 0) dX12_set_9 rfl ?_
          refine Eq_ic (v := nI 1) dX12_set_10 rfl ?_
          refine Eq_S3 (N := m_X12_in) dX12_set_11 lk_X12_215 mS_X12_in ((by have z := r_inr (h := h) (x := nI 0) (k := 1) (by omega); rw [isr_s hr2] at z; exact z)) (by decide) (Nat.le_of_ble_eq_true rfl) (Nat.le_of_ble_eq_true rfl) ?_
          refine Ef_if_eq dX12_set_14 (tgt := 34) rfl (by exact zf1) ?_
          refine Eq_iln dX12_set_17 rfl ?_
          refine Eq_ic (v := nI 0) dX12_set_18 rfl ?_
          refine Eq_iln dX12_set_19 rfl ?_
          refine Ef_if_ne dX12_set_20 (tgt := 27) rfl (by rfl) ?_
          refine Eq_ic (v := nI 1) dX12_set_23 rfl ?_
          refine Eam_x_goto (tgt := 28) dX12_set_24 rfl ?_
          refine Eq_S3 (N := m_X12_in) dX12_set_28 lk_X12_215 mS_X12_in ((by have z := r_inr (h := h) (x := x3) (k := 1) (by omega); rw [isr_n hr3] at z; exact z)) (by decide) (Nat.le_of_ble_eq_true rfl) (Nat.le_of_ble_eq_true rfl) ?_
          refine Ef_if_ne dX12_set_31 (tgt := 36) rfl (by rfl) ?_
          refine Eq_ic (v := nI 0) dX12_set_34 rfl ?_
          first | refine Eq_zrn dX12_set_35 rfl (by first | omega | exact b2_le) ?_ | refine Eq_zr dX12_set_35 rfl (by first | exact Or.inl rfl | exact Or.inr rfl | assumption) ?_
          exact ⟨rfl, rfl⟩
        | some v =>
          have hi3 := isr_s hr3
          obtain ⟨rfl, hv⟩ := rg_some (by omega) hr3
          have hb := hB m hm
          by_cases he : F 0 m = v
          · rw [show seO n F (nI m) (nI 0) (nI v) = none by unfold seO; rw [hr1, hr2]; simp [hr3, he]]
            refine Eq_aln dX12_set_0 rfl ?_
            refine Eq_iln dX12_set_1 rfl ?_
            refine Eq_V1 (N := m_X12_isMember) dX12_set_2 lk_X12_288 mV_X12_isMember ((by have z := r_isMember hW hR (x := nI m); rw [isr_s hr1] at z; exact z)) (by decide) (ws_50 hW) rfl (by decide) (Nat.le_of_ble_eq_true rfl) (Nat.le_of_ble_eq_true rfl) ?_
            refine Ef_if_eq dX12_set_5 (tgt := 34) rfl (by exact zf1) ?_
            refine Eq_iln dX12_set_8 rfl ?_
            refine Eq_ic (v := nI 0) dX12_set_9 rfl ?_
            refine Eq_ic (v := nI 1) dX12_set_10 rfl ?_
            refine Eq_S3 (N := m_X12_in) dX12_set_11 lk_X12_215 mS_X12_in ((by have z := r_inr (h := h) (x := nI 0) (k := 1) (by omega); rw [isr_s hr2] at z; exact z)) (by decide) (Nat.le_of_ble_eq_true rfl) (Nat.le_of_ble_eq_true rfl) ?_
            refine Ef_if_eq dX12_set_14 (tgt := 34) rfl (by exact zf1) ?_
            refine Eq_iln dX12_set_17 rfl ?_
            refine Eq_ic (v := nI 0) dX12_set_18 rfl ?_
            refine Eq_iln dX12_set_19 rfl ?_
            refine Ef_if_ne dX12_set_20 (tgt := 27) rfl (by rfl) ?_
            refine Eq_ic (v := nI 1) dX12_set_23 rfl ?_
            refine Eam_x_goto (tgt := 28) dX12_set_24 rfl ?_
            refine Eq_S3 (N := m_X12_in) dX12_set_28 lk_X12_215 mS_X12_in ((by have z := r_inr (h := h) (x := nI v) (k := 1) (by omega); rw [hi3] at z; exact z)) (by decide) (Nat.le_of_ble_eq_true rfl) (Nat.le_of_ble_eq_true rfl) ?_
            refine Et_if_ne 36 dX12_set_31 rfl (by exact zf1) ?_
            refine Eq_iln dX12_set_36 rfl ?_
            refine Ef_if_ne dX12_set_37 (tgt := 44) rfl (by rfl) ?_
            refine Eq_ic (v := nI 0) dX12_set_40 rfl ?_
            refine Eam_x_goto (tgt := 45) dX12_set_41 rfl ?_
            refine Eq_is dX12_set_45 (by decide) ?_
            refine Eq_aln dX12_set_47 rfl ?_
            refine Eq_iln dX12_set_48 rfl ?_
            refine Eq_il dX12_set_49 rfl ?_
            refine Eq_V2 (N := m_X12_of) dX12_set_51 lk_X12_258 mV_X12_of (r_of hW hR hm (by omega)) (by decide) (ws_50 hW) rfl (by decide) (Nat.le_of_ble_eq_true rfl) (Nat.le_of_ble_eq_true rfl) ?_
            refine Eq_iln dX12_set_54 rfl ?_
            refine Ef_ic_ne dX12_set_55 (tgt := 60) rfl (by rw [he]) ?_
            refine Eq_ic (v := nI 0) dX12_set_58 rfl ?_
            first | refine Eq_zrn dX12_set_59 rfl (by first | omega | exact b2_le) ?_ | refine Eq_zr dX12_set_59 rfl (by first | exact Or.inl rfl | exact Or.inr rfl | assumption) ?_
            exact ⟨rfl, rfl⟩
          · rw [show seO n F (nI m) (nI 0) (nI v) = some (0, m, v) by unfold seO; rw [hr1, hr2]; simp [hr3, he]]
            refine Eq_aln dX12_set_0 rfl ?_
            refine Eq_iln dX12_set_1 rfl ?_
            refine Eq_V1 (N := m_X12_isMember) dX12_set_2 lk_X12_288 mV_X12_isMember ((by have z := r_isMember hW hR (x := nI m); rw [isr_s hr1] at z; exact z)) (by decide) (ws_50 hW) rfl (by decide) (Nat.le_of_ble_eq_true rfl) (Nat.le_of_ble_eq_true rfl) ?_
            refine Ef_if_eq dX12_set_5 (tgt := 34) rfl (by exact zf1) ?_
            refine Eq_iln dX12_set_8 rfl ?_
            refine Eq_ic (v := nI 0) dX12_set_9 rfl ?_
            refine Eq_ic (v := nI 1) dX12_set_10 rfl ?_
            refine Eq_S3 (N := m_X12_in) dX12_set_11 lk_X12_215 mS_X12_in ((by have z := r_inr (h := h) (x := nI 0) (k := 1) (by omega); rw [isr_s hr2] at z; exact z)) (by decide) (Nat.le_of_ble_eq_true rfl) (Nat.le_of_ble_eq_true rfl) ?_
            refine Ef_if_eq dX12_set_14 (tgt := 34) rfl (by exact zf1) ?_
            refine Eq_iln dX12_set_17 rfl ?_
            refine Eq_ic (v := nI 0) dX12_set_18 rfl ?_
            refine Eq_iln dX12_set_19 rfl ?_
            refine Ef_if_ne dX12_set_20 (tgt := 27) rfl (by rfl) ?_
            refine Eq_ic (v := nI 1) dX12_set_23 rfl ?_
            refine Eam_x_goto (tgt := 28) dX12_set_24 rfl ?_
            refine Eq_S3 (N := m_X12_in) dX12_set_28 lk_X12_215 mS_X12_in ((by have z := r_inr (h := h) (x := nI v) (k := 1) (by omega); rw [hi3] at z; exact z)) (by decide) (Nat.le_of_ble_eq_true rfl) (Nat.le_of_ble_eq_true rfl) ?_
            refine Et_if_ne 36 dX12_set_31 rfl (by exact zf1) ?_
            refine Eq_iln dX12_set_36 rfl ?_
            refine Ef_if_ne dX12_set_37 (tgt := 44) rfl (by rfl) ?_
            refine Eq_ic (v := nI 0) dX12_set_40 rfl ?_
            refine Eam_x_goto (tgt := 45) dX12_set_41 rfl ?_
            refine Eq_is dX12_set_45 (by decide) ?_
            refine Eq_aln dX12_set_47 rfl ?_
            refine Eq_iln dX12_set_48 rfl ?_
            refine Eq_il dX12_set_49 rfl ?_
            refine Eq_V2 (N := m_X12_of) dX12_set_51 lk_X12_258 mV_X12_of (r_of hW hR hm (by omega)) (by decide) (ws_50 hW) rfl (by decide) (Nat.le_of_ble_eq_true rfl) (Nat.le_of_ble_eq_true rfl) ?_
            refine Eq_iln dX12_set_54 rfl ?_
            refine Et_ic_ne 60 dX12_set_55 rfl (by exact fun z => he ((nI_eq (by omega) (by omega)).mp z)) ?_
            refine Eq_aln dX12_set_60 rfl ?_
            refine Eq_getR dX12_set_61 fl_X12_43 (ws_50 hW) rfl (wp_50_20 hW) ?_
            refine Eq_bp (v := nI 7) dX12_set_64 rfl ?_
            refine Eq_iln dX12_set_66 rfl ?_
            first | refine Eq_mul dX12_set_67 ?_ | refine Eam_x_pu dX12_set_67 rfl ?_
            refine Eq_il dX12_set_68 rfl ?_
            first | refine Eq_add dX12_set_70 ?_ | refine Eam_x_pu dX12_set_70 rfl ?_
            refine Eq_iln dX12_set_71 rfl ?_
            refine Eq_ast dX12_set_72 (ws_62 hW) (by omega) (by omega) ?_
            refine Eq_ic (v := nI 1) dX12_set_73 rfl ?_
            first | refine Eq_zrn dX12_set_74 rfl (by first | omega | exact b2_le) ?_ | refine Eq_zr dX12_set_74 rfl (by first | exact Or.inl rfl | exact Or.inr rfl | assumption) ?_
            exact ⟨rfl, (show (0 : Nat) < 7 by decide), hm, by show v ≤ most 0; unfold most; simp; omega, Fx.wI (Or.inl (by decide)), hR.tell (show (0 : Nat) < 7 by decide) hm (by show v ≤ most 0; unfold most; simp; omega) (wI_ne (by decide)) rfl (wI_ne (by decide))⟩
      · cases hr3 : rg x3 4 with
        | none =>
          rw [show seO n F (nI m) (nI 1) x3 = none by unfold seO; rw [hr1, hr2]; simp only [hr3, if_true, if_false, Nat.one_ne_zero, reduceIte]]
          refine Eq_aln dX12_set_0 rfl ?_
          refine Eq_iln dX12_set_1 rfl ?_
          refine Eq_V1 (N := m_X12_isMember) dX12_set_2 lk_X12_288 mV_X12_isMember ((by have z := r_isMember hW hR (x := nI m); rw [isr_s hr1] at z; exact z)) (by decide) (ws_50 hW) rfl (by decide) (Nat.le_of_ble_eq_true rfl) (Nat.le_of_ble_eq_true rfl) ?_
          refine Ef_if_eq dX12_set_5 (tgt := 34) rfl (by exact zf1) ?_
          refine Eq_iln dX12_set_8 rfl ?_
          refine Eq_ic (v := nI 0) dX12_set_9 rfl ?_
          refine Eq_ic (v := nI 1) dX12_set_10 rfl ?_
          refine Eq_S3 (N := m_X12_in) dX12_set_11 lk_X12_215 mS_X12_in ((by have z := r_inr (h := h) (x := nI 1) (k := 1) (by omega); rw [isr_s hr2] at z; exact z)) (by decide) (Nat.le_of_ble_eq_true rfl) (Nat.le_of_ble_eq_true rfl) ?_
          refine Ef_if_eq dX12_set_14 (tgt := 34) rfl (by exact zf1) ?_
          refine Eq_iln dX12_set_17 rfl ?_
          refine Eq_ic (v := nI 0) dX12_set_18 rfl ?_
          refine Eq_iln dX12_set_19 rfl ?_
          refine Et_if_ne 27 dX12_set_20 rfl (by exact zf1) ?_
          refine Eq_ic (v := nI 3) dX12_set_27 rfl ?_
          refine Eq_S3 (N := m_X12_in) dX12_set_28 lk_X12_215 mS_X12_in ((by have z := r_inr (h := h) (x := x3) (k := 3) (by omega); rw [isr_n hr3] at z; exact z)) (by decide) (Nat.le_of_ble_eq_true rfl) (Nat.le_of_ble_eq_true rfl) ?_
          refine Ef_if_ne dX12_set_31 (tgt := 36) rfl (by rfl) ?_
          refine Eq_ic (v := nI 0) dX12_set_34 rfl ?_
          first | refine Eq_zrn dX12_set_35 rfl (by first | omega | exact b2_le) ?_ | refine Eq_zr dX12_set_35 rfl (by first | exact Or.inl rfl | exact Or.inr rfl | assumption) ?_
          exact ⟨rfl, rfl⟩
        | some v =>
          have hi3 := isr_s hr3
          obtain ⟨rfl, hv⟩ := rg_some (by omega) hr3
          have hb := hB m hm
          by_cases he : F 3 m = v
          · rw [show seO n F (nI m) (nI 1) (nI v) = none by unfold seO; rw [hr1, hr2]; simp [hr3, he]]
            refine Eq_aln dX12_set_0 rfl ?_
            refine Eq_iln dX12_set_1 rfl ?_
            refine Eq_V1 (N := m_X12_isMember) dX12_set_2 lk_X12_288 mV_X12_isMember ((by have z := r_isMember hW hR (x := nI m); rw [isr_s hr1] at z; exact z)) (by decide) (ws_50 hW) rfl (by decide) (Nat.le_of_ble_eq_true rfl) (Nat.le_of_ble_eq_true rfl) ?_
            refine Ef_if_eq dX12_set_5 (tgt := 34) rfl (by exact zf1) ?_
            refine Eq_iln dX12_set_8 rfl ?_
            refine Eq_ic (v := nI 0) dX12_set_9 rfl ?_
            refine Eq_ic (v := nI 1) dX12_set_10 rfl ?_
            refine Eq_S3 (N := m_X12_in) dX12_set_11 lk_X12_215 mS_X12_in ((by have z := r_inr (h := h) (x := nI 1) (k := 1) (by omega); rw [isr_s hr2] at z; exact z)) (by decide) (Nat.le_of_ble_eq_true rfl) (Nat.le_of_ble_eq_true rfl) ?_
            refine Ef_if_eq dX12_set_14 (tgt := 34) rfl (by exact zf1) ?_
            refine Eq_iln dX12_set_17 rfl ?_
            refine Eq_ic (v := nI 0) dX12_set_18 rfl ?_
            refine Eq_iln dX12_set_19 rfl ?_
            refine Et_if_ne 27 dX12_set_20 rfl (by exact zf1) ?_
            refine Eq_ic (v := nI 3) dX12_set_27 rfl ?_
            refine Eq_S3 (N := m_X12_in) dX12_set_28 lk_X12_215 mS_X12_in ((by have z := r_inr (h := h) (x := nI v) (k := 3) (by omega); rw [hi3] at z; exact z)) (by decide) (Nat.le_of_ble_eq_true rfl) (Nat.le_of_ble_eq_true rfl) ?_
            refine Et_if_ne 36 dX12_set_31 rfl (by exact zf1) ?_
            refine Eq_iln dX12_set_36 rfl ?_
            refine Et_if_ne 44 dX12_set_37 rfl (by exact zf1) ?_
            refine Eq_ic (v := nI 3) dX12_set_44 rfl ?_
            refine Eq_is dX12_set_45 (by decide) ?_
            refine Eq_aln dX12_set_47 rfl ?_
            refine Eq_iln dX12_set_48 rfl ?_
            refine Eq_il dX12_set_49 rfl ?_
            refine Eq_V2 (N := m_X12_of) dX12_set_51 lk_X12_258 mV_X12_of (r_of hW hR hm (by omega)) (by decide) (ws_50 hW) rfl (by decide) (Nat.le_of_ble_eq_true rfl) (Nat.le_of_ble_eq_true rfl) ?_
            refine Eq_iln dX12_set_54 rfl ?_
            refine Ef_ic_ne dX12_set_55 (tgt := 60) rfl (by rw [he]) ?_
            refine Eq_ic (v := nI 0) dX12_set_58 rfl ?_
            first | refine Eq_zrn dX12_set_59 rfl (by first | omega | exact b2_le) ?_ | refine Eq_zr dX12_set_59 rfl (by first | exact Or.inl rfl | exact Or.inr rfl | assumption) ?_
            exact ⟨rfl, rfl⟩
          · rw [show seO n F (nI m) (nI 1) (nI v) = some (3, m, v) by unfold seO; rw [hr1, hr2]; simp [hr3, he]]
            refine Eq_aln dX12_set_0 rfl ?_
            refine Eq_iln dX12_set_1 rfl ?_
            refine Eq_V1 (N := m_X12_isMember) dX12_set_2 lk_X12_288 mV_X12_isMember ((by have z := r_isMember hW hR (x := nI m); rw [isr_s hr1] at z; exact z)) (by decide) (ws_50 hW) rfl (by decide) (Nat.le_of_ble_eq_true rfl) (Nat.le_of_ble_eq_true rfl) ?_
            refine Ef_if_eq dX12_set_5 (tgt := 34) rfl (by exact zf1) ?_
            refine Eq_iln dX12_set_8 rfl ?_
            refine Eq_ic (v := nI 0) dX12_set_9 rfl ?_
            refine Eq_ic (v := nI 1) dX12_set_10 rfl ?_
            refine Eq_S3 (N := m_X12_in) dX12_set_11 lk_X12_215 mS_X12_in ((by have z := r_inr (h := h) (x := nI 1) (k := 1) (by omega); rw [isr_s hr2] at z; exact z)) (by decide) (Nat.le_of_ble_eq_true rfl) (Nat.le_of_ble_eq_true rfl) ?_
            refine Ef_if_eq dX12_set_14 (tgt := 34) rfl (by exact zf1) ?_
            refine Eq_iln dX12_set_17 rfl ?_
            refine Eq_ic (v := nI 0) dX12_set_18 rfl ?_
            refine Eq_iln dX12_set_19 rfl ?_
            refine Et_if_ne 27 dX12_set_20 rfl (by exact zf1) ?_
            refine Eq_ic (v := nI 3) dX12_set_27 rfl ?_
            refine Eq_S3 (N := m_X12_in) dX12_set_28 lk_X12_215 mS_X12_in ((by have z := r_inr (h := h) (x := nI v) (k := 3) (by omega); rw [hi3] at z; exact z)) (by decide) (Nat.le_of_ble_eq_true rfl) (Nat.le_of_ble_eq_true rfl) ?_
            refine Et_if_ne 36 dX12_set_31 rfl (by exact zf1) ?_
            refine Eq_iln dX12_set_36 rfl ?_
            refine Et_if_ne 44 dX12_set_37 rfl (by exact zf1) ?_
            refine Eq_ic (v := nI 3) dX12_set_44 rfl ?_
            refine Eq_is dX12_set_45 (by decide) ?_
            refine Eq_aln dX12_set_47 rfl ?_
            refine Eq_iln dX12_set_48 rfl ?_
            refine Eq_il dX12_set_49 rfl ?_
            refine Eq_V2 (N := m_X12_of) dX12_set_51 lk_X12_258 mV_X12_of (r_of hW hR hm (by omega)) (by decide) (ws_50 hW) rfl (by decide) (Nat.le_of_ble_eq_true rfl) (Nat.le_of_ble_eq_true rfl) ?_
            refine Eq_iln dX12_set_54 rfl ?_
            refine Et_ic_ne 60 dX12_set_55 rfl (by exact fun z => he ((nI_eq (by omega) (by omega)).mp z)) ?_
            refine Eq_aln dX12_set_60 rfl ?_
            refine Eq_getR dX12_set_61 fl_X12_43 (ws_50 hW) rfl (wp_50_20 hW) ?_
            refine Eq_bp (v := nI 7) dX12_set_64 rfl ?_
            refine Eq_iln dX12_set_66 rfl ?_
            first | refine Eq_mul dX12_set_67 ?_ | refine Eam_x_pu dX12_set_67 rfl ?_
            refine Eq_il dX12_set_68 rfl ?_
            first | refine Eq_add dX12_set_70 ?_ | refine Eam_x_pu dX12_set_70 rfl ?_
            refine Eq_iln dX12_set_71 rfl ?_
            refine Eq_ast dX12_set_72 (ws_62 hW) (by omega) (by omega) ?_
            refine Eq_ic (v := nI 1) dX12_set_73 rfl ?_
            first | refine Eq_zrn dX12_set_74 rfl (by first | omega | exact b2_le) ?_ | refine Eq_zr dX12_set_74 rfl (by first | exact Or.inl rfl | exact Or.inr rfl | assumption) ?_
            exact ⟨rfl, (show (3 : Nat) < 7 by decide), hm, by show v ≤ most 3; unfold most; simp; omega, Fx.wI (Or.inl (by decide)), hR.tell (show (3 : Nat) < 7 by decide) hm (by show v ≤ most 3; unfold most; simp; omega) (wI_ne (by decide)) rfl (wI_ne (by decide))⟩
