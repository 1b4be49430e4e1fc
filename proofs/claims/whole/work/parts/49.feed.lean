theorem shj_neg : shj 4 < 0 := by decide +kernel
theorem shj_pos {j : Nat} (h : j < 4) : ¬ shj j < 0 := by
  rcases (show j = 0 ∨ j = 1 ∨ j = 2 ∨ j = 3 by omega) with rfl | rfl | rfl | rfl <;> decide +kernel
theorem fl_0 {q : Nat → Nat} {tl k : Nat} (h : q k = 0) : fl q tl (k + 1) = fl q tl k := by simp [fl, h]
theorem fl_1 {q : Nat → Nat} {tl k : Nat} (h : ¬ q k = 0) : fl q tl (k + 1) = fl q tl k + 1 := by simp [fl, h]
theorem fp_0 {q : Nat → Nat} {tl k : Nat} {tp : Nat → Nat} (h : q k = 0) : fp q tl tp (k + 1) = fp q tl tp k := by simp [fp, h]
theorem fp_1 {q : Nat → Nat} {tl k : Nat} {tp : Nat → Nat} (h : ¬ q k = 0) : fp q tl tp (k + 1) = up1 (fp q tl tp k) (fl q tl k) (q k) := by simp [fp, h]
abbrev nz (q : Nat → Nat) : Nat → Bool := fun i => decide (q i ≠ 0)
theorem nz_5 (a b c d e : Int32) : ct (nz (q20 a b c d e)) 20 = ct (nz (by8 a)) 4 + ct (nz (by8 b)) 4 + ct (nz (by8 c)) 4 + ct (nz (by8 d)) 4 + ct (nz (by8 e)) 4 := by
  rw [show (20 : Nat) = 16 + 4 by rfl, ct_add 16 4, show (16 : Nat) = 12 + 4 by rfl, ct_add 12 4, show (12 : Nat) = 8 + 4 by rfl, ct_add 8 4, show (8 : Nat) = 4 + 4 by rfl, ct_add 4 4]
  have k := q20_w a b c d e
  rw [ct_cong (p := nz (q20 a b c d e)) (q := nz (by8 a)) (k := 4) (fun i hi => by simp only [nz, (k i hi).1])]
  rw [ct_cong (p := fun i => nz (q20 a b c d e) (4 + i)) (q := nz (by8 b)) (k := 4) (fun i hi => by simp only [nz, (k i hi).2.1])]
  rw [ct_cong (p := fun i => nz (q20 a b c d e) (4 + 4 + i)) (q := nz (by8 c)) (k := 4) (fun i hi => by simp only [nz]; rw [show 4 + 4 + i = 8 + i by omega, (k i hi).2.2.1])]
  rw [ct_cong (p := fun i => nz (q20 a b c d e) (4 + 4 + 4 + i)) (q := nz (by8 d)) (k := 4) (fun i hi => by simp only [nz]; rw [show 4 + 4 + 4 + i = 12 + i by omega, (k i hi).2.2.2.1])]
  rw [ct_cong (p := fun i => nz (q20 a b c d e) (4 + 4 + 4 + 4 + i)) (q := nz (by8 e)) (k := 4) (fun i hi => by simp only [nz]; rw [show 4 + 4 + 4 + 4 + i = 16 + i by omega, (k i hi).2.2.2.2])]
set_option maxHeartbeats 2000000 in
theorem c_signsIn_lp {h : am_H} {w : Int32} : ∀ k j, j + k = 4 → am_Sem 0 m_X9_signsIn 5 [some (.int w), some (.int (nI (ct (nz (by8 w)) j))), some (.int (shj j))] [] h (some (.int (nI (ct (nz (by8 w)) 4))), h) := by
  intro k
  induction k with
  | zero =>
    intro j hj
    have hj4 : j = 4 := by omega
    subst hj4
    refine q_iln dX9_signsIn_5 rfl ?_
    refine t_if_lt 28 dX9_signsIn_6 rfl (by exact shj_neg) ?_
    refine q_iln dX9_signsIn_28 rfl ?_
    refine q_ir dX9_signsIn_29 rfl ?_
    rfl
  | succ k ih =>
    intro j hj
    have q := ih (j + 1) (by omega)
    have hlt := by8_lt w j
    by_cases e : by8 w j = 0
    · rw [ct_f (show ¬ nz (by8 w) j = true by simp [nz, e])] at q
      refine q_iln dX9_signsIn_5 rfl ?_
      refine f_if_lt dX9_signsIn_6 (tgt := 28) rfl (by exact shj_pos (by omega)) ?_
      refine q_iln dX9_signsIn_9 rfl ?_
      refine q_iln dX9_signsIn_10 rfl ?_
      refine am_x_pu dX9_signsIn_11 rfl ?_
      refine q_sp (v := nI 255) dX9_signsIn_12 rfl ?_
      refine am_x_pu dX9_signsIn_15 rfl ?_
      rw [by8_u w (by omega)]
      refine t_if_eq 22 dX9_signsIn_16 rfl (by rw [e]; rfl) ?_
      refine am_x_iinc dX9_signsIn_22 rfl (by decide) ?_
      refine am_nl (pc' := 25) (l' := [_, _, _]) rfl rfl ?_
      rw [shj_n]
      refine am_x_goto (tgt := 5) dX9_signsIn_25 rfl ?_
      exact q
    · rw [ct_t (show nz (by8 w) j = true by simp [nz, e])] at q
      refine q_iln dX9_signsIn_5 rfl ?_
      refine f_if_lt dX9_signsIn_6 (tgt := 28) rfl (by exact shj_pos (by omega)) ?_
      refine q_iln dX9_signsIn_9 rfl ?_
      refine q_iln dX9_signsIn_10 rfl ?_
      refine am_x_pu dX9_signsIn_11 rfl ?_
      refine q_sp (v := nI 255) dX9_signsIn_12 rfl ?_
      refine am_x_pu dX9_signsIn_15 rfl ?_
      rw [by8_u w (by omega)]
      refine f_if_eq dX9_signsIn_16 (tgt := 22) rfl (by exact nI_ne0 (by omega) (by omega)) ?_
      refine q_inc dX9_signsIn_19 rfl (by decide) ?_
      refine am_nl (pc' := 22) (l' := [_, _, _]) rfl rfl ?_
      refine am_x_iinc dX9_signsIn_22 rfl (by decide) ?_
      refine am_nl (pc' := 25) (l' := [_, _, _]) rfl rfl ?_
      rw [shj_n]
      refine am_x_goto (tgt := 5) dX9_signsIn_25 rfl ?_
      exact q
set_option maxHeartbeats 2000000 in
theorem c_signsIn {h : am_H} {w : Int32} : am_C 0 m_X9_signsIn [.int w] h (some (.int (nI (ct (nz (by8 w)) 4))), h) := by
  refine q_ic (v := nI 0) dX9_signsIn_0 rfl ?_
  refine q_isn dX9_signsIn_1 (by decide) ?_
  refine am_nl (pc' := 2) (l' := [_, _, _]) rfl rfl ?_
  refine q_bp (v := shj 0) dX9_signsIn_2 rfl ?_
  refine q_isn dX9_signsIn_4 (by decide) ?_
  refine am_nl (pc' := 5) (l' := [_, _, _]) rfl rfl ?_
  exact c_signsIn_lp 4 0 (by omega)
set_option maxHeartbeats 2000000 in
theorem c_hasRoom {h : am_H} (hW : Wd h) {tl : Nat} {tp : Nat → Nat} (hP : TP 1 1 2 h tl tp) {k : Nat} (hk : k ≤ 20) : am_C 0 m_X9_hasRoom [.ref 1, .int (nI k)] h (some (.int (nI (if tl + k ≤ 160 then 1 else 0))), h) := by
  obtain ⟨hp0, hp1, hp2⟩ := id hP
  refine q_aln dX9_hasRoom_0 rfl ?_
  refine q_getI dX9_hasRoom_1 fl_X9_15 (ws_1 hW) rfl (by first | assumption | rfl) ?_
  refine q_iln dX9_hasRoom_4 rfl ?_
  first | refine q_add dX9_hasRoom_5 ?_ | refine am_x_pu dX9_hasRoom_5 rfl ?_
  refine q_sp (v := nI 160) dX9_hasRoom_6 rfl ?_
  first | refine n_ic_gt 16 dX9_hasRoom_9 rfl (by omega) (by omega) (fun c9 => ?_) (fun c9 => ?_) | refine b_ic_gt 16 dX9_hasRoom_9 rfl (fun c9 => ?_) (fun c9 => ?_)
  · first
    | (exfalso; omega)
    | (refine q_ic (v := nI 0) dX9_hasRoom_16 rfl ?_
       first | refine q_zrn dX9_hasRoom_17 rfl (by first | omega | exact b2_le) ?_ | refine q_zr dX9_hasRoom_17 rfl (by first | exact Or.inl rfl | exact Or.inr rfl | assumption) ?_
       (apply o_nI; first | rw [if_pos (by omega)] | rw [if_neg (by omega)]))
  · first
    | (exfalso; omega)
    | (refine q_ic (v := nI 1) dX9_hasRoom_12 rfl ?_
       refine am_x_goto (tgt := 17) dX9_hasRoom_13 rfl ?_
       first | refine q_zrn dX9_hasRoom_17 rfl (by first | omega | exact b2_le) ?_ | refine q_zr dX9_hasRoom_17 rfl (by first | exact Or.inl rfl | exact Or.inr rfl | assumption) ?_
       (apply o_nI; first | rw [if_pos (by omega)] | rw [if_neg (by omega)]))
set_option maxHeartbeats 2000000 in
theorem c_append_lp {h : am_H} (hW : Wd h) {w : Int32} {tl : Nat} {tp : Nat → Nat} (hl : fl (by8 w) tl 4 ≤ 160) : ∀ k j hc (x3 : Option Value), j + k = 4 → Fx [2] [(1, 1)] h hc → TP 1 1 2 hc (fl (by8 w) tl j) (fp (by8 w) tl tp j) → am_E 0 m_X9_append 3 [some (.ref 1), some (.int w), some (.int (shj j)), x3] [] hc (fun v h2 => v = none ∧ Fx [2] [(1, 1)] h h2 ∧ TP 1 1 2 h2 (fl (by8 w) tl 4) (fp (by8 w) tl tp 4)) := by
  intro k
  induction k with
  | zero =>
    intro j hc x3 hj hfr hP
    have hj4 : j = 4 := by omega
    subst hj4
    have hWc := hfr.Wd hW
    refine Eq_iln dX9_append_3 rfl ?_
    refine Et_if_lt 55 dX9_append_4 rfl (by exact shj_neg) ?_
    refine Eq_vr dX9_append_55 rfl ?_
    exact ⟨rfl, hfr, hP⟩
  | succ k ih =>
    intro j hc x3 hj hfr hP
    have hWc := hfr.Wd hW
    obtain ⟨hp0, hp1, hp2⟩ := id hP
    have hlt := by8_lt w j
    have hm := fl_mono (q := by8 w) (tl := tl) (show j + 1 ≤ 4 by omega)
    by_cases e : by8 w j = 0
    · refine Eq_iln dX9_append_3 rfl ?_
      refine Ef_if_lt dX9_append_4 (tgt := 55) rfl (by exact shj_pos (by omega)) ?_
      refine Eq_iln dX9_append_7 rfl ?_
      refine Eq_iln dX9_append_8 rfl ?_
      refine Eam_x_pu dX9_append_9 rfl ?_
      refine Eq_sp (v := nI 255) dX9_append_10 rfl ?_
      refine Eam_x_pu dX9_append_13 rfl ?_
      rw [by8_u w (by omega)]
      refine Eq_isn dX9_append_14 (by decide) ?_
      refine Eam_nl (pc' := 15) (l' := [_, _, _, _]) rfl rfl ?_
      refine Eq_iln dX9_append_15 rfl ?_
      refine Et_if_eq 49 dX9_append_16 rfl (by rw [e]; rfl) ?_
      refine Eam_x_iinc dX9_append_49 rfl (by decide) ?_
      refine Eam_nl (pc' := 52) (l' := [_, _, _, _]) rfl rfl ?_
      rw [shj_n]
      refine Eam_x_goto (tgt := 3) dX9_append_52 rfl ?_
      exact ih (j + 1) hc _ (by omega) hfr (by rw [fl_0 e, fp_0 e]; exact hP)
    · rw [fl_1 e] at hm
      refine Eq_iln dX9_append_3 rfl ?_
      refine Ef_if_lt dX9_append_4 (tgt := 55) rfl (by exact shj_pos (by omega)) ?_
      refine Eq_iln dX9_append_7 rfl ?_
      refine Eq_iln dX9_append_8 rfl ?_
      refine Eam_x_pu dX9_append_9 rfl ?_
      refine Eq_sp (v := nI 255) dX9_append_10 rfl ?_
      refine Eam_x_pu dX9_append_13 rfl ?_
      rw [by8_u w (by omega)]
      refine Eq_isn dX9_append_14 (by decide) ?_
      refine Eam_nl (pc' := 15) (l' := [_, _, _, _]) rfl rfl ?_
      refine Eq_iln dX9_append_15 rfl ?_
      refine Ef_if_eq dX9_append_16 (tgt := 49) rfl (by exact nI_ne0 (by omega) (by omega)) ?_
      refine Eq_aln dX9_append_19 rfl ?_
      refine Eq_getI dX9_append_20 fl_X9_15 (ws_1 hWc) rfl hp0 ?_
      refine Eq_sp (v := nI 160) dX9_append_23 rfl ?_
      refine Ef_ic_ge dX9_append_26 (tgt := 49) rfl (by exact nI_ge (by omega) (by omega)) ?_
      refine Eq_aln dX9_append_29 rfl ?_
      refine Eq_getR dX9_append_30 fl_X9_11 (ws_1 hWc) rfl (wp_1_0 hWc) ?_
      refine Eq_aln dX9_append_33 rfl ?_
      refine Eq_getI dX9_append_34 fl_X9_15 (ws_1 hWc) rfl hp0 ?_
      refine Eq_iln dX9_append_37 rfl ?_
      refine Eq_ast dX9_append_38 (ws_2 hWc) (by omega) (by omega) ?_
      refine Eq_aln dX9_append_39 rfl ?_
      refine Eam_x_pu dX9_append_40 rfl ?_
      refine Eq_getI dX9_append_41 fl_X9_15 (ws_1 hWc) rfl hp0 ?_
      refine Eq_ic (v := nI 1) dX9_append_44 rfl ?_
      first | refine Eq_add dX9_append_45 ?_ | refine Eam_x_pu dX9_append_45 rfl ?_
      refine Eam_x_putI dX9_append_46 (fw_X9_15 rfl) (ws_1 hWc) (Or.inl rfl) ?_
      refine Eam_x_iinc dX9_append_49 rfl (by decide) ?_
      refine Eam_nl (pc' := 52) (l' := [_, _, _, _]) rfl rfl ?_
      rw [shj_n]
      refine Eam_x_goto (tgt := 3) dX9_append_52 rfl ?_
      exact ih (j + 1) _ _ (by omega) ((hfr.tr (Fx.wI (Or.inl (by decide)))).tr (Fx.wI (Or.inr (by decide)))) (by rw [fl_1 e, fp_1 e]; exact hP.put (by omega) hlt (by rw [wI_eq, if_pos rfl]) (fun i => by rw [wI_ne (by decide), wI_eq]))
set_option maxHeartbeats 2000000 in
theorem c_append {h : am_H} (hW : Wd h) {tl : Nat} {tp : Nat → Nat} (hP : TP 1 1 2 h tl tp) {w : Int32} (hl : fl (by8 w) tl 4 ≤ 160) : am_D 0 m_X9_append [.ref 1, .int w] h (fun v h2 => v = none ∧ Fx [2] [(1, 1)] h h2 ∧ TP 1 1 2 h2 (fl (by8 w) tl 4) (fp (by8 w) tl tp 4)) := by
  refine Eq_bp (v := shj 0) dX9_append_0 rfl ?_
  refine Eq_isn dX9_append_2 (by decide) ?_
  refine Eam_nl (pc' := 3) (l' := [_, _, _, _]) rfl rfl ?_
  exact c_append_lp hW hl 4 0 h _ (by omega) Fx.rf hP
theorem fl_5 {a b c d e : Int32} {tl : Nat} : fl (q20 a b c d e) tl 20 = fl (by8 e) (fl (by8 d) (fl (by8 c) (fl (by8 b) (fl (by8 a) tl 4) 4) 4) 4) 4 := by
  have k := q20_w a b c d e
  have e1 : fl (q20 a b c d e) tl 4 = fl (by8 a) tl 4 := fl_cong (fun i hi => (k i hi).1)
  have e2 : fl (q20 a b c d e) tl 8 = fl (by8 b) (fl (by8 a) tl 4) 4 := by rw [show 8 = 4 + 4 by rfl, fl_w, e1]; exact fl_cong (fun i hi => (k i hi).2.1)
  have e3 : fl (q20 a b c d e) tl 12 = fl (by8 c) (fl (by8 b) (fl (by8 a) tl 4) 4) 4 := by rw [show 12 = 8 + 4 by rfl, fl_w, e2]; exact fl_cong (fun i hi => (k i hi).2.2.1)
  have e4 : fl (q20 a b c d e) tl 16 = fl (by8 d) (fl (by8 c) (fl (by8 b) (fl (by8 a) tl 4) 4) 4) 4 := by rw [show 16 = 12 + 4 by rfl, fl_w, e3]; exact fl_cong (fun i hi => (k i hi).2.2.2.1)
  rw [show 20 = 16 + 4 by rfl, fl_w, e4]; exact fl_cong (fun i hi => (k i hi).2.2.2.2)
theorem fp_5 {a b c d e : Int32} {tl : Nat} {tp : Nat → Nat} : fp (q20 a b c d e) tl tp 20 = fp (by8 e) (fl (by8 d) (fl (by8 c) (fl (by8 b) (fl (by8 a) tl 4) 4) 4) 4) (fp (by8 d) (fl (by8 c) (fl (by8 b) (fl (by8 a) tl 4) 4) 4) (fp (by8 c) (fl (by8 b) (fl (by8 a) tl 4) 4) (fp (by8 b) (fl (by8 a) tl 4) (fp (by8 a) tl tp 4) 4) 4) 4) 4 := by
  have k := q20_w a b c d e
  have e1 : fl (q20 a b c d e) tl 4 = fl (by8 a) tl 4 := fl_cong (fun i hi => (k i hi).1)
  have e2 : fl (q20 a b c d e) tl 8 = fl (by8 b) (fl (by8 a) tl 4) 4 := by rw [show 8 = 4 + 4 by rfl, fl_w, e1]; exact fl_cong (fun i hi => (k i hi).2.1)
  have e3 : fl (q20 a b c d e) tl 12 = fl (by8 c) (fl (by8 b) (fl (by8 a) tl 4) 4) 4 := by rw [show 12 = 8 + 4 by rfl, fl_w, e2]; exact fl_cong (fun i hi => (k i hi).2.2.1)
  have e4 : fl (q20 a b c d e) tl 16 = fl (by8 d) (fl (by8 c) (fl (by8 b) (fl (by8 a) tl 4) 4) 4) 4 := by rw [show 16 = 12 + 4 by rfl, fl_w, e3]; exact fl_cong (fun i hi => (k i hi).2.2.2.1)
  have f1 : fp (q20 a b c d e) tl tp 4 = fp (by8 a) tl tp 4 := fp_cong (fun i hi => (k i hi).1)
  have f2 : fp (q20 a b c d e) tl tp 8 = fp (by8 b) (fl (by8 a) tl 4) (fp (by8 a) tl tp 4) 4 := by rw [show 8 = 4 + 4 by rfl, fp_w, e1, f1]; exact fp_cong (fun i hi => (k i hi).2.1)
  have f3 : fp (q20 a b c d e) tl tp 12 = fp (by8 c) (fl (by8 b) (fl (by8 a) tl 4) 4) (fp (by8 b) (fl (by8 a) tl 4) (fp (by8 a) tl tp 4) 4) 4 := by rw [show 12 = 8 + 4 by rfl, fp_w, e2, f2]; exact fp_cong (fun i hi => (k i hi).2.2.1)
  have f4 : fp (q20 a b c d e) tl tp 16 = fp (by8 d) (fl (by8 c) (fl (by8 b) (fl (by8 a) tl 4) 4) 4) (fp (by8 c) (fl (by8 b) (fl (by8 a) tl 4) 4) (fp (by8 b) (fl (by8 a) tl 4) (fp (by8 a) tl tp 4) 4) 4) 4 := by rw [show 16 = 12 + 4 by rfl, fp_w, e3, f3]; exact fp_cong (fun i hi => (k i hi).2.2.2.1)
  rw [show 20 = 16 + 4 by rfl, fp_w, e4, f4]; exact fp_cong (fun i hi => (k i hi).2.2.2.2)
set_option maxHeartbeats 2000000 in
theorem c_feed {h : am_H} (hW : Wd h) {tl : Nat} {tp : Nat → Nat} (hP : TP 1 1 2 h tl tp) {a b c d e : Int32} : am_D 1 m_X11_feed [.ref 0, .int a, .int b, .int c, .int d, .int e] h (fun v h2 => if tl + ct (nz (q20 a b c d e)) 20 ≤ 160 then v = some (.int (nI (tl + ct (nz (q20 a b c d e)) 20))) ∧ Fx [2] [(1, 1)] h h2 ∧ TP 1 1 2 h2 (tl + ct (nz (q20 a b c d e)) 20) (fp (q20 a b c d e) tl tp 20) else v = some (.int (-1)) ∧ h2 = h) := by
  obtain ⟨hp0, hp1, hp2⟩ := id hP
  have c1 := ct_le (nz (by8 a)) 4
  have c2 := ct_le (nz (by8 b)) 4
  have c3 := ct_le (nz (by8 c)) 4
  have c4 := ct_le (nz (by8 d)) 4
  have c5 := ct_le (nz (by8 e)) 4
  have hsum := nz_5 a b c d e
  have hrm : am_C 0 m_X9_hasRoom [.ref 1, .int (nI (ct (nz (by8 a)) 4 + ct (nz (by8 b)) 4 + ct (nz (by8 c)) 4 + ct (nz (by8 d)) 4 + ct (nz (by8 e)) 4))] h (some (.int (nI (if tl + ct (nz (q20 a b c d e)) 20 ≤ 160 then 1 else 0))), h) := by
    have z := c_hasRoom hW hP (k := ct (nz (by8 a)) 4 + ct (nz (by8 b)) 4 + ct (nz (by8 c)) 4 + ct (nz (by8 d)) 4 + ct (nz (by8 e)) 4) (by omega)
    rw [← hsum] at z
    rw [← hsum]
    exact z
  by_cases hr : tl + ct (nz (q20 a b c d e)) 20 ≤ 160
  · simp only [if_pos hr]
    have k := q20_w a b c d e
    have hsum := nz_5 a b c d e
    have l1 : fl (by8 a) tl 4 = tl + ct (nz (by8 a)) 4 := fl_ct 4
    have l2 : ∀ t, fl (by8 b) t 4 = t + ct (nz (by8 b)) 4 := fun t => fl_ct 4
    have l3 : ∀ t, fl (by8 c) t 4 = t + ct (nz (by8 c)) 4 := fun t => fl_ct 4
    have l4 : ∀ t, fl (by8 d) t 4 = t + ct (nz (by8 d)) 4 := fun t => fl_ct 4
    have l5 : ∀ t, fl (by8 e) t 4 = t + ct (nz (by8 e)) 4 := fun t => fl_ct 4
    have m2 := l2 (fl (by8 a) tl 4)
    have m3 := l3 (fl (by8 b) (fl (by8 a) tl 4) 4)
    have m4 := l4 (fl (by8 c) (fl (by8 b) (fl (by8 a) tl 4) 4) 4)
    have m5 := l5 (fl (by8 d) (fl (by8 c) (fl (by8 b) (fl (by8 a) tl 4) 4) 4) 4)
    refine Eq_iln dX11_feed_0 rfl ?_
    refine Eq_S1 (N := m_X9_signsIn) dX11_feed_1 lk_X11_113 mS_X9_signsIn (c_signsIn) (by decide) (Nat.le_of_ble_eq_true rfl) (Nat.le_of_ble_eq_true rfl) ?_
    refine Eq_iln dX11_feed_4 rfl ?_
    refine Eq_S1 (N := m_X9_signsIn) dX11_feed_5 lk_X11_113 mS_X9_signsIn (c_signsIn) (by decide) (Nat.le_of_ble_eq_true rfl) (Nat.le_of_ble_eq_true rfl) ?_
    first | refine Eq_add dX11_feed_8 ?_ | refine Eam_x_pu dX11_feed_8 rfl ?_
    refine Eq_iln dX11_feed_9 rfl ?_
    refine Eq_S1 (N := m_X9_signsIn) dX11_feed_10 lk_X11_113 mS_X9_signsIn (c_signsIn) (by decide) (Nat.le_of_ble_eq_true rfl) (Nat.le_of_ble_eq_true rfl) ?_
    first | refine Eq_add dX11_feed_13 ?_ | refine Eam_x_pu dX11_feed_13 rfl ?_
    refine Eq_il dX11_feed_14 rfl ?_
    refine Eq_S1 (N := m_X9_signsIn) dX11_feed_16 lk_X11_113 mS_X9_signsIn (c_signsIn) (by decide) (Nat.le_of_ble_eq_true rfl) (Nat.le_of_ble_eq_true rfl) ?_
    first | refine Eq_add dX11_feed_19 ?_ | refine Eam_x_pu dX11_feed_19 rfl ?_
    refine Eq_il dX11_feed_20 rfl ?_
    refine Eq_S1 (N := m_X9_signsIn) dX11_feed_22 lk_X11_113 mS_X9_signsIn (c_signsIn) (by decide) (Nat.le_of_ble_eq_true rfl) (Nat.le_of_ble_eq_true rfl) ?_
    first | refine Eq_add dX11_feed_25 ?_ | refine Eam_x_pu dX11_feed_25 rfl ?_
    refine Eq_is dX11_feed_26 (by decide) ?_
    refine Eam_nl (pc' := 28) (l' := [_, _, _, _, _, _, _]) rfl rfl ?_
    refine Eq_aln dX11_feed_28 rfl ?_
    refine Eq_getR dX11_feed_29 fl_X11_10 (ws_0 hW) rfl (wp_0_0 hW) ?_
    refine Eq_il dX11_feed_32 rfl ?_
    refine Eq_V1 (N := m_X9_hasRoom) dX11_feed_34 lk_X11_117 mV_X9_hasRoom (hrm) (by decide) (ws_1 hW) rfl (by decide) (Nat.le_of_ble_eq_true rfl) (Nat.le_of_ble_eq_true rfl) ?_
    refine Et_if_ne 42 dX11_feed_37 rfl (by rw [if_pos hr]; exact zf1) ?_
    refine Eq_aln dX11_feed_42 rfl ?_
    refine Eq_getR dX11_feed_43 fl_X11_10 (ws_0 hW) rfl (wp_0_0 hW) ?_
    refine Eq_iln dX11_feed_46 rfl ?_
    refine Eq_W1 (N := m_X9_append) dX11_feed_47 lk_X11_121 mV_X9_append (c_append hW hP (by omega)) (by decide) (ws_1 hW) rfl (by decide) (Nat.le_of_ble_eq_true rfl) (Nat.le_of_ble_eq_true rfl) (fun vq hq1 hq2 => ?_)
    obtain ⟨rfl, hf1, hP1⟩ := hq2
    have hW1 := hf1.Wd hW
    refine Eq_aln dX11_feed_50 rfl ?_
    refine Eq_getR dX11_feed_51 fl_X11_10 (ws_0 hW1) rfl (wp_0_0 hW1) ?_
    refine Eq_iln dX11_feed_54 rfl ?_
    refine Eq_W1 (N := m_X9_append) dX11_feed_55 lk_X11_121 mV_X9_append (c_append hW1 hP1 (by omega)) (by decide) (ws_1 hW1) rfl (by decide) (Nat.le_of_ble_eq_true rfl) (Nat.le_of_ble_eq_true rfl) (fun vq hq1 hq2 => ?_)
    obtain ⟨rfl, hf2, hP2⟩ := hq2
    have hW2 := hf2.Wd hW1
    refine Eq_aln dX11_feed_58 rfl ?_
    refine Eq_getR dX11_feed_59 fl_X11_10 (ws_0 hW2) rfl (wp_0_0 hW2) ?_
    refine Eq_iln dX11_feed_62 rfl ?_
    refine Eq_W1 (N := m_X9_append) dX11_feed_63 lk_X11_121 mV_X9_append (c_append hW2 hP2 (by omega)) (by decide) (ws_1 hW2) rfl (by decide) (Nat.le_of_ble_eq_true rfl) (Nat.le_of_ble_eq_true rfl) (fun vq hq1 hq2 => ?_)
    obtain ⟨rfl, hf3, hP3⟩ := hq2
    have hW3 := hf3.Wd hW2
    refine Eq_aln dX11_feed_66 rfl ?_
    refine Eq_getR dX11_feed_67 fl_X11_10 (ws_0 hW3) rfl (wp_0_0 hW3) ?_
    refine Eq_il dX11_feed_70 rfl ?_
    refine Eq_W1 (N := m_X9_append) dX11_feed_72 lk_X11_121 mV_X9_append (c_append hW3 hP3 (by omega)) (by decide) (ws_1 hW3) rfl (by decide) (Nat.le_of_ble_eq_true rfl) (Nat.le_of_ble_eq_true rfl) (fun vq hq1 hq2 => ?_)
    obtain ⟨rfl, hf4, hP4⟩ := hq2
    have hW4 := hf4.Wd hW3
    refine Eq_aln dX11_feed_75 rfl ?_
    refine Eq_getR dX11_feed_76 fl_X11_10 (ws_0 hW4) rfl (wp_0_0 hW4) ?_
    refine Eq_il dX11_feed_79 rfl ?_
    refine Eq_W1 (N := m_X9_append) dX11_feed_81 lk_X11_121 mV_X9_append (c_append hW4 hP4 (by omega)) (by decide) (ws_1 hW4) rfl (by decide) (Nat.le_of_ble_eq_true rfl) (Nat.le_of_ble_eq_true rfl) (fun vq hq1 hq2 => ?_)
    obtain ⟨rfl, hf5, hP5⟩ := hq2
    have hW5 := hf5.Wd hW4
    refine Eq_aln dX11_feed_84 rfl ?_
    refine Eq_getR dX11_feed_85 fl_X11_10 (ws_0 hW5) rfl (wp_0_0 hW5) ?_
    refine Eq_getI dX11_feed_88 fl_X11_125 (ws_1 hW5) rfl rfl ?_
    refine Eq_ir dX11_feed_91 rfl ?_
    exact ⟨by rw [hP5.1, ← fl_5, fl_ct], ((((hf1.tr hf2).tr hf3).tr hf4).tr hf5), by
      have z := hP5
      rw [← fl_5, ← fp_5, fl_ct] at z
      exact z⟩
  · simp only [if_neg hr]
    refine Eq_iln dX11_feed_0 rfl ?_
    refine Eq_S1 (N := m_X9_signsIn) dX11_feed_1 lk_X11_113 mS_X9_signsIn (c_signsIn) (by decide) (Nat.le_of_ble_eq_true rfl) (Nat.le_of_ble_eq_true rfl) ?_
    refine Eq_iln dX11_feed_4 rfl ?_
    refine Eq_S1 (N := m_X9_signsIn) dX11_feed_5 lk_X11_113 mS_X9_signsIn (c_signsIn) (by decide) (Nat.le_of_ble_eq_true rfl) (Nat.le_of_ble_eq_true rfl) ?_
    first | refine Eq_add dX11_feed_8 ?_ | refine Eam_x_pu dX11_feed_8 rfl ?_
    refine Eq_iln dX11_feed_9 rfl ?_
    refine Eq_S1 (N := m_X9_signsIn) dX11_feed_10 lk_X11_113 mS_X9_signsIn (c_signsIn) (by decide) (Nat.le_of_ble_eq_true rfl) (Nat.le_of_ble_eq_true rfl) ?_
    first | refine Eq_add dX11_feed_13 ?_ | refine Eam_x_pu dX11_feed_13 rfl ?_
    refine Eq_il dX11_feed_14 rfl ?_
    refine Eq_S1 (N := m_X9_signsIn) dX11_feed_16 lk_X11_113 mS_X9_signsIn (c_signsIn) (by decide) (Nat.le_of_ble_eq_true rfl) (Nat.le_of_ble_eq_true rfl) ?_
    first | refine Eq_add dX11_feed_19 ?_ | refine Eam_x_pu dX11_feed_19 rfl ?_
    refine Eq_il dX11_feed_20 rfl ?_
    refine Eq_S1 (N := m_X9_signsIn) dX11_feed_22 lk_X11_113 mS_X9_signsIn (c_signsIn) (by decide) (Nat.le_of_ble_eq_true rfl) (Nat.le_of_ble_eq_true rfl) ?_
    first | refine Eq_add dX11_feed_25 ?_ | refine Eam_x_pu dX11_feed_25 rfl ?_
    refine Eq_is dX11_feed_26 (by decide) ?_
    refine Eam_nl (pc' := 28) (l' := [_, _, _, _, _, _, _]) rfl rfl ?_
    refine Eq_aln dX11_feed_28 rfl ?_
    refine Eq_getR dX11_feed_29 fl_X11_10 (ws_0 hW) rfl (wp_0_0 hW) ?_
    refine Eq_il dX11_feed_32 rfl ?_
    refine Eq_V1 (N := m_X9_hasRoom) dX11_feed_34 lk_X11_117 mV_X9_hasRoom (hrm) (by decide) (ws_1 hW) rfl (by decide) (Nat.le_of_ble_eq_true rfl) (Nat.le_of_ble_eq_true rfl) ?_
    refine Ef_if_ne dX11_feed_37 (tgt := 42) rfl (by rw [if_neg hr]; rfl) ?_
    refine Eq_ic (v := -1) dX11_feed_40 rfl ?_
    refine Eq_ir dX11_feed_41 rfl ?_
    exact ⟨rfl, rfl⟩
set_option maxHeartbeats 2000000 in
theorem c_end {h : am_H} (hW : Wd h) {tl : Nat} {tp : Nat → Nat} (hP : TP 1 1 2 h tl tp) {x : Int32} : am_C 0 m_X11_end [.ref 0, .int x] h (match rg x (tl + 1) with
    | none => (some (.int (nI 0)), h)
    | some k => (some (.int (nI 1)), am_wI h 1 1 (nI k))) := by
  obtain ⟨hp0, hp1, hp2⟩ := id hP
  cases hr : rg x (tl + 1) with
  | none =>
    rcases rg_none (by omega) hr with hx | ⟨hx, hy⟩
    · refine q_iln dX11_end_0 rfl ?_
      refine t_if_lt 15 dX11_end_1 rfl (by exact hx) ?_
      refine q_ic (v := nI 0) dX11_end_15 rfl ?_
      first | refine q_zrn dX11_end_16 rfl (by first | omega | exact b2_le) ?_ | refine q_zr dX11_end_16 rfl (by first | exact Or.inl rfl | exact Or.inr rfl | assumption) ?_
      rfl
    · refine q_iln dX11_end_0 rfl ?_
      refine f_if_lt dX11_end_1 (tgt := 15) rfl (by exact hx) ?_
      refine q_iln dX11_end_4 rfl ?_
      refine q_aln dX11_end_5 rfl ?_
      refine q_getR dX11_end_6 fl_X11_10 (ws_0 hW) rfl (wp_0_0 hW) ?_
      refine q_getI dX11_end_9 fl_X11_125 (ws_1 hW) rfl (by first | assumption | rfl) ?_
      refine f_ic_le dX11_end_12 (tgt := 17) rfl (by exact rg_gt (by omega) hy) ?_
      refine q_ic (v := nI 0) dX11_end_15 rfl ?_
      first | refine q_zrn dX11_end_16 rfl (by first | omega | exact b2_le) ?_ | refine q_zr dX11_end_16 rfl (by first | exact Or.inl rfl | exact Or.inr rfl | assumption) ?_
      rfl
  | some w =>
    obtain ⟨rfl, hw⟩ := rg_some (by omega) hr
    refine q_iln dX11_end_0 rfl ?_
    refine n_if_lt (tgt := 15) dX11_end_1 rfl (by omega) ?_
    refine q_iln dX11_end_4 rfl ?_
    refine q_aln dX11_end_5 rfl ?_
    refine q_getR dX11_end_6 fl_X11_10 (ws_0 hW) rfl (wp_0_0 hW) ?_
    refine q_getI dX11_end_9 fl_X11_125 (ws_1 hW) rfl (by first | assumption | rfl) ?_
    refine t_ic_le 17 dX11_end_12 rfl (by exact nI_le (by omega) (by omega)) ?_
    refine q_aln dX11_end_17 rfl ?_
    refine q_getR dX11_end_18 fl_X11_10 (ws_0 hW) rfl (wp_0_0 hW) ?_
    refine q_iln dX11_end_21 rfl ?_
    refine am_x_putI dX11_end_22 (fw_X11_125 rfl) (ws_1 hW) (Or.inl rfl) ?_
    refine q_ic (v := nI 1) dX11_end_25 rfl ?_
    first | refine q_zrn dX11_end_26 rfl (by first | omega | exact b2_le) ?_ | refine q_zr dX11_end_26 rfl (by first | exact Or.inl rfl | exact Or.inr rfl | assumption) ?_
    rfl
set_option maxHeartbeats 2000000 in
theorem r_byteOf {h : am_H} {a b c d e : Int32} {k : Nat} (hk : k < 20) : am_C 0 m_X12_byteOf [.int a, .int b, .int c, .int d, .int e, .int (nI k)] h (some (.int (nI (q20 a b c d e k))), h) := by
  refine q_il dX12_byteOf_0 rfl ?_
  refine q_ic (v := nI 4) dX12_byteOf_2 rfl ?_
  first | refine n_ic_ge 10 dX12_byteOf_3 rfl (by omega) (by omega) (fun c3 => ?_) (fun c3 => ?_) | refine b_ic_ge 10 dX12_byteOf_3 rfl (fun c3 => ?_) (fun c3 => ?_)
  · first
    | (exfalso; omega)
    | (refine q_il dX12_byteOf_10 rfl ?_
       refine q_bp (v := nI 8) dX12_byteOf_12 rfl ?_
       first | refine n_ic_ge 21 dX12_byteOf_14 rfl (by omega) (by omega) (fun c14 => ?_) (fun c14 => ?_) | refine b_ic_ge 21 dX12_byteOf_14 rfl (fun c14 => ?_) (fun c14 => ?_)
       · first
         | (exfalso; omega)
         | (refine q_il dX12_byteOf_21 rfl ?_
            refine q_bp (v := nI 12) dX12_byteOf_23 rfl ?_
            first | refine n_ic_ge 32 dX12_byteOf_25 rfl (by omega) (by omega) (fun c25 => ?_) (fun c25 => ?_) | refine b_ic_ge 32 dX12_byteOf_25 rfl (fun c25 => ?_) (fun c25 => ?_)
            · first
              | (exfalso; omega)
              | (refine q_il dX12_byteOf_32 rfl ?_
                 refine q_bp (v := nI 16) dX12_byteOf_34 rfl ?_
                 first | refine n_ic_ge 43 dX12_byteOf_36 rfl (by omega) (by omega) (fun c36 => ?_) (fun c36 => ?_) | refine b_ic_ge 43 dX12_byteOf_36 rfl (fun c36 => ?_) (fun c36 => ?_)
                 · first
                   | (exfalso; omega)
                   | (refine q_il dX12_byteOf_43 rfl ?_
                      refine q_is dX12_byteOf_45 (by decide) ?_
                      refine am_nl (pc' := 47) (l' := [_, _, _, _, _, _, _]) rfl rfl ?_
                      refine q_il dX12_byteOf_47 rfl ?_
                      refine q_bp (v := nI 24) dX12_byteOf_49 rfl ?_
                      refine q_bp (v := nI 8) dX12_byteOf_51 rfl ?_
                      refine q_il dX12_byteOf_53 rfl ?_
                      refine q_ic (v := nI 4) dX12_byteOf_55 rfl ?_
                      first | refine q_rem dX12_byteOf_56 (by omega) (by omega) (by omega) ?_ | refine am_x_irem dX12_byteOf_56 (by decide) ?_
                      first | refine q_mul dX12_byteOf_57 ?_ | refine am_x_pu dX12_byteOf_57 rfl ?_
                      first | refine q_sub dX12_byteOf_58 (by omega) ?_ | refine am_x_pu dX12_byteOf_58 rfl ?_
                      refine am_x_pu dX12_byteOf_59 rfl ?_
                      refine q_sp (v := nI 255) dX12_byteOf_60 rfl ?_
                      refine am_x_pu dX12_byteOf_63 rfl ?_
                      rw [by8_s _ (by omega)]
                      refine q_ir dX12_byteOf_64 rfl ?_
                      (apply o_nI; unfold q20 w5; first | rw [if_pos (by omega)] | rw [if_neg (by omega), if_pos (by omega)] | rw [if_neg (by omega), if_neg (by omega), if_pos (by omega)] | rw [if_neg (by omega), if_neg (by omega), if_neg (by omega), if_pos (by omega)] | rw [if_neg (by omega), if_neg (by omega), if_neg (by omega), if_neg (by omega)]))
                 · first
                   | (exfalso; omega)
                   | (refine q_iln dX12_byteOf_39 rfl ?_
                      refine am_x_goto (tgt := 45) dX12_byteOf_40 rfl ?_
                      refine q_is dX12_byteOf_45 (by decide) ?_
                      refine am_nl (pc' := 47) (l' := [_, _, _, _, _, _, _]) rfl rfl ?_
                      refine q_il dX12_byteOf_47 rfl ?_
                      refine q_bp (v := nI 24) dX12_byteOf_49 rfl ?_
                      refine q_bp (v := nI 8) dX12_byteOf_51 rfl ?_
                      refine q_il dX12_byteOf_53 rfl ?_
                      refine q_ic (v := nI 4) dX12_byteOf_55 rfl ?_
                      first | refine q_rem dX12_byteOf_56 (by omega) (by omega) (by omega) ?_ | refine am_x_irem dX12_byteOf_56 (by decide) ?_
                      first | refine q_mul dX12_byteOf_57 ?_ | refine am_x_pu dX12_byteOf_57 rfl ?_
                      first | refine q_sub dX12_byteOf_58 (by omega) ?_ | refine am_x_pu dX12_byteOf_58 rfl ?_
                      refine am_x_pu dX12_byteOf_59 rfl ?_
                      refine q_sp (v := nI 255) dX12_byteOf_60 rfl ?_
                      refine am_x_pu dX12_byteOf_63 rfl ?_
                      rw [by8_s _ (by omega)]
                      refine q_ir dX12_byteOf_64 rfl ?_
                      (apply o_nI; unfold q20 w5; first | rw [if_pos (by omega)] | rw [if_neg (by omega), if_pos (by omega)] | rw [if_neg (by omega), if_neg (by omega), if_pos (by omega)] | rw [if_neg (by omega), if_neg (by omega), if_neg (by omega), if_pos (by omega)] | rw [if_neg (by omega), if_neg (by omega), if_neg (by omega), if_neg (by omega)])))
            · first
              | (exfalso; omega)
              | (refine q_iln dX12_byteOf_28 rfl ?_
                 refine am_x_goto (tgt := 45) dX12_byteOf_29 rfl ?_
                 refine q_is dX12_byteOf_45 (by decide) ?_
                 refine am_nl (pc' := 47) (l' := [_, _, _, _, _, _, _]) rfl rfl ?_
                 refine q_il dX12_byteOf_47 rfl ?_
                 refine q_bp (v := nI 24) dX12_byteOf_49 rfl ?_
                 refine q_bp (v := nI 8) dX12_byteOf_51 rfl ?_
                 refine q_il dX12_byteOf_53 rfl ?_
                 refine q_ic (v := nI 4) dX12_byteOf_55 rfl ?_
                 first | refine q_rem dX12_byteOf_56 (by omega) (by omega) (by omega) ?_ | refine am_x_irem dX12_byteOf_56 (by decide) ?_
                 first | refine q_mul dX12_byteOf_57 ?_ | refine am_x_pu dX12_byteOf_57 rfl ?_
                 first | refine q_sub dX12_byteOf_58 (by omega) ?_ | refine am_x_pu dX12_byteOf_58 rfl ?_
                 refine am_x_pu dX12_byteOf_59 rfl ?_
                 refine q_sp (v := nI 255) dX12_byteOf_60 rfl ?_
                 refine am_x_pu dX12_byteOf_63 rfl ?_
                 rw [by8_s _ (by omega)]
                 refine q_ir dX12_byteOf_64 rfl ?_
                 (apply o_nI; unfold q20 w5; first | rw [if_pos (by omega)] | rw [if_neg (by omega), if_pos (by omega)] | rw [if_neg (by omega), if_neg (by omega), if_pos (by omega)] | rw [if_neg (by omega), if_neg (by omega), if_neg (by omega), if_pos (by omega)] | rw [if_neg (by omega), if_neg (by omega), if_neg (by omega), if_neg (by omega)])))
       · first
         | (exfalso; omega)
         | (refine q_iln dX12_byteOf_17 rfl ?_
            refine am_x_goto (tgt := 45) dX12_byteOf_18 rfl ?_
            refine q_is dX12_byteOf_45 (by decide) ?_
            refine am_nl (pc' := 47) (l' := [_, _, _, _, _, _, _]) rfl rfl ?_
            refine q_il dX12_byteOf_47 rfl ?_
            refine q_bp (v := nI 24) dX12_byteOf_49 rfl ?_
            refine q_bp (v := nI 8) dX12_byteOf_51 rfl ?_
            refine q_il dX12_byteOf_53 rfl ?_
            refine q_ic (v := nI 4) dX12_byteOf_55 rfl ?_
            first | refine q_rem dX12_byteOf_56 (by omega) (by omega) (by omega) ?_ | refine am_x_irem dX12_byteOf_56 (by decide) ?_
            first | refine q_mul dX12_byteOf_57 ?_ | refine am_x_pu dX12_byteOf_57 rfl ?_
            first | refine q_sub dX12_byteOf_58 (by omega) ?_ | refine am_x_pu dX12_byteOf_58 rfl ?_
            refine am_x_pu dX12_byteOf_59 rfl ?_
            refine q_sp (v := nI 255) dX12_byteOf_60 rfl ?_
            refine am_x_pu dX12_byteOf_63 rfl ?_
            rw [by8_s _ (by omega)]
            refine q_ir dX12_byteOf_64 rfl ?_
            (apply o_nI; unfold q20 w5; first | rw [if_pos (by omega)] | rw [if_neg (by omega), if_pos (by omega)] | rw [if_neg (by omega), if_neg (by omega), if_pos (by omega)] | rw [if_neg (by omega), if_neg (by omega), if_neg (by omega), if_pos (by omega)] | rw [if_neg (by omega), if_neg (by omega), if_neg (by omega), if_neg (by omega)])))
  · first
    | (exfalso; omega)
    | (refine q_iln dX12_byteOf_6 rfl ?_
       refine am_x_goto (tgt := 45) dX12_byteOf_7 rfl ?_
       refine q_is dX12_byteOf_45 (by decide) ?_
       refine am_nl (pc' := 47) (l' := [_, _, _, _, _, _, _]) rfl rfl ?_
       refine q_il dX12_byteOf_47 rfl ?_
       refine q_bp (v := nI 24) dX12_byteOf_49 rfl ?_
       refine q_bp (v := nI 8) dX12_byteOf_51 rfl ?_
       refine q_il dX12_byteOf_53 rfl ?_
       refine q_ic (v := nI 4) dX12_byteOf_55 rfl ?_
       first | refine q_rem dX12_byteOf_56 (by omega) (by omega) (by omega) ?_ | refine am_x_irem dX12_byteOf_56 (by decide) ?_
       first | refine q_mul dX12_byteOf_57 ?_ | refine am_x_pu dX12_byteOf_57 rfl ?_
       first | refine q_sub dX12_byteOf_58 (by omega) ?_ | refine am_x_pu dX12_byteOf_58 rfl ?_
       refine am_x_pu dX12_byteOf_59 rfl ?_
       refine q_sp (v := nI 255) dX12_byteOf_60 rfl ?_
       refine am_x_pu dX12_byteOf_63 rfl ?_
       rw [by8_s _ (by omega)]
       refine q_ir dX12_byteOf_64 rfl ?_
       (apply o_nI; unfold q20 w5; first | rw [if_pos (by omega)] | rw [if_neg (by omega), if_pos (by omega)] | rw [if_neg (by omega), if_neg (by omega), if_pos (by omega)] | rw [if_neg (by omega), if_neg (by omega), if_neg (by omega), if_pos (by omega)] | rw [if_neg (by omega), if_neg (by omega), if_neg (by omega), if_neg (by omega)]))
set_option maxHeartbeats 2000000 in
theorem r_feed1 {h : am_H} {a b c d e : Int32} {P : Option Value → am_H → Prop} (kk : am_E 1 m_X12_feed 44 [some (.ref 50), some (.int a), some (.int b), some (.int c), some (.int d), some (.int e), some (.int (nI (ct (nz (q20 a b c d e)) 20))), some (.int (nI 20)), none] [] h P) : ∀ k j, j + k = 20 → am_E 1 m_X12_feed 6 [some (.ref 50), some (.int a), some (.int b), some (.int c), some (.int d), some (.int e), some (.int (nI (ct (nz (q20 a b c d e)) j))), some (.int (nI j)), none] [] h P := by
  intro k
  induction k with
  | zero =>
    intro j hj
    have hj4 : j = 20 := by omega
    subst hj4
    refine Eq_il dX12_feed_6 rfl ?_
    refine Eq_bp (v := nI 20) dX12_feed_8 rfl ?_
    refine Et_ic_ge 44 dX12_feed_10 rfl (by decide +kernel) ?_
    exact kk
  | succ k ih =>
    intro j hj
    have q := ih (j + 1) (by omega)
    have hlt : q20 a b c d e j < 256 := by8_lt _ _
    by_cases z : q20 a b c d e j = 0
    · rw [ct_f (show ¬ nz (q20 a b c d e) j = true by simp [nz, z])] at q
      refine Eq_il dX12_feed_6 rfl ?_
      refine Eq_bp (v := nI 20) dX12_feed_8 rfl ?_
      refine Ef_ic_ge dX12_feed_10 (tgt := 44) rfl (by exact nI_ge (by omega) (by omega)) ?_
      refine Eq_il dX12_feed_13 rfl ?_
      refine Eq_iln dX12_feed_15 rfl ?_
      refine Eq_iln dX12_feed_16 rfl ?_
      refine Eq_iln dX12_feed_17 rfl ?_
      refine Eq_il dX12_feed_18 rfl ?_
      refine Eq_il dX12_feed_20 rfl ?_
      refine Eq_il dX12_feed_22 rfl ?_
      refine Eq_S6 (N := m_X12_byteOf) dX12_feed_24 lk_X12_103 mS_X12_byteOf (r_byteOf (by omega)) (by decide) (Nat.le_of_ble_eq_true rfl) (Nat.le_of_ble_eq_true rfl) ?_
      refine Et_if_eq 34 dX12_feed_27 rfl (by rw [z]; rfl) ?_
      refine Eq_ic (v := nI 0) dX12_feed_34 rfl ?_
      first | refine Eq_add dX12_feed_35 ?_ | refine Eam_x_pu dX12_feed_35 rfl ?_
      refine Eq_is dX12_feed_36 (by decide) ?_
      refine Eam_nl (pc' := 38) (l' := [_, _, _, _, _, _, _, _, _]) rfl rfl ?_
      refine Eq_inc dX12_feed_38 rfl (by decide) ?_
      refine Eam_nl (pc' := 41) (l' := [_, _, _, _, _, _, _, _, _]) rfl rfl ?_
      refine Eam_x_goto (tgt := 6) dX12_feed_41 rfl ?_
      exact q
    · rw [ct_t (show nz (q20 a b c d e) j = true by simp [nz, z])] at q
      refine Eq_il dX12_feed_6 rfl ?_
      refine Eq_bp (v := nI 20) dX12_feed_8 rfl ?_
      refine Ef_ic_ge dX12_feed_10 (tgt := 44) rfl (by exact nI_ge (by omega) (by omega)) ?_
      refine Eq_il dX12_feed_13 rfl ?_
      refine Eq_iln dX12_feed_15 rfl ?_
      refine Eq_iln dX12_feed_16 rfl ?_
      refine Eq_iln dX12_feed_17 rfl ?_
      refine Eq_il dX12_feed_18 rfl ?_
      refine Eq_il dX12_feed_20 rfl ?_
      refine Eq_il dX12_feed_22 rfl ?_
      refine Eq_S6 (N := m_X12_byteOf) dX12_feed_24 lk_X12_103 mS_X12_byteOf (r_byteOf (by omega)) (by decide) (Nat.le_of_ble_eq_true rfl) (Nat.le_of_ble_eq_true rfl) ?_
      refine Ef_if_eq dX12_feed_27 (tgt := 34) rfl (by exact nI_ne0 (by omega) (by omega)) ?_
      refine Eq_ic (v := nI 1) dX12_feed_30 rfl ?_
      refine Eam_x_goto (tgt := 35) dX12_feed_31 rfl ?_
      first | refine Eq_add dX12_feed_35 ?_ | refine Eam_x_pu dX12_feed_35 rfl ?_
      refine Eq_is dX12_feed_36 (by decide) ?_
      refine Eam_nl (pc' := 38) (l' := [_, _, _, _, _, _, _, _, _]) rfl rfl ?_
      refine Eq_inc dX12_feed_38 rfl (by decide) ?_
      refine Eam_nl (pc' := 41) (l' := [_, _, _, _, _, _, _, _, _]) rfl rfl ?_
      refine Eam_x_goto (tgt := 6) dX12_feed_41 rfl ?_
      exact q
set_option maxHeartbeats 2000000 in
theorem r_feed2 {h : am_H} (hW : Wd h) {tl : Nat} {tp : Nat → Nat} {a b c d e : Int32} (hr : tl + ct (nz (q20 a b c d e)) 20 ≤ 160) : ∀ k j hc (x6 : Int32) (x8 : Option Value), j + k = 20 → Fx [51] [(50, 2)] h hc → TP 50 2 51 hc (fl (q20 a b c d e) tl j) (fp (q20 a b c d e) tl tp j) → am_E 1 m_X12_feed 62 [some (.ref 50), some (.int a), some (.int b), some (.int c), some (.int d), some (.int e), some (.int x6), some (.int (nI j)), x8] [] hc (fun v h2 => v = some (.int (nI (tl + ct (nz (q20 a b c d e)) 20))) ∧ Fx [51] [(50, 2)] h h2 ∧ TP 50 2 51 h2 (tl + ct (nz (q20 a b c d e)) 20) (fp (q20 a b c d e) tl tp 20)) := by
  intro k
  induction k with
  | zero =>
    intro j hc x6 x8 hj hfr hP
    have hj4 : j = 20 := by omega
    subst hj4
    have hWc := hfr.Wd hW
    rw [fl_ct] at hP
    have hp0 := hP.1
    refine Eq_il dX12_feed_62 rfl ?_
    refine Eq_bp (v := nI 20) dX12_feed_64 rfl ?_
    refine Et_ic_ge 115 dX12_feed_66 rfl (by decide +kernel) ?_
    refine Eq_aln dX12_feed_115 rfl ?_
    refine Eq_getI dX12_feed_116 fl_X12_107 (ws_50 hWc) rfl hp0 ?_
    refine Eq_ir dX12_feed_119 rfl ?_
    exact ⟨rfl, hfr, hP⟩
  | succ k ih =>
    intro j hc x6 x8 hj hfr hP
    have hWc := hfr.Wd hW
    have hp0 := hP.1
    have hlt : q20 a b c d e j < 256 := by8_lt _ _
    have hm := fl_mono (q := q20 a b c d e) (tl := tl) (show j + 1 ≤ 20 by omega)
    rw [fl_ct 20] at hm
    have hr2 : tl + ct (fun i => decide (q20 a b c d e i ≠ 0)) 20 ≤ 160 := hr
    by_cases z : q20 a b c d e j = 0
    · refine Eq_il dX12_feed_62 rfl ?_
      refine Eq_bp (v := nI 20) dX12_feed_64 rfl ?_
      refine Ef_ic_ge dX12_feed_66 (tgt := 115) rfl (by exact nI_ge (by omega) (by omega)) ?_
      refine Eq_iln dX12_feed_69 rfl ?_
      refine Eq_iln dX12_feed_70 rfl ?_
      refine Eq_iln dX12_feed_71 rfl ?_
      refine Eq_il dX12_feed_72 rfl ?_
      refine Eq_il dX12_feed_74 rfl ?_
      refine Eq_il dX12_feed_76 rfl ?_
      refine Eq_S6 (N := m_X12_byteOf) dX12_feed_78 lk_X12_103 mS_X12_byteOf (r_byteOf (by omega)) (by decide) (Nat.le_of_ble_eq_true rfl) (Nat.le_of_ble_eq_true rfl) ?_
      refine Eq_is dX12_feed_81 (by decide) ?_
      refine Eam_nl (pc' := 83) (l' := [_, _, _, _, _, _, _, _, _]) rfl rfl ?_
      refine Eq_il dX12_feed_83 rfl ?_
      refine Et_if_eq 109 dX12_feed_85 rfl (by rw [z]; rfl) ?_
      refine Eq_inc dX12_feed_109 rfl (by decide) ?_
      refine Eam_nl (pc' := 112) (l' := [_, _, _, _, _, _, _, _, _]) rfl rfl ?_
      refine Eam_x_goto (tgt := 62) dX12_feed_112 rfl ?_
      exact ih (j + 1) hc _ _ (by omega) hfr (by rw [fl_0 z, fp_0 z]; exact hP)
    · rw [fl_1 z] at hm
      have hcl : ct (nz (q20 a b c d e)) 20 ≤ 20 := ct_le _ 20
      refine Eq_il dX12_feed_62 rfl ?_
      refine Eq_bp (v := nI 20) dX12_feed_64 rfl ?_
      refine Ef_ic_ge dX12_feed_66 (tgt := 115) rfl (by exact nI_ge (by omega) (by omega)) ?_
      refine Eq_iln dX12_feed_69 rfl ?_
      refine Eq_iln dX12_feed_70 rfl ?_
      refine Eq_iln dX12_feed_71 rfl ?_
      refine Eq_il dX12_feed_72 rfl ?_
      refine Eq_il dX12_feed_74 rfl ?_
      refine Eq_il dX12_feed_76 rfl ?_
      refine Eq_S6 (N := m_X12_byteOf) dX12_feed_78 lk_X12_103 mS_X12_byteOf (r_byteOf (by omega)) (by decide) (Nat.le_of_ble_eq_true rfl) (Nat.le_of_ble_eq_true rfl) ?_
      refine Eq_is dX12_feed_81 (by decide) ?_
      refine Eam_nl (pc' := 83) (l' := [_, _, _, _, _, _, _, _, _]) rfl rfl ?_
      refine Eq_il dX12_feed_83 rfl ?_
      refine Ef_if_eq dX12_feed_85 (tgt := 109) rfl (by exact nI_ne0 (by omega) (by omega)) ?_
      refine Eq_aln dX12_feed_88 rfl ?_
      refine Eq_getR dX12_feed_89 fl_X12_9 (ws_50 hWc) rfl (wp_50_1 hWc) ?_
      refine Eq_aln dX12_feed_92 rfl ?_
      refine Eq_getI dX12_feed_93 fl_X12_107 (ws_50 hWc) rfl hp0 ?_
      refine Eq_il dX12_feed_96 rfl ?_
      refine Eq_ast dX12_feed_98 (ws_51 hWc) (by omega) (by omega) ?_
      refine Eq_aln dX12_feed_99 rfl ?_
      refine Eam_x_pu dX12_feed_100 rfl ?_
      refine Eq_getI dX12_feed_101 fl_X12_107 (ws_50 hWc) rfl hp0 ?_
      refine Eq_ic (v := nI 1) dX12_feed_104 rfl ?_
      first | refine Eq_add dX12_feed_105 ?_ | refine Eam_x_pu dX12_feed_105 rfl ?_
      refine Eam_x_putI dX12_feed_106 (fw_X12_107 rfl) (ws_50 hWc) (Or.inl rfl) ?_
      refine Eq_inc dX12_feed_109 rfl (by decide) ?_
      refine Eam_nl (pc' := 112) (l' := [_, _, _, _, _, _, _, _, _]) rfl rfl ?_
      refine Eam_x_goto (tgt := 62) dX12_feed_112 rfl ?_
      exact ih (j + 1) _ _ _ (by omega) ((hfr.tr (Fx.wI (Or.inl (by decide)))).tr (Fx.wI (Or.inr (by decide)))) (by rw [fl_1 z, fp_1 z]; exact hP.put (by omega) hlt (by rw [wI_eq, if_pos rfl]) (fun i => by rw [wI_ne (by decide), wI_eq]))
set_option maxHeartbeats 2000000 in
theorem r_feed {h : am_H} (hW : Wd h) {tl : Nat} {tp : Nat → Nat} (hP : TP 50 2 51 h tl tp) {a b c d e : Int32} : am_D 1 m_X12_feed [.ref 50, .int a, .int b, .int c, .int d, .int e] h (fun v h2 => if tl + ct (nz (q20 a b c d e)) 20 ≤ 160 then v = some (.int (nI (tl + ct (nz (q20 a b c d e)) 20))) ∧ Fx [51] [(50, 2)] h h2 ∧ TP 50 2 51 h2 (tl + ct (nz (q20 a b c d e)) 20) (fp (q20 a b c d e) tl tp 20) else v = some (.int (-1)) ∧ h2 = h) := by
  obtain ⟨hp0, hp1, hp2⟩ := id hP
  have hcl : ct (nz (q20 a b c d e)) 20 ≤ 20 := ct_le _ 20
  refine Eq_ic (v := nI 0) dX12_feed_0 rfl ?_
  refine Eq_is dX12_feed_1 (by decide) ?_
  refine Eam_nl (pc' := 3) (l' := [_, _, _, _, _, _, _, _, _]) rfl rfl ?_
  refine Eq_ic (v := nI 0) dX12_feed_3 rfl ?_
  refine Eq_is dX12_feed_4 (by decide) ?_
  refine Eam_nl (pc' := 6) (l' := [_, _, _, _, _, _, _, _, _]) rfl rfl ?_
  refine r_feed1 ?_ 20 0 (by omega)
  by_cases hr : tl + ct (nz (q20 a b c d e)) 20 ≤ 160
  · simp only [if_pos hr]
    refine Eq_aln dX12_feed_44 rfl ?_
    refine Eq_getI dX12_feed_45 fl_X12_107 (ws_50 hW) rfl (by first | assumption | rfl) ?_
    refine Eq_il dX12_feed_48 rfl ?_
    first | refine Eq_add dX12_feed_50 ?_ | refine Eam_x_pu dX12_feed_50 rfl ?_
    refine Eq_sp (v := nI 160) dX12_feed_51 rfl ?_
    refine Et_ic_le 59 dX12_feed_54 rfl (by exact nI_le (by omega) (by omega)) ?_
    refine Eq_ic (v := nI 0) dX12_feed_59 rfl ?_
    refine Eq_is dX12_feed_60 (by decide) ?_
    refine Eam_nl (pc' := 62) (l' := [_, _, _, _, _, _, _, _, _]) rfl rfl ?_
    exact r_feed2 hW hr 20 0 h _ _ (by omega) Fx.rf hP
  · simp only [if_neg hr]
    refine Eq_aln dX12_feed_44 rfl ?_
    refine Eq_getI dX12_feed_45 fl_X12_107 (ws_50 hW) rfl (by first | assumption | rfl) ?_
    refine Eq_il dX12_feed_48 rfl ?_
    first | refine Eq_add dX12_feed_50 ?_ | refine Eam_x_pu dX12_feed_50 rfl ?_
    refine Eq_sp (v := nI 160) dX12_feed_51 rfl ?_
    refine Ef_ic_le dX12_feed_54 (tgt := 59) rfl (by exact fun z => hr ((nI_leI (by omega) (by omega)).mp z)) ?_
    refine Eq_ic (v := -1) dX12_feed_57 rfl ?_
    refine Eq_ir dX12_feed_58 rfl ?_
    exact ⟨rfl, rfl⟩
set_option maxHeartbeats 2000000 in
theorem r_end {h : am_H} (hW : Wd h) {tl : Nat} {tp : Nat → Nat} (hP : TP 50 2 51 h tl tp) {x : Int32} : am_C 0 m_X12_end [.ref 50, .int x] h (match rg x (tl + 1) with
    | none => (some (.int (nI 0)), h)
    | some k => (some (.int (nI 1)), am_wI h 50 2 (nI k))) := by
  obtain ⟨hp0, hp1, hp2⟩ := id hP
  cases hr : rg x (tl + 1) with
  | none =>
    rcases rg_none (by omega) hr with hx | ⟨hx, hy⟩
    · refine q_iln dX12_end_0 rfl ?_
      refine t_if_lt 12 dX12_end_1 rfl (by exact hx) ?_
      refine q_ic (v := nI 0) dX12_end_12 rfl ?_
      first | refine q_zrn dX12_end_13 rfl (by first | omega | exact b2_le) ?_ | refine q_zr dX12_end_13 rfl (by first | exact Or.inl rfl | exact Or.inr rfl | assumption) ?_
      rfl
    · refine q_iln dX12_end_0 rfl ?_
      refine f_if_lt dX12_end_1 (tgt := 12) rfl (by exact hx) ?_
      refine q_iln dX12_end_4 rfl ?_
      refine q_aln dX12_end_5 rfl ?_
      refine q_getI dX12_end_6 fl_X12_107 (ws_50 hW) rfl (by first | assumption | rfl) ?_
      refine f_ic_le dX12_end_9 (tgt := 14) rfl (by exact rg_gt (by omega) hy) ?_
      refine q_ic (v := nI 0) dX12_end_12 rfl ?_
      first | refine q_zrn dX12_end_13 rfl (by first | omega | exact b2_le) ?_ | refine q_zr dX12_end_13 rfl (by first | exact Or.inl rfl | exact Or.inr rfl | assumption) ?_
      rfl
  | some w =>
    obtain ⟨rfl, hw⟩ := rg_some (by omega) hr
    refine q_iln dX12_end_0 rfl ?_
    refine n_if_lt (tgt := 12) dX12_end_1 rfl (by omega) ?_
    refine q_iln dX12_end_4 rfl ?_
    refine q_aln dX12_end_5 rfl ?_
    refine q_getI dX12_end_6 fl_X12_107 (ws_50 hW) rfl (by first | assumption | rfl) ?_
    refine t_ic_le 14 dX12_end_9 rfl (by exact nI_le (by omega) (by omega)) ?_
    refine q_aln dX12_end_14 rfl ?_
    refine q_iln dX12_end_15 rfl ?_
    refine am_x_putI dX12_end_16 (fw_X12_107 rfl) (ws_50 hW) (Or.inl rfl) ?_
    refine q_ic (v := nI 1) dX12_end_19 rfl ?_
    first | refine q_zrn dX12_end_20 rfl (by first | omega | exact b2_le) ?_ | refine q_zr dX12_end_20 rfl (by first | exact Or.inl rfl | exact Or.inr rfl | assumption) ?_
    rfl
