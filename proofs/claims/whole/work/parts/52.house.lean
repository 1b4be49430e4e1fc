theorem sgn256 {h : am_H} {tl a : Nat} {tp : Nat → Nat} (hA : TA h tl tp a) (b : Nat) : ∀ c, sgn tl tp b = some c → c < 256 := fun c hc => by
  have q := sgn_lt hc
  rw [← q.2]
  exact (hA.1.2.2 b q.1).2
def lt7 (i : Nat) : Nat := if i = 0 then 118 else if i = 1 then 100 else if i = 2 then 101 else if i = 3 then 107 else if i = 4 then 110 else if i = 5 then 121 else 98
theorem sl1 {j : Nat} (hj : j < 7) : (am_sl 1).getD j 0 = nI (lt7 j) := by
  rcases (show j = 0 ∨ j = 1 ∨ j = 2 ∨ j = 3 ∨ j = 4 ∨ j = 5 ∨ j = 6 by omega) with rfl | rfl | rfl | rfl | rfl | rfl | rfl <;> rfl
theorem sl3 {j : Nat} (hj : j < 7) : (am_sl 3).getD j 0 = nI (usu j) := by
  rcases (show j = 0 ∨ j = 1 ∨ j = 2 ∨ j = 3 ∨ j = 4 ∨ j = 5 ∨ j = 6 by omega) with rfl | rfl | rfl | rfl | rfl | rfl | rfl <;> rfl
theorem itm_7 {j : Nat} (hj : j < 7) : itm (some (lt7 j)) = some j := by
  rcases (show j = 0 ∨ j = 1 ∨ j = 2 ∨ j = 3 ∨ j = 4 ∨ j = 5 ∨ j = 6 by omega) with rfl | rfl | rfl | rfl | rfl | rfl | rfl <;> rfl
theorem itm_no {x : Option Nat} (h : ∀ i, i < 7 → x ≠ some (lt7 i)) : itm x = none := by
  cases x with
  | none => rfl
  | some c =>
    have e : ∀ i, i < 7 → c ≠ lt7 i := fun i hi z => h i hi (by rw [z])
    have e0 : c ≠ 118 := e 0 (by omega)
    have e1 : c ≠ 100 := e 1 (by omega)
    have e2 : c ≠ 101 := e 2 (by omega)
    have e3 : c ≠ 107 := e 3 (by omega)
    have e4 : c ≠ 110 := e 4 (by omega)
    have e5 : c ≠ 121 := e 5 (by omega)
    have e6 : c ≠ 98 := e 6 (by omega)
    simp only [itm]
    rw [if_neg e0, if_neg e1, if_neg e2, if_neg e3, if_neg e4, if_neg e5, if_neg e6]
theorem lt7_lt (j : Nat) : lt7 j < 256 := by unfold lt7; (repeat' split) <;> omega
theorem usu_most {i : Nat} : usu i ≤ most i := by
  unfold usu most
  (repeat' split) <;> omega
theorem most99 (i : Nat) : most i ≤ 99 := by unfold most; (repeat' split) <;> omega
theorem its_most {tl : Nat} {tp : Nat → Nat} : ∀ k seen a G, a ≤ tl → (∀ i, G i ≤ most i) → ∀ G', (its tl tp k seen a G).2 = some G' → ∀ i, G' i ≤ most i
  | 0, _, a, G, _, hG, G', h => by simp only [its] at h; cases h; exact hG
  | k + 1, seen, a, G, h, hG, G', hr => by
    cases hi : itm (sgn tl tp (nx tl tp a)) with
    | none => rw [its_n hi] at hr; cases hr; exact hG
    | some i =>
      by_cases hs : seen.testBit i = true
      · rw [its_r hi hs] at hr; cases hr
      · have h2 := nx_le (tp := tp) h
        have hlt : nx tl tp a < tl := by
          cases hq : sgn tl tp (nx tl tp a) with
          | none => exact absurd hq (itm_lt hi).2
          | some c => exact (sgn_lt hq).1
        have hv := vlu_le (tp := tp) (i := i) (a := nx tl tp a + 1) (tl := tl) (by omega)
        cases hq : (vlu tl tp i (nx tl tp a + 1)).2 with
        | none => rw [its_f hi hs hq] at hr; cases hr
        | some v =>
          rw [its_y hi hs hq] at hr
          refine its_most k _ _ _ hv.1 (fun j => ?_) G' hr
          by_cases e : j = i
          · rw [e, up1_eq]; exact (hv.2.1 v hq).1
          · rw [up1_ne e]; exact hG j
/-- strangers are no enemies -/
def drs (n : Nat) (F : Nat → Nat → Nat) : Nat → Nat → Nat := fun i m => if i = 4 ∧ n ≤ F 4 m then 7 else F i m
set_option maxHeartbeats 2000000 in
theorem c_next_lp {h : am_H} (hW : Wd h) {tl : Nat} {tp : Nat → Nat} : ∀ k a, a + k = tl → ∀ h0, Wd h0 → TA h0 tl tp a → am_E 0 m_X9_next 0 [some (.ref 1)] [] h0 (fun v h2 => v = some (.int (oN (sgn tl tp (nx tl tp a)))) ∧ Fx [] [(1, 2)] h0 h2 ∧ TA h2 tl tp (nx tl tp a)) := by
  clear hW h
  intro k
  induction k with
  | zero =>
    intro a hk h hW hA
    obtain ⟨⟨hp0, hp1, hp2⟩, ha2, hatl⟩ := id hA
    rw [nx_o (by omega), sgn_n (by omega)]
    refine Eq_aln dX9_next_0 rfl ?_
    refine Eq_getI dX9_next_1 fl_X9_19 (ws_1 hW) rfl (by first | exact ha2 | exact hp0) ?_
    refine En_if_lt (tgt := 65) dX9_next_4 rfl (by omega) ?_
    refine Eq_aln dX9_next_7 rfl ?_
    refine Eq_getI dX9_next_8 fl_X9_19 (ws_1 hW) rfl (by first | exact ha2 | exact hp0) ?_
    refine Eq_aln dX9_next_11 rfl ?_
    refine Eq_getI dX9_next_12 fl_X9_15 (ws_1 hW) rfl (by first | exact ha2 | exact hp0) ?_
    refine Et_ic_ge 65 dX9_next_15 rfl (by exact nI_le (by omega) (by omega)) ?_
    refine Eq_ic (v := -1) dX9_next_65 rfl ?_
    refine Eq_ir dX9_next_66 rfl ?_
    exact ⟨rfl, Fx.rf, hA⟩
  | succ k ih =>
    intro a hk h hW hA
    obtain ⟨⟨hp0, hp1, hp2⟩, ha2, hatl⟩ := id hA
    have hta := (hp2 a (by omega)).2
    by_cases hb : tp a = 32
    · rw [nx_b (by omega) hb]
      refine Eq_aln dX9_next_0 rfl ?_
      refine Eq_getI dX9_next_1 fl_X9_19 (ws_1 hW) rfl (by first | exact ha2 | exact hp0) ?_
      refine En_if_lt (tgt := 65) dX9_next_4 rfl (by omega) ?_
      refine Eq_aln dX9_next_7 rfl ?_
      refine Eq_getI dX9_next_8 fl_X9_19 (ws_1 hW) rfl (by first | exact ha2 | exact hp0) ?_
      refine Eq_aln dX9_next_11 rfl ?_
      refine Eq_getI dX9_next_12 fl_X9_15 (ws_1 hW) rfl (by first | exact ha2 | exact hp0) ?_
      refine Ef_ic_ge dX9_next_15 (tgt := 65) rfl (by exact nI_ge (by omega) (by omega)) ?_
      refine Eq_aln dX9_next_18 rfl ?_
      refine Eq_getI dX9_next_19 fl_X9_19 (ws_1 hW) rfl (by first | exact ha2 | exact hp0) ?_
      refine Eq_sp (v := nI 160) dX9_next_22 rfl ?_
      refine Ef_ic_ge dX9_next_25 (tgt := 65) rfl (by exact nI_ge (by omega) (by omega)) ?_
      refine Eq_aln dX9_next_28 rfl ?_
      refine Eq_getR dX9_next_29 fl_X9_11 (ws_1 hW) rfl (wp_1_0 hW) ?_
      refine Eq_aln dX9_next_32 rfl ?_
      refine Eq_getI dX9_next_33 fl_X9_19 (ws_1 hW) rfl (by first | exact ha2 | exact hp0) ?_
      refine Eq_ald dX9_next_36 (ws_2 hW) (by omega) (by omega) (hp2 _ (by omega)).1 ?_
      refine Eq_bp (v := nI 32) dX9_next_37 rfl ?_
      refine Et_ic_eq 52 dX9_next_39 rfl (by rw [hb]) ?_
      refine Eq_aln dX9_next_52 rfl ?_
      refine Eam_x_pu dX9_next_53 rfl ?_
      refine Eq_getI dX9_next_54 fl_X9_19 (ws_1 hW) rfl (by first | exact ha2 | exact hp0) ?_
      refine Eq_ic (v := nI 1) dX9_next_57 rfl ?_
      first | refine Eq_add dX9_next_58 ?_ | refine Eam_x_pu dX9_next_58 rfl ?_
      refine Eam_x_putI dX9_next_59 (fw_X9_19 rfl) (ws_1 hW) (Or.inl rfl) ?_
      refine Eam_x_goto (tgt := 0) dX9_next_62 rfl ?_
      have k1 : Fx [] [(1, 2)] h (am_wI h 1 2 (nI (a + 1))) := Fx.wI (Or.inr (by decide))
      obtain ⟨v2, h2, z1, z2, z3, z4⟩ := ih (a + 1) (by omega) _ (k1.Wd hW) (hA.mv (by omega))
      exact ⟨v2, h2, z1, z2, k1.tr z3, z4⟩
    · rw [nx_o (by omega), sgn_s (by omega)]
      refine Eq_aln dX9_next_0 rfl ?_
      refine Eq_getI dX9_next_1 fl_X9_19 (ws_1 hW) rfl (by first | exact ha2 | exact hp0) ?_
      refine En_if_lt (tgt := 65) dX9_next_4 rfl (by omega) ?_
      refine Eq_aln dX9_next_7 rfl ?_
      refine Eq_getI dX9_next_8 fl_X9_19 (ws_1 hW) rfl (by first | exact ha2 | exact hp0) ?_
      refine Eq_aln dX9_next_11 rfl ?_
      refine Eq_getI dX9_next_12 fl_X9_15 (ws_1 hW) rfl (by first | exact ha2 | exact hp0) ?_
      refine Ef_ic_ge dX9_next_15 (tgt := 65) rfl (by exact nI_ge (by omega) (by omega)) ?_
      refine Eq_aln dX9_next_18 rfl ?_
      refine Eq_getI dX9_next_19 fl_X9_19 (ws_1 hW) rfl (by first | exact ha2 | exact hp0) ?_
      refine Eq_sp (v := nI 160) dX9_next_22 rfl ?_
      refine Ef_ic_ge dX9_next_25 (tgt := 65) rfl (by exact nI_ge (by omega) (by omega)) ?_
      refine Eq_aln dX9_next_28 rfl ?_
      refine Eq_getR dX9_next_29 fl_X9_11 (ws_1 hW) rfl (wp_1_0 hW) ?_
      refine Eq_aln dX9_next_32 rfl ?_
      refine Eq_getI dX9_next_33 fl_X9_19 (ws_1 hW) rfl (by first | exact ha2 | exact hp0) ?_
      refine Eq_ald dX9_next_36 (ws_2 hW) (by omega) (by omega) (hp2 _ (by omega)).1 ?_
      refine Eq_bp (v := nI 32) dX9_next_37 rfl ?_
      refine Ef_ic_eq dX9_next_39 (tgt := 52) rfl (by exact fun z => hb ((nI_eq (by omega) (by omega)).mp z)) ?_
      refine Eq_aln dX9_next_42 rfl ?_
      refine Eq_getR dX9_next_43 fl_X9_11 (ws_1 hW) rfl (wp_1_0 hW) ?_
      refine Eq_aln dX9_next_46 rfl ?_
      refine Eq_getI dX9_next_47 fl_X9_19 (ws_1 hW) rfl (by first | exact ha2 | exact hp0) ?_
      refine Eq_ald dX9_next_50 (ws_2 hW) (by omega) (by omega) (hp2 _ (by omega)).1 ?_
      refine Eq_ir dX9_next_51 rfl ?_
      exact ⟨rfl, Fx.rf, hA⟩
set_option maxHeartbeats 2000000 in
theorem c_next {h : am_H} (hW : Wd h) {tl : Nat} {tp : Nat → Nat} {a : Nat} (hA : TA h tl tp a)  : am_D 0 m_X9_next [.ref 1] h (fun v h2 => v = some (.int (oN (sgn tl tp (nx tl tp a)))) ∧ Fx [] [(1, 2)] h h2 ∧ TA h2 tl tp (nx tl tp a)) := by
  exact c_next_lp hW (tl - a) a (by have := hA.2.2; omega) h hW hA
set_option maxHeartbeats 2000000 in
theorem c_here {h : am_H} (hW : Wd h) {tl : Nat} {tp : Nat → Nat} {a : Nat} (hA : TA h tl tp a)  : am_C 0 m_X9_here [.ref 1] h (some (.int (oN (sgn tl tp a))), h) := by
  obtain ⟨⟨hp0, hp1, hp2⟩, ha2, hatl⟩ := id hA
  by_cases hl : a < tl
  · rw [sgn_s hl]
    refine q_aln dX9_here_0 rfl ?_
    refine q_getI dX9_here_1 fl_X9_19 (ws_1 hW) rfl (by first | exact ha2 | exact hp0) ?_
    refine n_if_lt (tgt := 40) dX9_here_4 rfl (by omega) ?_
    refine q_aln dX9_here_7 rfl ?_
    refine q_getI dX9_here_8 fl_X9_19 (ws_1 hW) rfl (by first | exact ha2 | exact hp0) ?_
    refine q_aln dX9_here_11 rfl ?_
    refine q_getI dX9_here_12 fl_X9_15 (ws_1 hW) rfl (by first | exact ha2 | exact hp0) ?_
    refine f_ic_ge dX9_here_15 (tgt := 40) rfl (by exact nI_ge (by omega) (by omega)) ?_
    refine q_aln dX9_here_18 rfl ?_
    refine q_getI dX9_here_19 fl_X9_19 (ws_1 hW) rfl (by first | exact ha2 | exact hp0) ?_
    refine q_sp (v := nI 160) dX9_here_22 rfl ?_
    refine f_ic_ge dX9_here_25 (tgt := 40) rfl (by exact nI_ge (by omega) (by omega)) ?_
    refine q_aln dX9_here_28 rfl ?_
    refine q_getR dX9_here_29 fl_X9_11 (ws_1 hW) rfl (wp_1_0 hW) ?_
    refine q_aln dX9_here_32 rfl ?_
    refine q_getI dX9_here_33 fl_X9_19 (ws_1 hW) rfl (by first | exact ha2 | exact hp0) ?_
    refine q_ald dX9_here_36 (ws_2 hW) (by omega) (by omega) (hp2 _ (by omega)).1 ?_
    refine am_x_goto (tgt := 41) dX9_here_37 rfl ?_
    refine q_ir dX9_here_41 rfl ?_
    rfl
  · rw [sgn_n hl]
    refine q_aln dX9_here_0 rfl ?_
    refine q_getI dX9_here_1 fl_X9_19 (ws_1 hW) rfl (by first | exact ha2 | exact hp0) ?_
    refine n_if_lt (tgt := 40) dX9_here_4 rfl (by omega) ?_
    refine q_aln dX9_here_7 rfl ?_
    refine q_getI dX9_here_8 fl_X9_19 (ws_1 hW) rfl (by first | exact ha2 | exact hp0) ?_
    refine q_aln dX9_here_11 rfl ?_
    refine q_getI dX9_here_12 fl_X9_15 (ws_1 hW) rfl (by first | exact ha2 | exact hp0) ?_
    refine t_ic_ge 40 dX9_here_15 rfl (by exact nI_le (by omega) (by omega)) ?_
    refine q_ic (v := -1) dX9_here_40 rfl ?_
    refine q_ir dX9_here_41 rfl ?_
    rfl
set_option maxHeartbeats 2000000 in
theorem c_isDigit {h : am_H} {x : Option Nat} (hx : ∀ c, x = some c → c < 256) : am_C 0 m_X9_isDigit [.int (oN x)] h (some (.int (nI (if isDg x = true then 1 else 0))), h) := by
  cases x with
  | none =>
    refine q_iln dX9_isDigit_0 rfl ?_
    refine q_bp (v := nI 48) dX9_isDigit_1 rfl ?_
    refine t_ic_lt 16 dX9_isDigit_3 rfl (by decide +kernel) ?_
    refine q_ic (v := nI 0) dX9_isDigit_16 rfl ?_
    first | refine q_zrn dX9_isDigit_17 rfl (by first | omega | exact b2_le) ?_ | refine q_zr dX9_isDigit_17 rfl (by first | exact Or.inl rfl | exact Or.inr rfl | assumption) ?_
    rfl
  | some c =>
    have hc := hx c rfl
    show am_C 0 m_X9_isDigit [.int (nI c)] h _
    refine q_iln dX9_isDigit_0 rfl ?_
    refine q_bp (v := nI 48) dX9_isDigit_1 rfl ?_
    first | refine n_ic_lt 16 dX9_isDigit_3 rfl (by omega) (by omega) (fun c3 => ?_) (fun c3 => ?_) | refine b_ic_lt 16 dX9_isDigit_3 rfl (fun c3 => ?_) (fun c3 => ?_)
    · first
      | (exfalso; omega)
      | (refine q_ic (v := nI 0) dX9_isDigit_16 rfl ?_
         first | refine q_zrn dX9_isDigit_17 rfl (by first | omega | exact b2_le) ?_ | refine q_zr dX9_isDigit_17 rfl (by first | exact Or.inl rfl | exact Or.inr rfl | assumption) ?_
         (apply o_nI; first | rw [if_pos (isDg_iff.mpr (by omega))] | rw [if_neg (fun z => by have := isDg_iff.mp z; omega)]))
    · first
      | (exfalso; omega)
      | (refine q_iln dX9_isDigit_6 rfl ?_
         refine q_bp (v := nI 57) dX9_isDigit_7 rfl ?_
         first | refine n_ic_gt 16 dX9_isDigit_9 rfl (by omega) (by omega) (fun c9 => ?_) (fun c9 => ?_) | refine b_ic_gt 16 dX9_isDigit_9 rfl (fun c9 => ?_) (fun c9 => ?_)
         · first
           | (exfalso; omega)
           | (refine q_ic (v := nI 0) dX9_isDigit_16 rfl ?_
              first | refine q_zrn dX9_isDigit_17 rfl (by first | omega | exact b2_le) ?_ | refine q_zr dX9_isDigit_17 rfl (by first | exact Or.inl rfl | exact Or.inr rfl | assumption) ?_
              (apply o_nI; first | rw [if_pos (isDg_iff.mpr (by omega))] | rw [if_neg (fun z => by have := isDg_iff.mp z; omega)]))
         · first
           | (exfalso; omega)
           | (refine q_ic (v := nI 1) dX9_isDigit_12 rfl ?_
              refine am_x_goto (tgt := 17) dX9_isDigit_13 rfl ?_
              first | refine q_zrn dX9_isDigit_17 rfl (by first | omega | exact b2_le) ?_ | refine q_zr dX9_isDigit_17 rfl (by first | exact Or.inl rfl | exact Or.inr rfl | assumption) ?_
              (apply o_nI; first | rw [if_pos (isDg_iff.mpr (by omega))] | rw [if_neg (fun z => by have := isDg_iff.mp z; omega)])))
set_option maxHeartbeats 2000000 in
theorem c_step {h : am_H} (hW : Wd h) {tl : Nat} {tp : Nat → Nat} {a : Nat} (hA : TA h tl tp a)  : am_C 0 m_X9_step [.ref 1] h (none, am_wI h 1 2 (nI (a + 1))) := by
  obtain ⟨⟨hp0, hp1, hp2⟩, ha2, hatl⟩ := id hA
  refine q_aln dX9_step_0 rfl ?_
  refine am_x_pu dX9_step_1 rfl ?_
  refine q_getI dX9_step_2 fl_X9_19 (ws_1 hW) rfl (by first | assumption | rfl) ?_
  refine q_ic (v := nI 1) dX9_step_5 rfl ?_
  first | refine q_add dX9_step_6 ?_ | refine am_x_pu dX9_step_6 rfl ?_
  refine am_x_putI dX9_step_7 (fw_X9_19 rfl) (ws_1 hW) (Or.inl rfl) ?_
  refine q_vr dX9_step_10 rfl ?_
  rfl
set_option maxHeartbeats 2000000 in
theorem c_stepBack {h : am_H} (hW : Wd h) {tl : Nat} {tp : Nat → Nat} {a : Nat} (hA : TA h tl tp a) (h0 : 0 < a) : am_C 0 m_X9_stepBack [.ref 1] h (none, am_wI h 1 2 (nI (a - 1))) := by
  obtain ⟨⟨hp0, hp1, hp2⟩, ha2, hatl⟩ := id hA
  refine q_aln dX9_stepBack_0 rfl ?_
  refine am_x_pu dX9_stepBack_1 rfl ?_
  refine q_getI dX9_stepBack_2 fl_X9_19 (ws_1 hW) rfl (by first | assumption | rfl) ?_
  refine q_ic (v := nI 1) dX9_stepBack_5 rfl ?_
  first | refine q_sub dX9_stepBack_6 (by omega) ?_ | refine am_x_pu dX9_stepBack_6 rfl ?_
  refine am_x_putI dX9_stepBack_7 (fw_X9_19 rfl) (ws_1 hW) (Or.inl rfl) ?_
  refine q_vr dX9_stepBack_10 rfl ?_
  rfl
set_option maxHeartbeats 2000000 in
theorem c_rewind {h : am_H} (hW : Wd h)  : am_C 0 m_X9_rewind [.ref 1] h (none, am_wI h 1 2 (nI 0)) := by
  refine q_aln dX9_rewind_0 rfl ?_
  refine q_ic (v := nI 0) dX9_rewind_1 rfl ?_
  refine am_x_putI dX9_rewind_2 (fw_X9_19 rfl) (ws_1 hW) (Or.inl rfl) ?_
  refine q_vr dX9_rewind_5 rfl ?_
  rfl
set_option maxHeartbeats 2000000 in
theorem c_pass {h : am_H} (hW : Wd h) {tl : Nat} {tp : Nat → Nat} {a : Nat} (hA : TA h tl tp a) {c : Nat} (hc : c < 256) : am_D 1 m_X9_pass [.ref 1, .int (nI c)] h (fun v h2 => if sgn tl tp (nx tl tp a) = some c then v = some (.int (nI 1)) ∧ Fx [] [(1, 2)] h h2 ∧ TA h2 tl tp (nx tl tp a + 1) else v = some (.int (nI 0)) ∧ Fx [] [(1, 2)] h h2 ∧ TA h2 tl tp (nx tl tp a)) := by
  have h2 := sgn256 hA (nx tl tp a)
  by_cases he : sgn tl tp (nx tl tp a) = some c
  · simp only [if_pos he]
    refine Eq_aln dX9_pass_0 rfl ?_
    refine Eq_W0 (N := m_X9_next) dX9_pass_1 lk_X9_22 mV_X9_next (c_next hW hA) (by decide) (ws_1 hW) rfl (by decide) (Nat.le_of_ble_eq_true rfl) (Nat.le_of_ble_eq_true rfl) (fun vq hq1 hq2 => ?_)
    obtain ⟨rfl, hf1, hA1⟩ := hq2
    have hW1 := hf1.Wd hW
    obtain ⟨⟨hq0, hq3, hq4⟩, hb2, hbtl⟩ := id hA1
    refine Eq_iln dX9_pass_4 rfl ?_
    refine Et_ic_eq 10 dX9_pass_5 rfl (by rw [he]; rfl) ?_
    refine Eq_aln dX9_pass_10 rfl ?_
    refine Eam_x_pu dX9_pass_11 rfl ?_
    refine Eq_getI dX9_pass_12 fl_X9_19 (ws_1 hW1) rfl hb2 ?_
    refine Eq_ic (v := nI 1) dX9_pass_15 rfl ?_
    first | refine Eq_add dX9_pass_16 ?_ | refine Eam_x_pu dX9_pass_16 rfl ?_
    refine Eam_x_putI dX9_pass_17 (fw_X9_19 rfl) (ws_1 hW1) (Or.inl rfl) ?_
    refine Eq_ic (v := nI 1) dX9_pass_20 rfl ?_
    first | refine Eq_zrn dX9_pass_21 rfl (by first | omega | exact b2_le) ?_ | refine Eq_zr dX9_pass_21 rfl (by first | exact Or.inl rfl | exact Or.inr rfl | assumption) ?_
    exact ⟨rfl, hf1.tr (Fx.wI (Or.inr (by decide))), hA1.mv (by have := (sgn_lt he).1; omega)⟩
  · simp only [if_neg he]
    refine Eq_aln dX9_pass_0 rfl ?_
    refine Eq_W0 (N := m_X9_next) dX9_pass_1 lk_X9_22 mV_X9_next (c_next hW hA) (by decide) (ws_1 hW) rfl (by decide) (Nat.le_of_ble_eq_true rfl) (Nat.le_of_ble_eq_true rfl) (fun vq hq1 hq2 => ?_)
    obtain ⟨rfl, hf1, hA1⟩ := hq2
    have hW1 := hf1.Wd hW
    obtain ⟨⟨hq0, hq3, hq4⟩, hb2, hbtl⟩ := id hA1
    refine Eq_iln dX9_pass_4 rfl ?_
    refine Ef_ic_eq dX9_pass_5 (tgt := 10) rfl (by exact fun z => he ((oNlt (fun k hk => by have := h2 k hk; omega) c (by omega)).mp z)) ?_
    refine Eq_ic (v := nI 0) dX9_pass_8 rfl ?_
    first | refine Eq_zrn dX9_pass_9 rfl (by first | omega | exact b2_le) ?_ | refine Eq_zr dX9_pass_9 rfl (by first | exact Or.inl rfl | exact Or.inr rfl | assumption) ?_
    exact ⟨rfl, hf1, hA1⟩
set_option maxHeartbeats 2000000 in
theorem c_number_lp {tl : Nat} {tp : Nat → Nat} {d : Nat} (hd : d ≤ 4) : ∀ k j a v, j + k = d → v < 10 ^ j → ∀ h0, Wd h0 → TA h0 tl tp a → am_E 1 m_X9_number 16 [some (.ref 1), some (.int (nI d)), some (.int (nI v)), some (.int (nI j))] [] h0 (fun w h2 => w = some (.int (oN (if isDg (sgn tl tp (ndg tl tp k a v).1) = true then none else some (ndg tl tp k a v).2))) ∧ Fx [] [(1, 2)] h0 h2 ∧ TA h2 tl tp (ndg tl tp k a v).1) := by
  intro k
  induction k with
  | zero =>
    intro j a v hj hv h hW hA
    have pj : 10 ^ j ≤ 10 ^ 4 := Nat.pow_le_pow_right (by omega) (by omega)
    obtain ⟨⟨hp0, hp1, hp2⟩, ha2, hatl⟩ := id hA
    show am_E _ _ _ _ _ _ (fun w h2 => w = some (.int (oN (if isDg (sgn tl tp a) = true then none else some v))) ∧ Fx [] [(1, 2)] h h2 ∧ TA h2 tl tp a)
    by_cases hdg : isDg (sgn tl tp a) = true
    · have hl := isDg_at hdg
      rw [if_pos hdg]
      refine Eq_aln dX9_number_16 rfl ?_
      refine Eq_getI dX9_number_17 fl_X9_19 (ws_1 hW) rfl (by first | exact ha2 | exact hp0) ?_
      refine Eq_aln dX9_number_20 rfl ?_
      refine Eq_getI dX9_number_21 fl_X9_15 (ws_1 hW) rfl (by first | exact ha2 | exact hp0) ?_
      refine Ef_ic_ge dX9_number_24 (tgt := 73) rfl (by exact nI_ge (by omega) (by omega)) ?_
      refine Eq_aln dX9_number_27 rfl ?_
      refine Eq_V0 (N := m_X9_here) dX9_number_28 lk_X9_30 mV_X9_here (c_here hW hA) (by decide) (ws_1 hW) rfl (by decide) (Nat.le_of_ble_eq_true rfl) (Nat.le_of_ble_eq_true rfl) ?_
      refine Eq_S1 (N := m_X9_isDigit) dX9_number_31 lk_X9_26 mS_X9_isDigit (c_isDigit (sgn256 hA a)) (by decide) (Nat.le_of_ble_eq_true rfl) (Nat.le_of_ble_eq_true rfl) ?_
      refine Ef_if_eq dX9_number_34 (tgt := 73) rfl (by rw [if_pos hdg]; exact zf1) ?_
      refine Eq_iln dX9_number_37 rfl ?_
      refine Eq_iln dX9_number_38 rfl ?_
      refine Ef_ic_lt dX9_number_39 (tgt := 44) rfl (by exact nI_nlt (by omega) (by omega)) ?_
      refine Eq_ic (v := -1) dX9_number_42 rfl ?_
      refine Eq_ir dX9_number_43 rfl ?_
      exact ⟨rfl, Fx.rf, hA⟩
    · rw [if_neg hdg]
      by_cases hl : a < tl
      · refine Eq_aln dX9_number_16 rfl ?_
        refine Eq_getI dX9_number_17 fl_X9_19 (ws_1 hW) rfl (by first | exact ha2 | exact hp0) ?_
        refine Eq_aln dX9_number_20 rfl ?_
        refine Eq_getI dX9_number_21 fl_X9_15 (ws_1 hW) rfl (by first | exact ha2 | exact hp0) ?_
        refine Ef_ic_ge dX9_number_24 (tgt := 73) rfl (by exact nI_ge (by omega) (by omega)) ?_
        refine Eq_aln dX9_number_27 rfl ?_
        refine Eq_V0 (N := m_X9_here) dX9_number_28 lk_X9_30 mV_X9_here (c_here hW hA) (by decide) (ws_1 hW) rfl (by decide) (Nat.le_of_ble_eq_true rfl) (Nat.le_of_ble_eq_true rfl) ?_
        refine Eq_S1 (N := m_X9_isDigit) dX9_number_31 lk_X9_26 mS_X9_isDigit (c_isDigit (sgn256 hA a)) (by decide) (Nat.le_of_ble_eq_true rfl) (Nat.le_of_ble_eq_true rfl) ?_
        refine Et_if_eq 73 dX9_number_34 rfl (by rw [if_neg hdg]; rfl) ?_
        refine Eq_iln dX9_number_73 rfl ?_
        refine Eq_ir dX9_number_74 rfl ?_
        exact ⟨rfl, Fx.rf, hA⟩
      · refine Eq_aln dX9_number_16 rfl ?_
        refine Eq_getI dX9_number_17 fl_X9_19 (ws_1 hW) rfl (by first | exact ha2 | exact hp0) ?_
        refine Eq_aln dX9_number_20 rfl ?_
        refine Eq_getI dX9_number_21 fl_X9_15 (ws_1 hW) rfl (by first | exact ha2 | exact hp0) ?_
        refine Et_ic_ge 73 dX9_number_24 rfl (by exact nI_le (by omega) (by omega)) ?_
        refine Eq_iln dX9_number_73 rfl ?_
        refine Eq_ir dX9_number_74 rfl ?_
        exact ⟨rfl, Fx.rf, hA⟩
  | succ k ih =>
    intro j a v hj hv h hW hA
    have pj : 10 ^ j ≤ 10 ^ 4 := Nat.pow_le_pow_right (by omega) (by omega)
    obtain ⟨⟨hp0, hp1, hp2⟩, ha2, hatl⟩ := id hA
    by_cases hdg : isDg (sgn tl tp a) = true
    · have hl := isDg_at hdg
      rw [ndg_y hdg]
      have k1 : Fx [] [(1, 2)] h (am_wI h 1 2 (nI (a + 1))) := Fx.wI (Or.inr (by decide))
      obtain ⟨v2, h2, z1, z2, z3, z4⟩ := ih (j + 1) (a + 1) (v * 10 + (tp a - 48)) (by omega) (by rw [Nat.pow_succ]; omega) _ (k1.Wd hW) (hA.mv (by omega))
      refine ⟨v2, h2, ?_, z2, k1.tr z3, z4⟩
      rw [show v * 10 + (tp a - 48) = v * 10 + tp a - 48 by omega] at z1
      refine q_aln dX9_number_16 rfl ?_
      refine q_getI dX9_number_17 fl_X9_19 (ws_1 hW) rfl (by first | exact ha2 | exact hp0) ?_
      refine q_aln dX9_number_20 rfl ?_
      refine q_getI dX9_number_21 fl_X9_15 (ws_1 hW) rfl (by first | exact ha2 | exact hp0) ?_
      refine f_ic_ge dX9_number_24 (tgt := 73) rfl (by exact nI_ge (by omega) (by omega)) ?_
      refine q_aln dX9_number_27 rfl ?_
      refine q_V0 (N := m_X9_here) dX9_number_28 lk_X9_30 mV_X9_here (c_here hW hA) (by decide) (ws_1 hW) rfl (by decide) (Nat.le_of_ble_eq_true rfl) (Nat.le_of_ble_eq_true rfl) ?_
      refine q_S1 (N := m_X9_isDigit) dX9_number_31 lk_X9_26 mS_X9_isDigit (c_isDigit (sgn256 hA a)) (by decide) (Nat.le_of_ble_eq_true rfl) (Nat.le_of_ble_eq_true rfl) ?_
      refine f_if_eq dX9_number_34 (tgt := 73) rfl (by rw [if_pos hdg]; exact zf1) ?_
      refine q_iln dX9_number_37 rfl ?_
      refine q_iln dX9_number_38 rfl ?_
      refine t_ic_lt 44 dX9_number_39 rfl (by exact nI_lt (by omega) (by omega)) ?_
      refine q_iln dX9_number_44 rfl ?_
      refine q_bp (v := nI 10) dX9_number_45 rfl ?_
      first | refine q_mul dX9_number_47 ?_ | refine am_x_pu dX9_number_47 rfl ?_
      refine q_aln dX9_number_48 rfl ?_
      refine q_V0 (N := m_X9_here) dX9_number_49 lk_X9_30 mV_X9_here ((by have z := c_here hW hA; rw [sgn_s hl.1] at z; exact z)) (by decide) (ws_1 hW) rfl (by decide) (Nat.le_of_ble_eq_true rfl) (Nat.le_of_ble_eq_true rfl) ?_
      first | refine q_add dX9_number_52 ?_ | refine am_x_pu dX9_number_52 rfl ?_
      refine q_bp (v := nI 48) dX9_number_53 rfl ?_
      first | refine q_sub dX9_number_55 (by omega) ?_ | refine am_x_pu dX9_number_55 rfl ?_
      refine q_isn dX9_number_56 (by decide) ?_
      refine am_nl (pc' := 57) (l' := [_, _, _, _]) rfl rfl ?_
      refine q_aln dX9_number_57 rfl ?_
      refine am_x_pu dX9_number_58 rfl ?_
      refine q_getI dX9_number_59 fl_X9_19 (ws_1 hW) rfl (by first | exact ha2 | exact hp0) ?_
      refine q_ic (v := nI 1) dX9_number_62 rfl ?_
      first | refine q_add dX9_number_63 ?_ | refine am_x_pu dX9_number_63 rfl ?_
      refine am_x_putI dX9_number_64 (fw_X9_19 rfl) (ws_1 hW) (Or.inl rfl) ?_
      refine q_inc dX9_number_67 rfl (by decide) ?_
      refine am_nl (pc' := 70) (l' := [_, _, _, _]) rfl rfl ?_
      refine am_x_goto (tgt := 16) dX9_number_70 rfl ?_
      exact z1
    · rw [ndg_n hdg]
      show am_E _ _ _ _ _ _ (fun w h2 => w = some (.int (oN (if isDg (sgn tl tp a) = true then none else some v))) ∧ Fx [] [(1, 2)] h h2 ∧ TA h2 tl tp a)
      rw [if_neg hdg]
      by_cases hl : a < tl
      · refine Eq_aln dX9_number_16 rfl ?_
        refine Eq_getI dX9_number_17 fl_X9_19 (ws_1 hW) rfl (by first | exact ha2 | exact hp0) ?_
        refine Eq_aln dX9_number_20 rfl ?_
        refine Eq_getI dX9_number_21 fl_X9_15 (ws_1 hW) rfl (by first | exact ha2 | exact hp0) ?_
        refine Ef_ic_ge dX9_number_24 (tgt := 73) rfl (by exact nI_ge (by omega) (by omega)) ?_
        refine Eq_aln dX9_number_27 rfl ?_
        refine Eq_V0 (N := m_X9_here) dX9_number_28 lk_X9_30 mV_X9_here (c_here hW hA) (by decide) (ws_1 hW) rfl (by decide) (Nat.le_of_ble_eq_true rfl) (Nat.le_of_ble_eq_true rfl) ?_
        refine Eq_S1 (N := m_X9_isDigit) dX9_number_31 lk_X9_26 mS_X9_isDigit (c_isDigit (sgn256 hA a)) (by decide) (Nat.le_of_ble_eq_true rfl) (Nat.le_of_ble_eq_true rfl) ?_
        refine Et_if_eq 73 dX9_number_34 rfl (by rw [if_neg hdg]; rfl) ?_
        refine Eq_iln dX9_number_73 rfl ?_
        refine Eq_ir dX9_number_74 rfl ?_
        exact ⟨rfl, Fx.rf, hA⟩
      · refine Eq_aln dX9_number_16 rfl ?_
        refine Eq_getI dX9_number_17 fl_X9_19 (ws_1 hW) rfl (by first | exact ha2 | exact hp0) ?_
        refine Eq_aln dX9_number_20 rfl ?_
        refine Eq_getI dX9_number_21 fl_X9_15 (ws_1 hW) rfl (by first | exact ha2 | exact hp0) ?_
        refine Et_ic_ge 73 dX9_number_24 rfl (by exact nI_le (by omega) (by omega)) ?_
        refine Eq_iln dX9_number_73 rfl ?_
        refine Eq_ir dX9_number_74 rfl ?_
        exact ⟨rfl, Fx.rf, hA⟩
set_option maxHeartbeats 2000000 in
theorem c_number {h : am_H} (hW : Wd h) {tl : Nat} {tp : Nat → Nat} {a : Nat} (hA : TA h tl tp a) {d : Nat} (hd : d ≤ 4) : am_D 1 m_X9_number [.ref 1, .int (nI d)] h (fun w h2 => w = some (.int (oN (num tl tp d a).2)) ∧ Fx [] [(1, 2)] h h2 ∧ TA h2 tl tp (num tl tp d a).1) := by
  have h2 := sgn256 hA (nx tl tp a)
  unfold num
  by_cases hdg : isDg (sgn tl tp (nx tl tp a)) = true
  · rw [if_pos hdg]
    refine Eq_aln dX9_number_0 rfl ?_
    refine Eq_W0 (N := m_X9_next) dX9_number_1 lk_X9_22 mV_X9_next (c_next hW hA) (by decide) (ws_1 hW) rfl (by decide) (Nat.le_of_ble_eq_true rfl) (Nat.le_of_ble_eq_true rfl) (fun vq hq1 hq2 => ?_)
    obtain ⟨rfl, hf1, hA1⟩ := hq2
    have hW1 := hf1.Wd hW
    obtain ⟨⟨hq0, hq3, hq4⟩, hb2, hbtl⟩ := id hA1
    refine Eq_S1 (N := m_X9_isDigit) dX9_number_4 lk_X9_26 mS_X9_isDigit (c_isDigit h2) (by decide) (Nat.le_of_ble_eq_true rfl) (Nat.le_of_ble_eq_true rfl) ?_
    refine Et_if_ne 12 dX9_number_7 rfl (by rw [if_pos hdg]; exact zf1) ?_
    refine Eq_ic (v := nI 0) dX9_number_12 rfl ?_
    refine Eq_isn dX9_number_13 (by decide) ?_
    refine Eam_nl (pc' := 14) (l' := [_, _, _, _]) rfl rfl ?_
    refine Eq_ic (v := nI 0) dX9_number_14 rfl ?_
    refine Eq_isn dX9_number_15 (by decide) ?_
    refine Eam_nl (pc' := 16) (l' := [_, _, _, _]) rfl rfl ?_
    obtain ⟨v2, h3, z1, z2, z3, z4⟩ := c_number_lp hd d 0 (nx tl tp a) 0 (by omega) (by omega) _ hW1 hA1
    refine ⟨v2, h3, z1, ?_, hf1.tr z3, ?_⟩
    · rw [z2]; split <;> rfl
    · split <;> exact z4
  · rw [if_neg hdg]
    refine Eq_aln dX9_number_0 rfl ?_
    refine Eq_W0 (N := m_X9_next) dX9_number_1 lk_X9_22 mV_X9_next (c_next hW hA) (by decide) (ws_1 hW) rfl (by decide) (Nat.le_of_ble_eq_true rfl) (Nat.le_of_ble_eq_true rfl) (fun vq hq1 hq2 => ?_)
    obtain ⟨rfl, hf1, hA1⟩ := hq2
    have hW1 := hf1.Wd hW
    obtain ⟨⟨hq0, hq3, hq4⟩, hb2, hbtl⟩ := id hA1
    refine Eq_S1 (N := m_X9_isDigit) dX9_number_4 lk_X9_26 mS_X9_isDigit (c_isDigit h2) (by decide) (Nat.le_of_ble_eq_true rfl) (Nat.le_of_ble_eq_true rfl) ?_
    refine Ef_if_ne dX9_number_7 (tgt := 12) rfl (by rw [if_neg hdg]; rfl) ?_
    refine Eq_ic (v := -1) dX9_number_10 rfl ?_
    refine Eq_ir dX9_number_11 rfl ?_
    exact ⟨rfl, hf1, hA1⟩
set_option maxHeartbeats 2000000 in
theorem c_itemOf_lp {h : am_H} {x : Option Nat} (hx : ∀ c, x = some c → c < 256) : ∀ k j, j + k = 7 → (∀ i, i < j → x ≠ some (lt7 i)) → am_Sem 0 m_X2_itemOf 2 [some (.int (oN x)), some (.int (nI j))] [] h (some (.int (oN (itm x))), h) := by
  intro k
  induction k with
  | zero =>
    intro j hj hno
    have hj7 : j = 7 := by omega
    subst hj7
    rw [itm_no hno]
    refine q_iln dX2_itemOf_2 rfl ?_
    refine am_x_gs dX2_itemOf_3 gs_X2_75 ?_
    refine am_x_slen dX2_itemOf_6 (by decide) ?_
    refine t_ic_ge 27 dX2_itemOf_7 rfl (by decide +kernel) ?_
    refine q_ic (v := -1) dX2_itemOf_27 rfl ?_
    refine q_ir dX2_itemOf_28 rfl ?_
    rfl
  | succ k ih =>
    intro j hj hno
    have hlt := lt7_lt j
    by_cases he : x = some (lt7 j)
    · rw [he, itm_7 (by omega)]
      show am_Sem 0 m_X2_itemOf 2 [some (.int (nI (lt7 j))), some (.int (nI j))] [] h _
      refine q_iln dX2_itemOf_2 rfl ?_
      refine am_x_gs dX2_itemOf_3 gs_X2_75 ?_
      refine am_x_slen dX2_itemOf_6 (by decide) ?_
      refine f_ic_ge dX2_itemOf_7 (tgt := 27) rfl (by exact nI_ge (b := 7) (by omega) (by omega)) ?_
      refine am_x_gs dX2_itemOf_10 gs_X2_75 ?_
      refine q_iln dX2_itemOf_13 rfl ?_
      refine q_sld dX2_itemOf_14 (by decide) (show j < 7 by omega) (by decide) (sl1 (by omega)) ?_
      refine q_iln dX2_itemOf_15 rfl ?_
      refine f_ic_ne dX2_itemOf_16 (tgt := 21) rfl (by rfl) ?_
      refine q_iln dX2_itemOf_19 rfl ?_
      refine q_ir dX2_itemOf_20 rfl ?_
      rfl
    · refine q_iln dX2_itemOf_2 rfl ?_
      refine am_x_gs dX2_itemOf_3 gs_X2_75 ?_
      refine am_x_slen dX2_itemOf_6 (by decide) ?_
      refine f_ic_ge dX2_itemOf_7 (tgt := 27) rfl (by exact nI_ge (b := 7) (by omega) (by omega)) ?_
      refine am_x_gs dX2_itemOf_10 gs_X2_75 ?_
      refine q_iln dX2_itemOf_13 rfl ?_
      refine q_sld dX2_itemOf_14 (by decide) (show j < 7 by omega) (by decide) (sl1 (by omega)) ?_
      refine q_iln dX2_itemOf_15 rfl ?_
      refine t_ic_ne 21 dX2_itemOf_16 rfl (by exact fun z => he ((oNlt (fun k hk => by have := hx k hk; omega) _ (by omega)).mp z.symm)) ?_
      refine q_inc dX2_itemOf_21 rfl (by decide) ?_
      refine am_nl (pc' := 24) (l' := [_, _]) rfl rfl ?_
      refine am_x_goto (tgt := 2) dX2_itemOf_24 rfl ?_
      exact ih (j + 1) (by omega) (fun i hi => by by_cases e : i = j; (rw [e]; exact he); exact hno i (by omega))
set_option maxHeartbeats 2000000 in
theorem c_itemOf {h : am_H} {x : Option Nat} (hx : ∀ c, x = some c → c < 256) : am_C 0 m_X2_itemOf [.int (oN x)] h (some (.int (oN (itm x))), h) := by
  refine q_ic (v := nI 0) dX2_itemOf_0 rfl ?_
  refine q_isn dX2_itemOf_1 (by decide) ?_
  refine am_nl (pc' := 2) (l' := [_, _]) rfl rfl ?_
  exact c_itemOf_lp hx 7 0 (by omega) (fun i hi => by omega)
set_option maxHeartbeats 2000000 in
theorem c_has4 {h : am_H} (hW : Wd h) {N m : Nat} (hN : am_i h 4 0 = nI N) (h7 : N ≤ 7) (hm : m < N) : am_C 0 m_X5_has [.ref 4, .int (nI m)] h (some (.int (nI 1)), h) := by
  refine q_iln dX5_has_0 rfl ?_
  refine n_if_lt (tgt := 22) dX5_has_1 rfl (by omega) ?_
  refine q_iln dX5_has_4 rfl ?_
  refine q_aln dX5_has_5 rfl ?_
  refine q_getI dX5_has_6 fl_X5_9 (ws_4 hW) rfl (by first | assumption | rfl) ?_
  refine f_ic_ge dX5_has_9 (tgt := 22) rfl (by exact nI_ge (by omega) (by omega)) ?_
  refine q_iln dX5_has_12 rfl ?_
  refine q_bp (v := nI 7) dX5_has_13 rfl ?_
  refine f_ic_ge dX5_has_15 (tgt := 22) rfl (by exact nI_ge (by omega) (by omega)) ?_
  refine q_ic (v := nI 1) dX5_has_18 rfl ?_
  refine am_x_goto (tgt := 23) dX5_has_19 rfl ?_
  first | refine q_zrn dX5_has_23 rfl (by first | omega | exact b2_le) ?_ | refine q_zr dX5_has_23 rfl (by first | exact Or.inl rfl | exact Or.inr rfl | assumption) ?_
  rfl
set_option maxHeartbeats 2000000 in
theorem c_tell4 {h : am_H} (hW : Wd h) {N m i : Nat} {v : Int32} (hN : am_i h 4 0 = nI N) (h7 : N ≤ 7) (hm : m < N) (hi : i < 7) : am_C 1 m_X5_tell [.ref 4, .int (nI i), .int (nI m), .int v] h (none, am_wI h 5 (i * 7 + m) v) := by
  refine q_aln dX5_tell_0 rfl ?_
  refine q_iln dX5_tell_1 rfl ?_
  refine q_V1 (N := m_X5_has) dX5_tell_2 lk_X5_43 mV_X5_has (c_has4 hW hN h7 hm) (by decide) (ws_4 hW) rfl (by decide) (Nat.le_of_ble_eq_true rfl) (Nat.le_of_ble_eq_true rfl) ?_
  refine f_if_eq dX5_tell_5 (tgt := 30) rfl (by exact zf1) ?_
  refine q_iln dX5_tell_8 rfl ?_
  refine n_if_lt (tgt := 30) dX5_tell_9 rfl (by omega) ?_
  refine q_iln dX5_tell_12 rfl ?_
  refine q_bp (v := nI 7) dX5_tell_13 rfl ?_
  refine f_ic_ge dX5_tell_15 (tgt := 30) rfl (by exact nI_ge (by omega) (by omega)) ?_
  refine q_aln dX5_tell_18 rfl ?_
  refine q_getR dX5_tell_19 fl_X5_19 (ws_4 hW) rfl (wp_4_2 hW) ?_
  refine q_iln dX5_tell_22 rfl ?_
  refine q_bp (v := nI 7) dX5_tell_23 rfl ?_
  first | refine q_mul dX5_tell_25 ?_ | refine am_x_pu dX5_tell_25 rfl ?_
  refine q_iln dX5_tell_26 rfl ?_
  first | refine q_add dX5_tell_27 ?_ | refine am_x_pu dX5_tell_27 rfl ?_
  refine q_iln dX5_tell_28 rfl ?_
  refine q_ast dX5_tell_29 (ws_5 hW) (by omega) (by omega) ?_
  refine q_vr dX5_tell_30 rfl ?_
  rfl
set_option maxHeartbeats 2000000 in
theorem c_fact4 {h : am_H} (hW : Wd h) {N m i : Nat} {v : Int32} (hN : am_i h 4 0 = nI N) (h7 : N ≤ 7) (hm : m < N) (hi : i < 7) (hv : am_i h 5 (i * 7 + m) = v) : am_C 0 m_X5_fact [.ref 4, .int (nI i), .int (nI m)] h (some (.int v), h) := by
  refine q_iln dX5_fact_0 rfl ?_
  refine n_if_lt (tgt := 22) dX5_fact_1 rfl (by omega) ?_
  refine q_iln dX5_fact_4 rfl ?_
  refine q_aln dX5_fact_5 rfl ?_
  refine q_getI dX5_fact_6 fl_X5_9 (ws_4 hW) rfl (by first | assumption | rfl) ?_
  first | refine n_ic_ge 22 dX5_fact_9 rfl (by omega) (by omega) (fun c9 => ?_) (fun c9 => ?_) | refine b_ic_ge 22 dX5_fact_9 rfl (fun c9 => ?_) (fun c9 => ?_)
  · first
    | (exfalso; omega)
    | (refine q_ic (v := nI 0) dX5_fact_22 rfl ?_
       refine q_isn dX5_fact_23 (by decide) ?_
       refine am_nl (pc' := 24) (l' := [_, _, _, _]) rfl rfl ?_
       refine q_iln dX5_fact_24 rfl ?_
       first | refine n_if_eq 52 dX5_fact_25 rfl (by omega) (fun c25 => ?_) (fun c25 => ?_) | refine b_if_eq 52 dX5_fact_25 rfl (fun c25 => ?_) (fun c25 => ?_)
       · first
         | (exfalso; omega)
         | (refine q_ic (v := -1) dX5_fact_52 rfl ?_
            refine q_ir dX5_fact_53 rfl ?_
            rfl)
       · first
         | (exfalso; omega)
         | (refine q_iln dX5_fact_28 rfl ?_
            refine n_if_lt (tgt := 52) dX5_fact_29 rfl (by omega) ?_
            refine q_iln dX5_fact_32 rfl ?_
            refine q_bp (v := nI 7) dX5_fact_33 rfl ?_
            first | refine n_ic_ge 52 dX5_fact_35 rfl (by omega) (by omega) (fun c35 => ?_) (fun c35 => ?_) | refine b_ic_ge 52 dX5_fact_35 rfl (fun c35 => ?_) (fun c35 => ?_)
            · first
              | (exfalso; omega)
              | (refine q_ic (v := -1) dX5_fact_52 rfl ?_
                 refine q_ir dX5_fact_53 rfl ?_
                 rfl)
            · first
              | (exfalso; omega)
              | (refine q_aln dX5_fact_38 rfl ?_
                 refine q_getR dX5_fact_39 fl_X5_19 (ws_4 hW) rfl (wp_4_2 hW) ?_
                 refine q_iln dX5_fact_42 rfl ?_
                 refine q_bp (v := nI 7) dX5_fact_43 rfl ?_
                 first | refine q_mul dX5_fact_45 ?_ | refine am_x_pu dX5_fact_45 rfl ?_
                 refine q_iln dX5_fact_46 rfl ?_
                 first | refine q_add dX5_fact_47 ?_ | refine am_x_pu dX5_fact_47 rfl ?_
                 refine q_ald dX5_fact_48 (ws_5 hW) (by omega) (by omega) hv ?_
                 refine am_x_goto (tgt := 53) dX5_fact_49 rfl ?_
                 refine q_ir dX5_fact_53 rfl ?_
                 rfl)))
  · first
    | (exfalso; omega)
    | (refine q_iln dX5_fact_12 rfl ?_
       refine q_bp (v := nI 7) dX5_fact_13 rfl ?_
       first | refine n_ic_ge 22 dX5_fact_15 rfl (by omega) (by omega) (fun c15 => ?_) (fun c15 => ?_) | refine b_ic_ge 22 dX5_fact_15 rfl (fun c15 => ?_) (fun c15 => ?_)
       · first
         | (exfalso; omega)
         | (refine q_ic (v := nI 0) dX5_fact_22 rfl ?_
            refine q_isn dX5_fact_23 (by decide) ?_
            refine am_nl (pc' := 24) (l' := [_, _, _, _]) rfl rfl ?_
            refine q_iln dX5_fact_24 rfl ?_
            first | refine n_if_eq 52 dX5_fact_25 rfl (by omega) (fun c25 => ?_) (fun c25 => ?_) | refine b_if_eq 52 dX5_fact_25 rfl (fun c25 => ?_) (fun c25 => ?_)
            · first
              | (exfalso; omega)
              | (refine q_ic (v := -1) dX5_fact_52 rfl ?_
                 refine q_ir dX5_fact_53 rfl ?_
                 rfl)
            · first
              | (exfalso; omega)
              | (refine q_iln dX5_fact_28 rfl ?_
                 refine n_if_lt (tgt := 52) dX5_fact_29 rfl (by omega) ?_
                 refine q_iln dX5_fact_32 rfl ?_
                 refine q_bp (v := nI 7) dX5_fact_33 rfl ?_
                 first | refine n_ic_ge 52 dX5_fact_35 rfl (by omega) (by omega) (fun c35 => ?_) (fun c35 => ?_) | refine b_ic_ge 52 dX5_fact_35 rfl (fun c35 => ?_) (fun c35 => ?_)
                 · first
                   | (exfalso; omega)
                   | (refine q_ic (v := -1) dX5_fact_52 rfl ?_
                      refine q_ir dX5_fact_53 rfl ?_
                      rfl)
                 · first
                   | (exfalso; omega)
                   | (refine q_aln dX5_fact_38 rfl ?_
                      refine q_getR dX5_fact_39 fl_X5_19 (ws_4 hW) rfl (wp_4_2 hW) ?_
                      refine q_iln dX5_fact_42 rfl ?_
                      refine q_bp (v := nI 7) dX5_fact_43 rfl ?_
                      first | refine q_mul dX5_fact_45 ?_ | refine am_x_pu dX5_fact_45 rfl ?_
                      refine q_iln dX5_fact_46 rfl ?_
                      first | refine q_add dX5_fact_47 ?_ | refine am_x_pu dX5_fact_47 rfl ?_
                      refine q_ald dX5_fact_48 (ws_5 hW) (by omega) (by omega) hv ?_
                      refine am_x_goto (tgt := 53) dX5_fact_49 rfl ?_
                      refine q_ir dX5_fact_53 rfl ?_
                      rfl)))
       · first
         | (exfalso; omega)
         | (refine q_ic (v := nI 1) dX5_fact_18 rfl ?_
            refine am_x_goto (tgt := 23) dX5_fact_19 rfl ?_
            refine q_isn dX5_fact_23 (by decide) ?_
            refine am_nl (pc' := 24) (l' := [_, _, _, _]) rfl rfl ?_
            refine q_iln dX5_fact_24 rfl ?_
            first | refine n_if_eq 52 dX5_fact_25 rfl (by omega) (fun c25 => ?_) (fun c25 => ?_) | refine b_if_eq 52 dX5_fact_25 rfl (fun c25 => ?_) (fun c25 => ?_)
            · first
              | (exfalso; omega)
              | (refine q_ic (v := -1) dX5_fact_52 rfl ?_
                 refine q_ir dX5_fact_53 rfl ?_
                 rfl)
            · first
              | (exfalso; omega)
              | (refine q_iln dX5_fact_28 rfl ?_
                 refine n_if_lt (tgt := 52) dX5_fact_29 rfl (by omega) ?_
                 refine q_iln dX5_fact_32 rfl ?_
                 refine q_bp (v := nI 7) dX5_fact_33 rfl ?_
                 first | refine n_ic_ge 52 dX5_fact_35 rfl (by omega) (by omega) (fun c35 => ?_) (fun c35 => ?_) | refine b_ic_ge 52 dX5_fact_35 rfl (fun c35 => ?_) (fun c35 => ?_)
                 · first
                   | (exfalso; omega)
                   | (refine q_ic (v := -1) dX5_fact_52 rfl ?_
                      refine q_ir dX5_fact_53 rfl ?_
                      rfl)
                 · first
                   | (exfalso; omega)
                   | (refine q_aln dX5_fact_38 rfl ?_
                      refine q_getR dX5_fact_39 fl_X5_19 (ws_4 hW) rfl (wp_4_2 hW) ?_
                      refine q_iln dX5_fact_42 rfl ?_
                      refine q_bp (v := nI 7) dX5_fact_43 rfl ?_
                      first | refine q_mul dX5_fact_45 ?_ | refine am_x_pu dX5_fact_45 rfl ?_
                      refine q_iln dX5_fact_46 rfl ?_
                      first | refine q_add dX5_fact_47 ?_ | refine am_x_pu dX5_fact_47 rfl ?_
                      refine q_ald dX5_fact_48 (ws_5 hW) (by omega) (by omega) hv ?_
                      refine am_x_goto (tgt := 53) dX5_fact_49 rfl ?_
                      refine q_ir dX5_fact_53 rfl ?_
                      rfl))))
set_option maxHeartbeats 2000000 in
theorem c_readValue {h : am_H} (hW : Wd h) {tl : Nat} {tp : Nat → Nat} {a : Nat} (hA : TA h tl tp a) {N i : Nat} (hN : am_i h 4 0 = nI N) (h0 : 0 < N) (h7 : N ≤ 7) (hi : i < 7) : am_D 2 m_X2_readValue [.ref 3, .int (nI i)] h (fun w h2 => match (vlu tl tp i a).2 with
    | none => w = some (.int (nI 0)) ∧ Fx [5] [(1, 2)] h h2 ∧ TA h2 tl tp (vlu tl tp i a).1
    | some v => w = some (.int (nI 1)) ∧ Fx [5] [(1, 2)] h h2 ∧ TA h2 tl tp (vlu tl tp i a).1 ∧ ∀ k, am_i h2 5 k = if k = i * 7 + (N - 1) then nI v else am_i h 5 k) := by
  have hm9 := most99 i
  have hv0 := vlu_le (tp := tp) (i := i) hA.2.2
  have hnl := num_le (tp := tp) (d := 2) hA.2.2
  cases hq : (num tl tp 2 a).2 with
  | none =>
    rw [vlu_n hq]
    refine Eq_aln dX2_readValue_0 rfl ?_
    refine Eq_getR dX2_readValue_1 fl_X2_9 (ws_3 hW) rfl (wp_3_0 hW) ?_
    refine Eq_ic (v := nI 2) dX2_readValue_4 rfl ?_
    refine Eq_W1 (N := m_X9_number) dX2_readValue_5 lk_X2_79 mV_X9_number ((by have z := c_number hW hA (d := 2) (by omega); rw [hq] at z; exact z)) (by decide) (ws_1 hW) rfl (by decide) (Nat.le_of_ble_eq_true rfl) (Nat.le_of_ble_eq_true rfl) (fun vq hq1 hq2 => ?_)
    obtain ⟨rfl, hf1, hA1⟩ := hq2
    have hW1 := hf1.Wd hW
    have hN1 : am_i hq1 4 0 = nI N := (hf1.i (by decide) (by decide)).trans hN
    refine Eq_isn dX2_readValue_8 (by decide) ?_
    refine Eam_nl (pc' := 9) (l' := [_, _, _]) rfl rfl ?_
    refine Eq_iln dX2_readValue_9 rfl ?_
    refine Eq_ic (v := -1) dX2_readValue_10 rfl ?_
    refine Ef_ic_ne dX2_readValue_11 (tgt := 16) rfl (by rfl) ?_
    refine Eq_ic (v := nI 0) dX2_readValue_14 rfl ?_
    first | refine Eq_zrn dX2_readValue_15 rfl (by first | omega | exact b2_le) ?_ | refine Eq_zr dX2_readValue_15 rfl (by first | exact Or.inl rfl | exact Or.inr rfl | assumption) ?_
    exact ⟨rfl, hf1.mono (by decide) (by decide), hA1⟩
  | some v =>
    have hvl := (hnl.2.2 v hq).1
    by_cases hv : v ≤ most i
    · rw [vlu_y hq hv]
      refine Eq_aln dX2_readValue_0 rfl ?_
      refine Eq_getR dX2_readValue_1 fl_X2_9 (ws_3 hW) rfl (wp_3_0 hW) ?_
      refine Eq_ic (v := nI 2) dX2_readValue_4 rfl ?_
      refine Eq_W1 (N := m_X9_number) dX2_readValue_5 lk_X2_79 mV_X9_number ((by have z := c_number hW hA (d := 2) (by omega); rw [hq] at z; exact z)) (by decide) (ws_1 hW) rfl (by decide) (Nat.le_of_ble_eq_true rfl) (Nat.le_of_ble_eq_true rfl) (fun vq hq1 hq2 => ?_)
      obtain ⟨rfl, hf1, hA1⟩ := hq2
      have hW1 := hf1.Wd hW
      have hN1 : am_i hq1 4 0 = nI N := (hf1.i (by decide) (by decide)).trans hN
      refine Eq_isn dX2_readValue_8 (by decide) ?_
      refine Eam_nl (pc' := 9) (l' := [_, _, _]) rfl rfl ?_
      refine Eq_iln dX2_readValue_9 rfl ?_
      refine Eq_ic (v := -1) dX2_readValue_10 rfl ?_
      refine Et_ic_ne 16 dX2_readValue_11 rfl (by exact nI_m1 (by omega)) ?_
      refine Eq_iln dX2_readValue_16 rfl ?_
      refine Eq_iln dX2_readValue_17 rfl ?_
      refine Eq_S1 (N := m_X5_mostOf) dX2_readValue_18 lk_X2_82 mS_X5_mostOf (c_mostOf hi) (by decide) (Nat.le_of_ble_eq_true rfl) (Nat.le_of_ble_eq_true rfl) ?_
      refine Et_ic_le 33 dX2_readValue_21 rfl (by exact nI_le (by omega) (by omega)) ?_
      refine Eq_aln dX2_readValue_33 rfl ?_
      refine Eq_getR dX2_readValue_34 fl_X2_18 (ws_3 hW1) rfl (wp_3_1 hW1) ?_
      refine Eq_iln dX2_readValue_37 rfl ?_
      refine Eq_aln dX2_readValue_38 rfl ?_
      refine Eq_getR dX2_readValue_39 fl_X2_18 (ws_3 hW1) rfl (wp_3_1 hW1) ?_
      refine Eq_getI dX2_readValue_42 fl_X2_49 (ws_4 hW1) rfl hN1 ?_
      refine Eq_ic (v := nI 1) dX2_readValue_45 rfl ?_
      first | refine Eq_sub dX2_readValue_46 (by omega) ?_ | refine Eam_x_pu dX2_readValue_46 rfl ?_
      refine Eq_iln dX2_readValue_47 rfl ?_
      refine Eq_V3 (N := m_X5_tell) dX2_readValue_48 lk_X2_88 mV_X5_tell (c_tell4 hW1 hN1 h7 (by omega) hi) (by decide) (ws_4 hW1) rfl (by decide) (Nat.le_of_ble_eq_true rfl) (Nat.le_of_ble_eq_true rfl) ?_
      refine Eq_ic (v := nI 1) dX2_readValue_51 rfl ?_
      first | refine Eq_zrn dX2_readValue_52 rfl (by first | omega | exact b2_le) ?_ | refine Eq_zr dX2_readValue_52 rfl (by first | exact Or.inl rfl | exact Or.inr rfl | assumption) ?_
      exact ⟨rfl, (hf1.mono (by decide) (by decide)).tr (Fx.wI (Or.inl (by decide))), hA1.fx (Fx.wI (A := [5]) (B := []) (Or.inl (by decide))) (by decide), fun k => by rw [wI_eq, hf1.ia (r := 5) (by decide) (by decide)]⟩
    · rw [vlu_o hq hv]
      have hp := hv0.2.2 v hq
      refine Eq_aln dX2_readValue_0 rfl ?_
      refine Eq_getR dX2_readValue_1 fl_X2_9 (ws_3 hW) rfl (wp_3_0 hW) ?_
      refine Eq_ic (v := nI 2) dX2_readValue_4 rfl ?_
      refine Eq_W1 (N := m_X9_number) dX2_readValue_5 lk_X2_79 mV_X9_number ((by have z := c_number hW hA (d := 2) (by omega); rw [hq] at z; exact z)) (by decide) (ws_1 hW) rfl (by decide) (Nat.le_of_ble_eq_true rfl) (Nat.le_of_ble_eq_true rfl) (fun vq hq1 hq2 => ?_)
      obtain ⟨rfl, hf1, hA1⟩ := hq2
      have hW1 := hf1.Wd hW
      have hN1 : am_i hq1 4 0 = nI N := (hf1.i (by decide) (by decide)).trans hN
      refine Eq_isn dX2_readValue_8 (by decide) ?_
      refine Eam_nl (pc' := 9) (l' := [_, _, _]) rfl rfl ?_
      refine Eq_iln dX2_readValue_9 rfl ?_
      refine Eq_ic (v := -1) dX2_readValue_10 rfl ?_
      refine Et_ic_ne 16 dX2_readValue_11 rfl (by exact nI_m1 (by omega)) ?_
      refine Eq_iln dX2_readValue_16 rfl ?_
      refine Eq_iln dX2_readValue_17 rfl ?_
      refine Eq_S1 (N := m_X5_mostOf) dX2_readValue_18 lk_X2_82 mS_X5_mostOf (c_mostOf hi) (by decide) (Nat.le_of_ble_eq_true rfl) (Nat.le_of_ble_eq_true rfl) ?_
      refine Ef_ic_le dX2_readValue_21 (tgt := 33) rfl (by exact fun z => hv ((nI_leI (by omega) (by omega)).mp z)) ?_
      refine Eq_aln dX2_readValue_24 rfl ?_
      refine Eq_getR dX2_readValue_25 fl_X2_9 (ws_3 hW1) rfl (wp_3_0 hW1) ?_
      refine Eq_V0 (N := m_X9_stepBack) dX2_readValue_28 lk_X2_85 mV_X9_stepBack (c_stepBack hW1 hA1 hp) (by decide) (ws_1 hW1) rfl (by decide) (Nat.le_of_ble_eq_true rfl) (Nat.le_of_ble_eq_true rfl) ?_
      refine Eq_ic (v := nI 0) dX2_readValue_31 rfl ?_
      first | refine Eq_zrn dX2_readValue_32 rfl (by first | omega | exact b2_le) ?_ | refine Eq_zr dX2_readValue_32 rfl (by first | exact Or.inl rfl | exact Or.inr rfl | assumption) ?_
      exact ⟨rfl, (hf1.mono (by decide) (by decide)).tr (Fx.wI (Or.inr (by decide))), hA1.mv (by have := hnl.2.1; omega)⟩
