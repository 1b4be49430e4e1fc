theorem sgn256 {h : am_H} {tl a : Nat} {tp : Nat → Nat} (hA : TA h tl tp a) (b : Nat) : ∀ c, sgn tl tp b = some c → c < 256 := fun c hc => by
  have q := sgn_lt hc
  rw [← q.2]
  exact (hA.1.2.2 b q.1).2
def lt7 (i : Nat) : Nat := if i = 0 then 118 else if i = 1 then 100 else if i = 2 then 101 else if i = 3 then 107 else if i = 4 then 110 else if i = 5 then 121 else 98
theorem sl1 {j : Nat} (hj : j < 7) : (am_sl 1).getD j 0 = nI (lt7 j) := by
  rcases (show j = 0 ∨ j = 1 ∨ j = 2 ∨ j = 3 ∨ j = 4 ∨ j = 5 ∨ j = 6 by omega) with rfl | rfl | rfl | rfl | rfl | rfl | rfl <;> rfl
theorem sl3 {j : Nat} (hj : j < 7) : (am_sl 3).getD j 0 = nI (usu j) := by
  rcases (show j = 0 ∨ j = 1 ∨ j = 2 ∨ j = 3 ∨ j = 4 ∨ j = 5 ∨ j = 6 by omega) with rfl | rfl | rfl | rfl | rfl | rfl | rfl <;> rfl
theorem itm_7 {j : Nat} (hj : j < 7) : itm (some (lt7 j)) = some j := by
  rcases (show j = 0 ∨ j = 1 ∨ j = 2 ∨ j = 3 ∨ j = 4 ∨ j = 5 ∨ j = 6 by omega) with rfl | rfl | rfl | rfl | rfl | rfl | rfl <;> rfl
theorem itm_no {x : Option Nat} (h : ∀ i, i < 7 → x ≠ some (lt7 i)) : itm x = none := by
  cases x with
  | none => rfl
  | some c =>
    have e : ∀ i, i < 7 → c ≠ lt7 i := fun i hi z => h i hi (by rw [z])
    have e0 : c ≠ 118 := e 0 (by omega)
    have e1 : c ≠ 100 := e 1 (by omega)
    have e2 : c ≠ 101 := e 2 (by omega)
    have e3 : c ≠ 107 := e 3 (by omega)
    have e4 : c ≠ 110 := e 4 (by omega)
    have e5 : c ≠ 121 := e 5 (by omega)
    have e6 : c ≠ 98 := e 6 (by omega)
    simp only [itm]
    rw [if_neg e0, if_neg e1, if_neg e2, if_neg e3, if_neg e4, if_neg e5, if_neg e6]
theorem lt7_lt (j : Nat) : lt7 j < 256 := by unfold lt7; (repeat' split) <;> omega
theorem usu_most {i : Nat} : usu i ≤ most i := by
  unfold usu most
  (repeat' split) <;> omega
theorem most99 (i : Nat) : most i ≤ 99 := by unfold most; (repeat' split) <;> omega
theorem its_most {tl : Nat} {tp : Nat → Nat} : ∀ k seen a G, a ≤ tl → (∀ i, G i ≤ most i) → ∀ G', (its tl tp k seen a G).2 = some G' → ∀ i, G' i ≤ most i
  | 0, _, a, G, _, hG, G', h => by simp only [its] at h; cases h; exact hG
  | k + 1, seen, a, G, h, hG, G', hr => by
    cases hi : itm (sgn tl tp (nx tl tp a)) with
    | none => rw [its_n hi] at hr; cases hr; exact hG
    | some i =>
      by_cases hs : seen.testBit i = true
      · rw [its_r hi hs] at hr; cases hr
      · have h2 := nx_le (tp := tp) h
        have hlt : nx tl tp a < tl := by
          cases hq : sgn tl tp (nx tl tp a) with
          | none => exact absurd hq (itm_lt hi).2
          | some c => exact (sgn_lt hq).1
        have hv := vlu_le (tp := tp) (i := i) (a := nx tl tp a + 1) (tl := tl) (by omega)
        cases hq : (vlu tl tp i (nx tl tp a + 1)).2 with
        | none => rw [its_f hi hs hq] at hr; cases hr
        | some v =>
          rw [its_y hi hs hq] at hr
          refine its_most k _ _ _ hv.1 (fun j => ?_) G' hr
          by_cases e : j = i
          · rw [e, up1_eq]; exact (hv.2.1 v hq).1
          · rw [up1_ne e]; exact hG j
/-- strangers are no enemies -/
def drs (n : Nat) (F : Nat → Nat → Nat) : Nat → Nat → Nat := fun i m => if i = 4 ∧ n ≤ F 4 m then 7 else F i m
set_option maxHeartbeats 2000000 in
theorem c_next_lp {h : am_H} (hW : Wd h) {tl : Nat} {tp : Nat → Nat} : ∀ k a, a + k = tl → ∀ h0, Wd h0 → TA h0 tl tp a → am_E 0 m_X9_next 0 [some (.ref 1)] [] h0 (fun v h2 => v = some (.int (oN (sgn tl tp (nx tl tp a)))) ∧ Fx [] [(1, 2)] h0 h2 ∧ TA h2 tl tp (nx tl tp a)) := by
  clear hW h
  intro k
  induction k with
  | zero =>
    intro a hk h hW hA
    obtain ⟨⟨hp0, hp1, hp2⟩, ha2, hatl⟩ := id hA
    rw [nx_o (by omega), sgn_n (by omega)]
    refine Eq_aln dX9_next_0 rfl ?_
    refine Eq_getI dX9_next_1 fl_X9_19 (ws_1 hW) rfl (by first | exact ha2 | exact hp0) ?_
    refine En_if_lt (tgt := 65) dX9_next_4 rfl (by omega) ?_
    refine Eq_aln dX9_next_7 rfl ?_
    refine Eq_getI dX9_next_8 fl_X9_19 (ws_1 hW) rfl (by first | exact ha2 | exact hp0) ?_
    refine Eq_aln dX9_next_11 rfl ?_
    refine Eq_getI dX9_next_12 fl_X9_15 (ws_1 hW) rfl (by first | exact ha2 | exact hp0) ?_
    refine Et_ic_ge 65 dX9_next_15 rfl (by exact nI_le (by omega) (by omega)) ?_
    refine Eq_ic (v := -1) dX9_next_65 rfl ?_
    refine Eq_ir dX9_next_66 rfl ?_
    exact ⟨rfl, Fx.rf, hA⟩
  | succ k ih =>
    intro a hk h hW hA
    obtain ⟨⟨hp0, hp1, hp2⟩, ha2, hatl⟩ := id hA
    have hta := (hp2 a (by omega)).2
    by_cases hb : tp a = 32
    · rw [nx_b (by omega) hb]
      refine Eq_aln dX9_next_0 rfl ?_
      refine Eq_getI dX9_next_1 fl_X9_19 (ws_1 hW) rfl (by first | exact ha2 | exact hp0) ?_
      refine En_if_lt (tgt := 65) dX9_next_4 rfl (by omega) ?_
      refine Eq_aln dX9_next_7 rfl ?_
      refine Eq_getI dX9_next_8 fl_X9_19 (ws_1 hW) rfl (by first | exact ha2 | exact hp0) ?_
      refine Eq_aln dX9_next_11 rfl ?_
      refine Eq_getI dX9_next_12 fl_X9_15 (ws_1 hW) rfl (by first | exact ha2 | exact hp0) ?_
      refine Ef_ic_ge dX9_next_15 (tgt := 65) rfl (by exact nI_ge (by omega) (by omega)) ?_
      refine Eq_aln dX9_next_18 rfl ?_
      refine Eq_getI dX9_next_19 fl_X9_19 (ws_1 hW) rfl (by first | exact ha2 | exact hp0) ?_
      refine Eq_sp (v := nI 160) dX9_next_22 rfl ?_
      refine Ef_ic_ge dX9_next_25 (tgt := 65) rfl (by exact nI_ge (by omega) (by omega)) ?_
      refine Eq_aln dX9_next_28 rfl ?_
      refine Eq_getR dX9_next_29 fl_X9_11 (ws_1 hW) rfl (wp_1_0 hW) ?_
      refine Eq_aln dX9_next_32 rfl ?_
      refine Eq_getI dX9_next_33 fl_X9_19 (ws_1 hW) rfl (by first | exact ha2 | exact hp0) ?_
      refine Eq_ald dX9_next_36 (ws_2 hW) (by omega) (by omega) (hp2 _ (by omega)).1 ?_
      refine Eq_bp (v := nI 32) dX9_next_37 rfl ?_
      refine Et_ic_eq 52 dX9_next_39 rfl (by rw [hb]) ?_
      refine Eq_aln dX9_next_52 rfl ?_
      refine Eam_x_pu dX9_next_53 rfl ?_
      refine Eq_getI dX9_next_54 fl_X9_19 (ws_1 hW) rfl (by first | exact ha2 | exact hp0) ?_
      refine Eq_ic (v := nI 1) dX9_next_57 rfl ?_
      first | refine Eq_add dX9_next_58 ?_ | refine Eam_x_pu dX9_next_58 rfl ?_
      refine Eam_x_putI dX9_next_59 (fw_X9_19 rfl) (ws_1 hW) (Or.inl rfl) ?_
      refine Eam_x_goto (tgt := 0) dX9_next_62 rfl ?_
      have k1 : Fx [] [(1, 2)] h (am_wI h 1 2 (nI (a + 1))) := Fx.wI (Or.inr (by decide))
      obtain ⟨v2, h2, z1, z2, z3, z4⟩ := ih (a + 1) (by omega) _ (k1.Wd hW) (hA.mv (by omega))
      exact ⟨v2, h2, z1, z2, k1.tr z3, z4⟩
    · rw [nx_o (by omega), sgn_s (by omega)]
      refine Eq_aln dX9_next_0 rfl ?_
      refine Eq_getI dX9_next_1 fl_X9_19 (ws_1 hW) rfl (by first | exact ha2 | exact hp0) ?_
      refine En_if_lt (tgt := 65) dX9_next_4 rfl (by omega) ?_
      refine Eq_aln dX9_next_7 rfl ?_
      refine Eq_getI dX9_next_8 fl_X9_19 (ws_1 hW) rfl (by first | exact ha2 | exact hp0) ?_
      refine Eq_aln dX9_next_11 rfl ?_
      refine Eq_getI dX9_next_12 fl_X9_15 (ws_1 hW) rfl (by first | exact ha2 | exact hp0) ?_
      refine Ef_ic_ge dX9_next_15 (tgt := 65) rfl (by exact nI_ge (by omega) (by omega)) ?_
      refine Eq_aln dX9_next_18 rfl ?_
      refine Eq_getI dX9_next_19 fl_X9_19 (ws_1 hW) rfl (by first | exact ha2 | exact hp0) ?_
      refine Eq_sp (v := nI 160) dX9_next_22 rfl ?_
      refine Ef_ic_ge dX9_next_25 (tgt := 65) rfl (by exact nI_ge (by omega) (by omega)) ?_
      refine Eq_aln dX9_next_28 rfl ?_
      refine Eq_getR dX9_next_29 fl_X9_11 (ws_1 hW) rfl (wp_1_0 hW) ?_
      refine Eq_aln dX9_next_32 rfl ?_
      refine Eq_getI dX9_next_33 fl_X9_19 (ws_1 hW) rfl (by first | exact ha2 | exact hp0) ?_
      refine Eq_ald dX9_next_36 (ws_2 hW) (by omega) (by omega) (hp2 _ (by omega)).1 ?_
      refine Eq_bp (v := nI 32) dX9_next_37 rfl ?_
      refine Ef_ic_eq dX9_next_39 (tgt := 52) rfl (by exact fun z => hb ((nI_eq (by omega) (by omega)).mp z)) ?_
      refine Eq_aln dX9_next_42 rfl ?_
      refine Eq_getR dX9_next_43 fl_X9_11 (ws_1 hW) rfl (wp_1_0 hW) ?_
      refine Eq_aln dX9_next_46 rfl ?_
      refine Eq_getI dX9_next_47 fl_X9_19 (ws_1 hW) rfl (by first | exact ha2 | exact hp0) ?_
      refine Eq_ald dX9_next_50 (ws_2 hW) (by omega) (by omega) (hp2 _ (by omega)).1 ?_
      refine Eq_ir dX9_next_51 rfl ?_
      exact ⟨rfl, Fx.rf, hA⟩
set_option maxHeartbeats 2000000 in
theorem c_next {h : am_H} (hW : Wd h) {tl : Nat} {tp : Nat → Nat} {a : Nat} (hA : TA h tl tp a)  : am_D 0 m_X9_next [.ref 1] h (fun v h2 => v = some (.int (oN (sgn tl tp (nx tl tp a)))) ∧ Fx [] [(1, 2)] h h2 ∧ TA h2 tl tp (nx tl tp a)) := by
  exact c_next_lp hW (tl - a) a (by have := hA.2.2; omega) h hW hA
set_option maxHeartbeats 2000000 in
theorem c_here {h : am_H} (hW : Wd h) {tl : Nat} {tp : Nat → Nat} {a : Nat} (hA : TA h tl tp a)  : am_C 0 m_X9_here [.ref 1] h (some (.int (oN (sgn tl tp a))), h) := by
  obtain ⟨⟨hp0, hp1, hp2⟩, ha2, hatl⟩ := id hA
  by_cases hl : a < tl
  · rw [sgn_s hl]
    refine q_aln dX9_here_0 rfl ?_
    refine q_getI dX9_here_1 fl_X9_19 (ws_1 hW) rfl (by first | exact ha2 | exact hp0) ?_
    refine n_if_lt (tgt := 40) dX9_here_4 rfl (by omega) ?_
    refine q_aln dX9_here_7 rfl ?_
    refine q_getI dX9_here_8 fl_X9_19 (ws_1 hW) rfl (by first | exact ha2 | exact hp0) ?_
    refine q_aln dX9_here_11 rfl ?_
    refine q_getI dX9_here_12 fl_X9_15 (ws_1 hW) rfl (by first | exact ha2 | exact hp0) ?_
    refine f_ic_ge dX9_here_15 (tgt := 40) rfl (by exact nI_ge (by omega) (by omega)) ?_
    refine q_aln dX9_here_18 rfl ?_
    refine q_getI dX9_here_19 fl_X9_19 (ws_1 hW) rfl (by first | exact ha2 | exact hp0) ?_
    refine q_sp (v := nI 160) dX9_here_22 rfl ?_
    refine f_ic_ge dX9_here_25 (tgt := 40) rfl (by exact nI_ge (by omega) (by omega)) ?_
    refine q_aln dX9_here_28 rfl ?_
    refine q_getR dX9_here_29 fl_X9_11 (ws_1 hW) rfl (wp_1_0 hW) ?_
    refine q_aln dX9_here_32 rfl ?_
    refine q_getI dX9_here_33 fl_X9_19 (ws_1 hW) rfl (by first | exact ha2 | exact hp0) ?_
    refine q_ald dX9_here_36 (ws_2 hW) (by omega) (by omega) (hp2 _ (by omega)).1 ?_
    refine am_x_goto (tgt := 41) dX9_here_37 rfl ?_
    refine q_ir dX9_here_41 rfl ?_
    rfl
  · rw [sgn_n hl]
    refine q_aln dX9_here_0 rfl ?_
    refine q_getI dX9_here_1 fl_X9_19 (ws_1 hW) rfl (by first | exact ha2 | exact hp0) ?_
    refine n_if_lt (tgt := 40) dX9_here_4 rfl (by omega) ?_
    refine q_aln dX9_here_7 rfl ?_
    refine q_getI dX9_here_8 fl_X9_19 (ws_1 hW) rfl (by first | exact ha2 | exact hp0) ?_
    refine q_aln dX9_here_11 rfl ?_
    refine q_getI dX9_here_12 fl_X9_15 (ws_1 hW) rfl (by first | exact ha2 | exact hp0) ?_
    refine t_ic_ge 40 dX9_here_15 rfl (by exact nI_le (by omega) (by omega)) ?_
    refine q_ic (v := -1) dX9_here_40 rfl ?_
    refine q_ir dX9_here_41 rfl ?_
    rfl
set_option maxHeartbeats 2000000 in
theorem c_isDigit {h : am_H} {x : Option Nat} (hx : ∀ c, x = some c → c < 256) : am_C 0 m_X9_isDigit [.int (oN x)] h (some (.int (nI (if isDg x = true then 1 else 0))), h) := by
  cases x with
  | none =>
    refine q_iln dX9_isDigit_0 rfl ?_
    refine q_bp (v := nI 48) dX9_isDigit_1 rfl ?_
    refine t_ic_lt 16 dX9_isDigit_3 rfl (by decide +kernel) ?_
    refine q_ic (v := nI 0) dX9_isDigit_16 rfl ?_
    first | refine q_zrn dX9_isDigit_17 rfl (by first | omega | exact b2_le) ?_ | refine q_zr dX9_isDigit_17 rfl (by first | exact Or.inl rfl | exact Or.inr rfl | assumption) ?_
    rfl
  | some c =>
    have hc := hx c rfl
    show am_C 0 m_X9_isDigit [.int (nI c)] h _
    refine q_iln dX9_isDigit_0 rfl ?_
    refine q_bp (v := nI 48) dX9_isDigit_1 rfl ?_
    first | refine n_ic_lt 16 dX9_isDigit_3 rfl (by omega) (by omega) (fun c3 => ?_) (fun c3 => ?_) | refine b_ic_lt 16 dX9_isDigit_3 rfl (fun c3 => ?_) (fun c3 => ?_)
    · first
      | (exfalso; omega)
      | (refine q_ic (v := nI 0) dX9_isDigit_16 rfl ?_
         first | refine q_zrn dX9_isDigit_17 rfl (by first | omega | exact b2_le) ?_ | refine q_zr dX9_isDigit_17 rfl (by first | exact Or.inl rfl | exact Or.inr rfl | assumption) ?_
         (apply o_nI; first | rw [if_pos (isDg_iff.mpr (by omega))] | rw [if_neg (fun z => by have := isDg_iff.mp z; omega)]))
    · first
      | (exfalso; omega)
      | (refine q_iln dX9_isDigit_6 rfl ?_
         refine q_bp (v := nI 57) dX9_isDigit_7 rfl ?_
         first | refine n_ic_gt 16 dX9_isDigit_9 rfl (by omega) (by omega) (fun c9 => ?_) (fun c9 => ?_) | refine b_ic_gt 16 dX9_isDigit_9 rfl (fun c9 => ?_) (fun c9 => ?_)
         · first
           | (exfalso; omega)
           | (refine q_ic (v := nI 0) dX9_isDigit_16 rfl ?_
              first | refine q_zrn dX9_isDigit_17 rfl (by first | omega | exact b2_le) ?_ | refine q_zr dX9_isDigit_17 rfl (by first | exact Or.inl rfl | exact Or.inr rfl | assumption) ?_
              (apply o_nI; first | rw [if_pos (isDg_iff.mpr (by omega))] | rw [if_neg (fun z => by have := isDg_iff.mp z; omega)]))
         · first
           | (exfalso; omega)
           | (refine q_ic (v := nI 1) dX9_isDigit_12 rfl ?_
              refine am_x_goto (tgt := 17) dX9_isDigit_13 rfl ?_
              first | refine q_zrn dX9_isDigit_17 rfl (by first | omega | exact b2_le) ?_ | refine q_zr dX9_isDigit_17 rfl (by first | exact Or.inl rfl | exact Or.inr rfl | assumption) ?_
              (apply o_nI; first | rw [if_pos (isDg_iff.mpr (by omega))] | rw [if_neg (fun z => by have := isDg_iff.mp z; omega)])))
set_option maxHeartbeats 2000000 in
theorem c_step {h : am_H} (hW : Wd h) {tl : Nat} {tp : Nat → Nat} {a : Nat} (hA : TA h tl tp a)  : am_C 0 m_X9_step [.ref 1] h (none, am_wI h 1 2 (nI (a + 1))) := by
  obtain ⟨⟨hp0, hp1, hp2⟩, ha2, hatl⟩ := id hA
  refine q_aln dX9_step_0 rfl ?_
  refine am_x_pu dX9_step_1 rfl ?_
  refine q_getI dX9_step_2 fl_X9_19 (ws_1 hW) rfl (by first | assumption | rfl) ?_
  refine q_ic (v := nI 1) dX9_step_5 rfl ?_
  first | refine q_add dX9_step_6 ?_ | refine am_x_pu dX9_step_6 rfl ?_
  refine am_x_putI dX9_step_7 (fw_X9_19 rfl) (ws_1 hW) (Or.inl rfl) ?_
  refine q_vr dX9_step_10 rfl ?_
  rfl
set_option maxHeartbeats 2000000 in
theorem c_stepBack {h : am_H} (hW : Wd h) {tl : Nat} {tp : Nat → Nat} {a : Nat} (hA : TA h tl tp a) (h0 : 0 < a) : am_C 0 m_X9_stepBack [.ref 1] h (none, am_wI h 1 2 (nI (a - 1))) := by
  obtain ⟨⟨hp0, hp1, hp2⟩, ha2, hatl⟩ := id hA
  refine q_aln dX9_stepBack_0 rfl ?_
  refine am_x_pu dX9_stepBack_1 rfl ?_
  refine q_getI dX9_stepBack_2 fl_X9_19 (ws_1 hW) rfl (by first | assumption | rfl) ?_
  refine q_ic (v := nI 1) dX9_stepBack_5 rfl ?_
  first | refine q_sub dX9_stepBack_6 (by omega) ?_ | refine am_x_pu dX9_stepBack_6 rfl ?_
  refine am_x_putI dX9_stepBack_7 (fw_X9_19 rfl) (ws_1 hW) (Or.inl rfl) ?_
  refine q_vr dX9_stepBack_10 rfl ?_
  rfl
set_option maxHeartbeats 2000000 in
theorem c_rewind {h : am_H} (hW : Wd h)  : am_C 0 m_X9_rewind [.ref 1] h (none, am_wI h 1 2 (nI 0)) := by
  refine q_aln dX9_rewind_0 rfl ?_
  refine q_ic (v := nI 0) dX9_rewind_1 rfl ?_
  refine am_x_putI dX9_rewind_2 (fw_X9_19 rfl) (ws_1 hW) (Or.inl rfl) ?_
  refine q_vr dX9_rewind_5 rfl ?_
  rfl
set_option maxHeartbeats 2000000 in
theorem c_pass {h : am_H} (hW : Wd h) {tl : Nat} {tp : Nat → Nat} {a : Nat} (hA : TA h tl tp a) {c : Nat} (hc : c < 256) : am_D 1 m_X9_pass [.ref 1, .int (nI c)] h (fun v h2 => if sgn tl tp (nx tl tp a) = some c then v = some (.int (nI 1)) ∧ Fx [] [(1, 2)] h h2 ∧ TA h2 tl tp (nx tl tp a + 1) else v = some (.int (nI 0)) ∧ Fx [] [(1, 2)] h h2 ∧ TA h2 tl tp (nx tl tp a)) := by
  have h2 := sgn256 hA (nx tl tp a)
  by_cases he : sgn tl tp (nx tl tp a) = some c
  · simp only [if_pos he]
    refine Eq_aln dX9_pass_0 rfl ?_
    refine Eq_W0 (N := m_X9_next) dX9_pass_1 lk_X9_22 mV_X9_next (c_next hW hA) (by decide) (ws_1 hW) rfl (by decide) (Nat.le_of_ble_eq_true rfl) (Nat.le_of_ble_eq_true rfl) (fun vq hq1 hq2 => ?_)
    obtain ⟨rfl, hf1, hA1⟩ := hq2
    have hW1 := hf1.Wd hW
    obtain ⟨⟨hq0, hq3, hq4⟩, hb2, hbtl⟩ := id hA1
    refine Eq_iln dX9_pass_4 rfl ?_
    refine Et_ic_eq 10 dX9_pass_5 rfl (by rw [he]; rfl) ?_
    refine Eq_aln dX9_pass_10 rfl ?_
    refine Eam_x_pu dX9_pass_11 rfl ?_
    refine Eq_getI dX9_pass_12 fl_X9_19 (ws_1 hW1) rfl hb2 ?_
    refine Eq_ic (v := nI 1) dX9_pass_15 rfl ?_
    first | refine Eq_add dX9_pass_16 ?_ | refine Eam_x_pu dX9_pass_16 rfl ?_
    refine Eam_x_putI dX9_pass_17 (fw_X9_19 rfl) (ws_1 hW1) (Or.inl rfl) ?_
    refine Eq_ic (v := nI 1) dX9_pass_20 rfl ?_
    first | refine Eq_zrn dX9_pass_21 rfl (by first | omega | exact b2_le) ?_ | refine Eq_zr dX9_pass_21 rfl (by first | exact Or.inl rfl | exact Or.inr rfl | assumption) ?_
    exact ⟨rfl, hf1.tr (Fx.wI (Or.inr (by decide))), hA1.mv (by have := (sgn_lt he).1; omega)⟩
  · simp only [if_neg he]
    refine Eq_aln dX9_pass_0 rfl ?_
    refine Eq_W0 (N := m_X9_next) dX9_pass_1 lk_X9_22 mV_X9_next (c_next hW hA) (by decide) (ws_1 hW) rfl (by decide) (Nat.le_of_ble_eq_true rfl) (Nat.le_of_ble_eq_true rfl) (fun vq hq1 hq2 => ?_)
    obtain ⟨rfl, hf1, hA1⟩ := hq2
    have hW1 := hf1.Wd hW
    obtain ⟨⟨hq0, hq3, hq4⟩, hb2, hbtl⟩ := id hA1
    refine Eq_iln dX9_pass_4 rfl ?_
    refine Ef_ic_eq dX9_pass_5 (tgt := 10) rfl (by exact fun z => he ((oNlt (fun k hk => by have := h2 k hk; omega) c (by omega)).mp z)) ?_
    refine Eq_ic (v := nI 0) dX9_pass_8 rfl ?_
    first | refine Eq_zrn dX9_pass_9 rfl (by first | omega | exact b2_le) ?_ | refine Eq_zr dX9_pass_9 rfl (by first | exact Or.inl rfl | exact Or.inr rfl | assumption) ?_
    exact ⟨rfl, hf1, hA1⟩
set_option maxHeartbeats 2000000 in
theorem c_number_lp {tl : Nat} {tp : Nat → Nat} {d : Nat} (hd : d ≤ 4) : ∀ k j a v, j + k = d → v < 10 ^ j → ∀ h0, Wd h0 → TA h0 tl tp a → am_E 1 m_X9_number 16 [some (.ref 1), some (.int (nI d)), some (.int (nI v)), some (.int (nI j))] [] h0 (fun w h2 => w = some (.int (oN (if isDg (sgn tl tp (ndg tl tp k a v).1) = true then none else some (ndg tl tp k a v).2))) ∧ Fx [] [(1, 2)] h0 h2 ∧ TA h2 tl tp (ndg tl tp k a v).1) := by
  intro k
  induction k with
  | zero =>
    intro j a v hj hv h hW hA
    have pj : 10 ^ j ≤ 10 ^ 4 := Nat.pow_le_pow_right (by omega) (by omega)
    obtain ⟨⟨hp0, hp1, hp2⟩, ha2, hatl⟩ := id hA
    show am_E _ _ _ _ _ _ (fun w h2 => w = some (.int (oN (if isDg (sgn tl tp a) = true then none else some v))) ∧ Fx [] [(1, 2)] h h2 ∧ TA h2 tl tp a)
    by_cases hdg : isDg (sgn tl tp a) = true
    · have hl := isDg_at hdg
      rw [if_pos hdg]
      refine Eq_aln dX9_number_16 rfl ?_
      refine Eq_getI dX9_number_17 fl_X9_19 (ws_1 hW) rfl (by first | exact ha2 | exact hp0) ?_
      refine Eq_aln dX9_number_20 rfl ?_
      refine Eq_getI dX9_number_21 fl_X9_15 (ws_1 hW) rfl (by first | exact ha2 | exact hp0) ?_
      refine Ef_ic_ge dX9_number_24 (tgt := 73) rfl (by exact nI_ge (by omega) (by omega)) ?_
      refine Eq_aln dX9_number_27 rfl ?_
      refine Eq_V0 (N := m_X9_here) dX9_number_28 lk_X9_30 mV_X9_here (c_here hW hA) (by decide) (ws_1 hW) rfl (by decide) (Nat.le_of_ble_eq_true rfl) (Nat.le_of_ble_eq_true rfl) ?_
      refine Eq_S1 (N := m_X9_isDigit) dX9_number_31 lk_X9_26 mS_X9_isDigit (c_isDigit (sgn256 hA a)) (by decide) (Nat.le_of_ble_eq_true rfl) (Nat.le_of_ble_eq_true rfl) ?_
      refine Ef_if_eq dX9_number_34 (tgt := 73) rfl (by rw [if_pos hdg]; exact zf1) ?_
      refine Eq_iln dX9_number_37 rfl ?_
      refine Eq_iln dX9_number_38 rfl ?_
      refine Ef_ic_lt dX9_number_39 (tgt := 44) rfl (by exact nI_nlt (by omega) (by omega)) ?_
      refine Eq_ic (v := -1) dX9_number_42 rfl ?_
      refine Eq_ir dX9_number_43 rfl ?_
      exact ⟨rfl, Fx.rf, hA⟩
    · rw [if_neg hdg]
      by_cases hl : a < tl
      · refine Eq_aln dX9_number_16 rfl ?_
        refine Eq_getI dX9_number_17 fl_X9_19 (ws_1 hW) rfl (by first | exact ha2 | exact hp0) ?_
        refine Eq_aln dX9_number_20 rfl ?_
        refine Eq_getI dX9_number_21 fl_X9_15 (ws_1 hW) rfl (by first | exact ha2 | exact hp0) ?_
        refine Ef_ic_ge dX9_number_24 (tgt := 73) rfl (by exact nI_ge (by omega) (by omega)) ?_
        refine Eq_aln dX9_number_27 rfl ?_
        refine Eq_V0 (N := m_X9_here) dX9_number_28 lk_X9_30 mV_X9_here (c_here hW hA) (by decide) (ws_1 hW) rfl (by decide) (Nat.le_of_ble_eq_true rfl) (Nat.le_of_ble_eq_true rfl) ?_
        refine Eq_S1 (N := m_X9_isDigit) dX9_number_31 lk_X9_26 mS_X9_isDigit (c_isDigit (sgn256 hA a)) (by decide) (Nat.le_of_ble_eq_true rfl) (Nat.le_of_ble_eq_true rfl) ?_
        refine Et_if_eq 73 dX9_number_34 rfl (by rw [if_neg hdg]; rfl) ?_
        refine Eq_iln dX9_number_73 rfl ?_
        refine Eq_ir dX9_number_74 rfl ?_
        exact ⟨rfl, Fx.rf, hA⟩
      · refine Eq_aln dX9_number_16 rfl ?_
        refine Eq_getI dX9_number_17 fl_X9_19 (ws_1 hW) rfl (by first | exact ha2 | exact hp0) ?_
        refine Eq_aln dX9_number_20 rfl ?_
        refine Eq_getI dX9_number_21 fl_X9_15 (ws_1 hW) rfl (by first | exact ha2 | exact hp0) ?_
        refine Et_ic_ge 73 dX9_number_24 rfl (by exact nI_le (by omega) (by omega)) ?_
        refine Eq_iln dX9_number_73 rfl ?_
        refine Eq_ir dX9_number_74 rfl ?_
        exact ⟨rfl, Fx.rf, hA⟩
  | succ k ih =>
    intro j a v hj hv h hW hA
    have pj : 10 ^ j ≤ 10 ^ 4 := Nat.pow_le_pow_right (by omega) (by omega)
    obtain ⟨⟨hp0, hp1, hp2⟩, ha2, hatl⟩ := id hA
    by_cases hdg : isDg (sgn tl tp a) = true
    · have hl := isDg_at hdg
      rw [ndg_y hdg]
      have k1 : Fx [] [(1, 2)] h (am_wI h 1 2 (nI (a + 1))) := Fx.wI (Or.inr (by decide))
      obtain ⟨v2, h2, z1, z2, z3, z4⟩ := ih (j + 1) (a + 1) (v * 10 + (tp a - 48)) (by omega) (by rw [Nat.pow_succ]; omega) _ (k1.Wd hW) (hA.mv (by omega))
      refine ⟨v2, h2, ?_, z2, k1.tr z3, z4⟩
      rw [show v * 10 + (tp a - 48) = v * 10 + tp a - 48 by omega] at z1
      refine q_aln dX9_number_16 rfl ?_
      refine q_getI dX9_number_17 fl_X9_19 (ws_1 hW) rfl (by first | exact ha2 | exact hp0) ?_
      refine q_aln dX9_number_20 rfl ?_
      refine q_getI dX9_number_21 fl_X9_15 (ws_1 hW) rfl (by first | exact ha2 | exact hp0) ?_
      refine f_ic_ge dX9_number_24 (tgt := 73) rfl (by exact nI_ge (by omega) (by omega)) ?_
      refine q_aln dX9_number_27 rfl ?_
      refine q_V0 (N := m_X9_here) dX9_number_28 lk_X9_30 mV_X9_here (c_here hW hA) (by decide) (ws_1 hW) rfl (by decide) (Nat.le_of_ble_eq_true rfl) (Nat.le_of_ble_eq_true rfl) ?_
      refine q_S1 (N := m_X9_isDigit) dX9_number_31 lk_X9_26 mS_X9_isDigit (c_isDigit (sgn256 hA a)) (by decide) (Nat.le_of_ble_eq_true rfl) (Nat.le_of_ble_eq_true rfl) ?_
      refine f_if_eq dX9_number_34 (tgt := 73) rfl (by rw [if_pos hdg]; exact zf1) ?_
      refine q_iln dX9_number_37 rfl ?_
      refine q_iln dX9_number_38 rfl ?_
      refine t_ic_lt 44 dX9_number_39 rfl (by exact nI_lt (by omega) (by omega)) ?_
      refine q_iln dX9_number_44 rfl ?_
      refine q_bp (v := nI 10) dX9_number_45 rfl ?_
      first | refine q_mul dX9_number_47 ?_ | refine am_x_pu dX9_number_47 rfl ?_
      refine q_aln dX9_number_48 rfl ?_
      refine q_V0 (N := m_X9_here) dX9_number_49 lk_X9_30 mV_X9_here ((by have z := c_here hW hA; rw [sgn_s hl.1] at z; exact z)) (by decide) (ws_1 hW) rfl (by decide) (Nat.le_of_ble_eq_true rfl) (Nat.le_of_ble_eq_true rfl) ?_
      first | refine q_add dX9_number_52 ?_ | refine am_x_pu dX9_number_52 rfl ?_
      refine q_bp (v := nI 48) dX9_number_53 rfl ?_
      first | refine q_sub dX9_number_55 (by omega) ?_ | refine am_x_pu dX9_number_55 rfl ?_
      refine q_isn dX9_number_56 (by decide) ?_
      refine am_nl (pc' := 57) (l' := [_, _, _, _]) rfl rfl ?_
      refine q_aln dX9_number_57 rfl ?_
      refine am_x_pu dX9_number_58 rfl ?_
      refine q_getI dX9_number_59 fl_X9_19 (ws_1 hW) rfl (by first | exact ha2 | exact hp0) ?_
      refine q_ic (v := nI 1) dX9_number_62 rfl ?_
      first | refine q_add dX9_number_63 ?_ | refine am_x_pu dX9_number_63 rfl ?_
      refine am_x_putI dX9_number_64 (fw_X9_19 rfl) (ws_1 hW) (Or.inl rfl) ?_
      refine q_inc dX9_number_67 rfl (by decide) ?_
      refine am_nl (pc' := 70) (l' := [_, _, _, _]) rfl rfl ?_
      refine am_x_goto (tgt := 16) dX9_number_70 rfl ?_
      exact z1
    · rw [ndg_n hdg]
      show am_E _ _ _ _ _ _ (fun w h2 => w = some (.int (oN (if isDg (sgn tl tp a) = true then none else some v))) ∧ Fx [] [(1, 2)] h h2 ∧ TA h2 tl tp a)
      rw [if_neg hdg]
      by_cases hl : a < tl
      · refine Eq_aln dX9_number_16 rfl ?_
        refine Eq_getI dX9_number_17 fl_X9_19 (ws_1 hW) rfl (by first | exact ha2 | exact hp0) ?_
        refine Eq_aln dX9_number_20 rfl ?_
        refine Eq_getI dX9_number_21 fl_X9_15 (ws_1 hW) rfl (by first | exact ha2 | exact hp0) ?_
        refine Ef_ic_ge dX9_number_24 (tgt := 73) rfl (by exact nI_ge (by omega) (by omega)) ?_
        refine Eq_aln dX9_number_27 rfl ?_
        refine Eq_V0 (N := m_X9_here) dX9_number_28 lk_X9_30 mV_X9_here (c_here hW hA) (by decide) (ws_1 hW) rfl (by decide) (Nat.le_of_ble_eq_true rfl) (Nat.le_of_ble_eq_true rfl) ?_
        refine Eq_S1 (N := m_X9_isDigit) dX9_number_31 lk_X9_26 mS_X9_isDigit (c_isDigit (sgn256 hA a)) (by decide) (Nat.le_of_ble_eq_true rfl) (Nat.le_of_ble_eq_true rfl) ?_
        refine Et_if_eq 73 dX9_number_34 rfl (by rw [if_neg hdg]; rfl) ?_
        refine Eq_iln dX9_number_73 rfl ?_
        refine Eq_ir dX9_number_74 rfl ?_
        exact ⟨rfl, Fx.rf, hA⟩
      · refine Eq_aln dX9_number_16 rfl ?_
        refine Eq_getI dX9_number_17 fl_X9_19 (ws_1 hW) rfl (by first | exact ha2 | exact hp0) ?_
        refine Eq_aln dX9_number_20 rfl ?_
        refine Eq_getI dX9_number_21 fl_X9_15 (ws_1 hW) rfl (by first | exact ha2 | exact hp0) ?_
        refine Et_ic_ge 73 dX9_number_24 rfl (by exact nI_le (by omega) (by omega)) ?_
        refine Eq_iln dX9_number_73 rfl ?_
        refine Eq_ir dX9_number_74 rfl ?_
        exact ⟨rfl, Fx.rf, hA⟩
set_option maxHeartbeats 2000000 in
theorem c_number {h : am_H} (hW : Wd h) {tl : Nat} {tp : Nat → Nat} {a : Nat} (hA : TA h tl tp a) {d : Nat} (hd : d ≤ 4) : am_D 1 m_X9_number [.ref 1, .int (nI d)] h (fun w h2 => w = some (.int (oN (num tl tp d a).2)) ∧ Fx [] [(1, 2)] h h2 ∧ TA h2 tl tp (num tl tp d a).1) := by
  have h2 := sgn256 hA (nx tl tp a)
  unfold num
  by_cases hdg : isDg (sgn tl tp (nx tl tp a)) = true
  · rw [if_pos hdg]
    refine Eq_aln dX9_number_0 rfl ?_
    refine Eq_W0 (N := m_X9_next) dX9_number_1 lk_X9_22 mV_X9_next (c_next hW hA) (by decide) (ws_1 hW) rfl (by decide) (Nat.le_of_ble_eq_true rfl) (Nat.le_of_ble_eq_true rfl) (fun vq hq1 hq2 => ?_)
    obtain ⟨rfl, hf1, hA1⟩ := hq2
    have hW1 := hf1.Wd hW
    obtain ⟨⟨hq0, hq3, hq4⟩, hb2, hbtl⟩ := id hA1
    refine Eq_S1 (N := m_X9_isDigit) dX9_number_4 lk_X9_26 mS_X9_isDigit (c_isDigit h2) (by decide) (Nat.le_of_ble_eq_true rfl) (Nat.le_of_ble_eq_true rfl) ?_
    refine Et_if_ne 12 dX9_number_7 rfl (by rw [if_pos hdg]; exact zf1) ?_
    refine Eq_ic (v := nI 0) dX9_number_12 rfl ?_
    refine Eq_isn dX9_number_13 (by decide) ?_
    refine Eam_nl (pc' := 14) (l' := [_, _, _, _]) rfl rfl ?_
    refine Eq_ic (v := nI 0) dX9_number_14 rfl ?_
    refine Eq_isn dX9_number_15 (by decide) ?_
    refine Eam_nl (pc' := 16) (l' := [_, _, _, _]) rfl rfl ?_
    obtain ⟨v2, h3, z1, z2, z3, z4⟩ := c_number_lp hd d 0 (nx tl tp a) 0 (by omega) (by omega) _ hW1 hA1
    refine ⟨v2, h3, z1, ?_, hf1.tr z3, ?_⟩
    · rw [z2]; split <;> rfl
    · split <;> exact z4
  · rw [if_neg hdg]
    refine Eq_aln dX9_number_0 rfl ?_
    refine Eq_W0 (N := m_X9_next) dX9_number_1 lk_X9_22 mV_X9_next (c_next hW hA) (by decide) (ws_1 hW) rfl (by decide) (Nat.le_of_ble_eq_true rfl) (Nat.le_of_ble_eq_true rfl) (fun vq hq1 hq2 => ?_)
    obtain ⟨rfl, hf1, hA1⟩ := hq2
    have hW1 := hf1.Wd hW
    obtain ⟨⟨hq0, hq3, hq4⟩, hb2, hbtl⟩ := id hA1
    refine Eq_S1 (N := m_X9_isDigit) dX9_number_4 lk_X9_26 mS_X9_isDigit (c_isDigit h2) (by decide) (Nat.le_of_ble_eq_true rfl) (Nat.le_of_ble_eq_true rfl) ?_
    refine Ef_if_ne dX9_number_7 (tgt := 12) rfl (by rw [if_neg hdg]; rfl) ?_
    refine Eq_ic (v := -1) dX9_number_10 rfl ?_
    refine Eq_ir dX9_number_11 rfl ?_
    exact ⟨rfl, hf1, hA1⟩
set_option maxHeartbeats 2000000 in
theorem c_itemOf_lp {h : am_H} {x : Option Nat} (hx : ∀ c, x = some c → c < 256) : ∀ k j, j + k = 7 → (∀ i, i < j → x ≠ some (lt7 i)) → am_Sem 0 m_X2_itemOf 2 [some (.int (oN x)), some (.int (nI j))] [] h (some (.int (oN (itm x))), h) := by
  intro k
  induction k with
  | zero =>
    intro j hj hno
    have hj7 : j = 7 := by omega
    subst hj7
    rw [itm_no hno]
    refine q_iln dX2_itemOf_2 rfl ?_
    refine am_x_gs dX2_itemOf_3 gs_X2_72 ?_
    refine am_x_slen dX2_itemOf_6 (by decide) ?_
    refine t_ic_ge 27 dX2_itemOf_7 rfl (by decide +kernel) ?_
    refine q_ic (v := -1) dX2_itemOf_27 rfl ?_
    refine q_ir dX2_itemOf_28 rfl ?_
    rfl
  | succ k ih =>
    intro j hj hno
    have hlt := lt7_lt j
    by_cases he : x = some (lt7 j)
    · rw [he, itm_7 (by omega)]
      show am_Sem 0 m_X2_itemOf 2 [some (.int (nI (lt7 j))), some (.int (nI j))] [] h _
      refine q_iln dX2_itemOf_2 rfl ?_
      refine am_x_gs dX2_itemOf_3 gs_X2_72 ?_
      refine am_x_slen dX2_itemOf_6 (by decide) ?_
      refine f_ic_ge dX2_itemOf_7 (tgt := 27) rfl (by exact nI_ge (b := 7) (by omega) (by omega)) ?_
      refine am_x_gs dX2_itemOf_10 gs_X2_72 ?_
      refine q_iln dX2_itemOf_13 rfl ?_
      refine q_sld dX2_itemOf_14 (by decide) (show j < 7 by omega) (by decide) (sl1 (by omega)) ?_
      refine q_iln dX2_itemOf_15 rfl ?_
      refine f_ic_ne dX2_itemOf_16 (tgt := 21) rfl (by rfl) ?_
      refine q_iln dX2_itemOf_19 rfl ?_
      refine q_ir dX2_itemOf_20 rfl ?_
      rfl
    · refine q_iln dX2_itemOf_2 rfl ?_
      refine am_x_gs dX2_itemOf_3 gs_X2_72 ?_
      refine am_x_slen dX2_itemOf_6 (by decide) ?_
      refine f_ic_ge dX2_itemOf_7 (tgt := 27) rfl (by exact nI_ge (b := 7) (by omega) (by omega)) ?_
      refine am_x_gs dX2_itemOf_10 gs_X2_72 ?_
      refine q_iln dX2_itemOf_13 rfl ?_
      refine q_sld dX2_itemOf_14 (by decide) (show j < 7 by omega) (by decide) (sl1 (by omega)) ?_
      refine q_iln dX2_itemOf_15 rfl ?_
      refine t_ic_ne 21 dX2_itemOf_16 rfl (by exact fun z => he ((oNlt (fun k hk => by have := hx k hk; omega) _ (by omega)).mp z.symm)) ?_
      refine q_inc dX2_itemOf_21 rfl (by decide) ?_
      refine am_nl (pc' := 24) (l' := [_, _]) rfl rfl ?_
      refine am_x_goto (tgt := 2) dX2_itemOf_24 rfl ?_
      exact ih (j + 1) (by omega) (fun i hi => by by_cases e : i = j; (rw [e]; exact he); exact hno i (by omega))
set_option maxHeartbeats 2000000 in
theorem c_itemOf {h : am_H} {x : Option Nat} (hx : ∀ c, x = some c → c < 256) : am_C 0 m_X2_itemOf [.int (oN x)] h (some (.int (oN (itm x))), h) := by
  refine q_ic (v := nI 0) dX2_itemOf_0 rfl ?_
  refine q_isn dX2_itemOf_1 (by decide) ?_
  refine am_nl (pc' := 2) (l' := [_, _]) rfl rfl ?_
  exact c_itemOf_lp hx 7 0 (by omega) (fun i hi => by omega)
set_option maxHeartbeats 2000000 in
theorem c_has4 {h : am_H} (hW : Wd h) {N m : Nat} (hN : am_i h 4 0 = nI N) (h7 : N ≤ 7) (hm : m < N) : am_C 0 m_X5_has [.ref 4, .int (nI m)] h (some (.int (nI 1)), h) := by
  refine q_iln dX5_has_0 rfl ?_
  refine n_if_lt (tgt := 22) dX5_has_1 rfl (by omega) ?_
  refine q_iln dX5_has_4 rfl ?_
  refine q_aln dX5_has_5 rfl ?_
  refine q_getI dX5_has_6 fl_X5_9 (ws_4 hW) rfl (by first | assumption | rfl) ?_
  refine f_ic_ge dX5_has_9 (tgt := 22) rfl (by exact nI_ge (by omega) (by omega)) ?_
  refine q_iln dX5_has_12 rfl ?_
  refine q_bp (v := nI 7) dX5_has_13 rfl ?_
  refine f_ic_ge dX5_has_15 (tgt := 22) rfl (by exact nI_ge (by omega) (by omega)) ?_
  refine q_ic (v := nI 1) dX5_has_18 rfl ?_
  refine am_x_goto (tgt := 23) dX5_has_19 rfl ?_
  first | refine q_zrn dX5_has_23 rfl (by first | omega | exact b2_le) ?_ | refine q_zr dX5_has_23 rfl (by first | exact Or.inl rfl | exact Or.inr rfl | assumption) ?_
  rfl
set_option maxHeartbeats 2000000 in
theorem c_tell4 {h : am_H} (hW : Wd h) {N m i : Nat} {v : Int32} (hN : am_i h 4 0 = nI N) (h7 : N ≤ 7) (hm : m < N) (hi : i < 7) : am_C 1 m_X5_tell [.ref 4, .int (nI i), .int (nI m), .int v] h (none, am_wI h 5 (i * 7 + m) v) := by
  refine q_aln dX5_tell_0 rfl ?_
  refine q_iln dX5_tell_1 rfl ?_
  refine q_V1 (N := m_X5_has) dX5_tell_2 lk_X5_43 mV_X5_has (c_has4 hW hN h7 hm) (by decide) (ws_4 hW) rfl (by decide) (Nat.le_of_ble_eq_true rfl) (Nat.le_of_ble_eq_true rfl) ?_
  refine f_if_eq dX5_tell_5 (tgt := 30) rfl (by exact zf1) ?_
  refine q_iln dX5_tell_8 rfl ?_
  refine n_if_lt (tgt := 30) dX5_tell_9 rfl (by omega) ?_
  refine q_iln dX5_tell_12 rfl ?_
  refine q_bp (v := nI 7) dX5_tell_13 rfl ?_
  refine f_ic_ge dX5_tell_15 (tgt := 30) rfl (by exact nI_ge (by omega) (by omega)) ?_
  refine q_aln dX5_tell_18 rfl ?_
  refine q_getR dX5_tell_19 fl_X5_19 (ws_4 hW) rfl (wp_4_2 hW) ?_
  refine q_iln dX5_tell_22 rfl ?_
  refine q_bp (v := nI 7) dX5_tell_23 rfl ?_
  first | refine q_mul dX5_tell_25 ?_ | refine am_x_pu dX5_tell_25 rfl ?_
  refine q_iln dX5_tell_26 rfl ?_
  first | refine q_add dX5_tell_27 ?_ | refine am_x_pu dX5_tell_27 rfl ?_
  refine q_iln dX5_tell_28 rfl ?_
  refine q_ast dX5_tell_29 (ws_5 hW) (by omega) (by omega) ?_
  refine q_vr dX5_tell_30 rfl ?_
  rfl
set_option maxHeartbeats 2000000 in
theorem c_fact4 {h : am_H} (hW : Wd h) {N m i : Nat} {v : Int32} (hN : am_i h 4 0 = nI N) (h7 : N ≤ 7) (hm : m < N) (hi : i < 7) (hv : am_i h 5 (i * 7 + m) = v) : am_C 0 m_X5_fact [.ref 4, .int (nI i), .int (nI m)] h (some (.int v), h) := by
  refine q_iln dX5_fact_0 rfl ?_
  refine n_if_lt (tgt := 22) dX5_fact_1 rfl (by omega) ?_
  refine q_iln dX5_fact_4 rfl ?_
  refine q_aln dX5_fact_5 rfl ?_
  refine q_getI dX5_fact_6 fl_X5_9 (ws_4 hW) rfl (by first | assumption | rfl) ?_
  first | refine n_ic_ge 22 dX5_fact_9 rfl (by omega) (by omega) (fun c9 => ?_) (fun c9 => ?_) | refine b_ic_ge 22 dX5_fact_9 rfl (fun c9 => ?_) (fun c9 => ?_)
  · first
    | (exfalso; omega)
    | (refine q_ic (v := nI 0) dX5_fact_22 rfl ?_
       refine q_isn dX5_fact_23 (by decide) ?_
       refine am_nl (pc' := 24) (l' := [_, _, _, _]) rfl rfl ?_
       refine q_iln dX5_fact_24 rfl ?_
       first | refine n_if_eq 52 dX5_fact_25 rfl (by omega) (fun c25 => ?_) (fun c25 => ?_) | refine b_if_eq 52 dX5_fact_25 rfl (fun c25 => ?_) (fun c25 => ?_)
       · first
         | (exfalso; omega)
         | (refine q_ic (v := -1) dX5_fact_52 rfl ?_
            refine q_ir dX5_fact_53 rfl ?_
            rfl)
       · first
         | (exfalso; omega)
         | (refine q_iln dX5_fact_28 rfl ?_
            refine n_if_lt (tgt := 52) dX5_fact_29 rfl (by omega) ?_
            refine q_iln dX5_fact_32 rfl ?_
            refine q_bp (v := nI 7) dX5_fact_33 rfl ?_
            first | refine n_ic_ge 52 dX5_fact_35 rfl (by omega) (by omega) (fun c35 => ?_) (fun c35 => ?_) | refine b_ic_ge 52 dX5_fact_35 rfl (fun c35 => ?_) (fun c35 => ?_)
            · first
              | (exfalso; omega)
              | (refine q_ic (v := -1) dX5_fact_52 rfl ?_
                 refine q_ir dX5_fact_53 rfl ?_
                 rfl)
            · first
              | (exfalso; omega)
              | (refine q_aln dX5_fact_38 rfl ?_
                 refine q_getR dX5_fact_39 fl_X5_19 (ws_4 hW) rfl (wp_4_2 hW) ?_
                 refine q_iln dX5_fact_42 rfl ?_
                 refine q_bp (v := nI 7) dX5_fact_43 rfl ?_
                 first | refine q_mul dX5_fact_45 ?_ | refine am_x_pu dX5_fact_45 rfl ?_
                 refine q_iln dX5_fact_46 rfl ?_
                 first | refine q_add dX5_fact_47 ?_ | refine am_x_pu dX5_fact_47 rfl ?_
                 refine q_ald dX5_fact_48 (ws_5 hW) (by omega) (by omega) hv ?_
                 refine am_x_goto (tgt := 53) dX5_fact_49 rfl ?_
                 refine q_ir dX5_fact_53 rfl ?_
                 rfl)))
  · first
    | (exfalso; omega)
    | (refine q_iln dX5_fact_12 rfl ?_
       refine q_bp (v := nI 7) dX5_fact_13 rfl ?_
       first | refine n_ic_ge 22 dX5_fact_15 rfl (by omega) (by omega) (fun c15 => ?_) (fun c15 => ?_) | refine b_ic_ge 22 dX5_fact_15 rfl (fun c15 => ?_) (fun c15 => ?_)
       · first
         | (exfalso; omega)
         | (refine q_ic (v := nI 0) dX5_fact_22 rfl ?_
            refine q_isn dX5_fact_23 (by decide) ?_
            refine am_nl (pc' := 24) (l' := [_, _, _, _]) rfl rfl ?_
            refine q_iln dX5_fact_24 rfl ?_
            first | refine n_if_eq 52 dX5_fact_25 rfl (by omega) (fun c25 => ?_) (fun c25 => ?_) | refine b_if_eq 52 dX5_fact_25 rfl (fun c25 => ?_) (fun c25 => ?_)
            · first
              | (exfalso; omega)
              | (refine q_ic (v := -1) dX5_fact_52 rfl ?_
                 refine q_ir dX5_fact_53 rfl ?_
                 rfl)
            · first
              | (exfalso; omega)
              | (refine q_iln dX5_fact_28 rfl ?_
                 refine n_if_lt (tgt := 52) dX5_fact_29 rfl (by omega) ?_
                 refine q_iln dX5_fact_32 rfl ?_
                 refine q_bp (v := nI 7) dX5_fact_33 rfl ?_
                 first | refine n_ic_ge 52 dX5_fact_35 rfl (by omega) (by omega) (fun c35 => ?_) (fun c35 => ?_) | refine b_ic_ge 52 dX5_fact_35 rfl (fun c35 => ?_) (fun c35 => ?_)
                 · first
                   | (exfalso; omega)
                   | (refine q_ic (v := -1) dX5_fact_52 rfl ?_
                      refine q_ir dX5_fact_53 rfl ?_
                      rfl)
                 · first
                   | (exfalso; omega)
                   | (refine q_aln dX5_fact_38 rfl ?_
                      refine q_getR dX5_fact_39 fl_X5_19 (ws_4 hW) rfl (wp_4_2 hW) ?_
                      refine q_iln dX5_fact_42 rfl ?_
                      refine q_bp (v := nI 7) dX5_fact_43 rfl ?_
                      first | refine q_mul dX5_fact_45 ?_ | refine am_x_pu dX5_fact_45 rfl ?_
                      refine q_iln dX5_fact_46 rfl ?_
                      first | refine q_add dX5_fact_47 ?_ | refine am_x_pu dX5_fact_47 rfl ?_
                      refine q_ald dX5_fact_48 (ws_5 hW) (by omega) (by omega) hv ?_
                      refine am_x_goto (tgt := 53) dX5_fact_49 rfl ?_
                      refine q_ir dX5_fact_53 rfl ?_
                      rfl)))
       · first
         | (exfalso; omega)
         | (refine q_ic (v := nI 1) dX5_fact_18 rfl ?_
            refine am_x_goto (tgt := 23) dX5_fact_19 rfl ?_
            refine q_isn dX5_fact_23 (by decide) ?_
            refine am_nl (pc' := 24) (l' := [_, _, _, _]) rfl rfl ?_
            refine q_iln dX5_fact_24 rfl ?_
            first | refine n_if_eq 52 dX5_fact_25 rfl (by omega) (fun c25 => ?_) (fun c25 => ?_) | refine b_if_eq 52 dX5_fact_25 rfl (fun c25 => ?_) (fun c25 => ?_)
            · first
              | (exfalso; omega)
              | (refine q_ic (v := -1) dX5_fact_52 rfl ?_
                 refine q_ir dX5_fact_53 rfl ?_
                 rfl)
            · first
              | (exfalso; omega)
              | (refine q_iln dX5_fact_28 rfl ?_
                 refine n_if_lt (tgt := 52) dX5_fact_29 rfl (by omega) ?_
                 refine q_iln dX5_fact_32 rfl ?_
                 refine q_bp (v := nI 7) dX5_fact_33 rfl ?_
                 first | refine n_ic_ge 52 dX5_fact_35 rfl (by omega) (by omega) (fun c35 => ?_) (fun c35 => ?_) | refine b_ic_ge 52 dX5_fact_35 rfl (fun c35 => ?_) (fun c35 => ?_)
                 · first
                   | (exfalso; omega)
                   | (refine q_ic (v := -1) dX5_fact_52 rfl ?_
                      refine q_ir dX5_fact_53 rfl ?_
                      rfl)
                 · first
                   | (exfalso; omega)
                   | (refine q_aln dX5_fact_38 rfl ?_
                      refine q_getR dX5_fact_39 fl_X5_19 (ws_4 hW) rfl (wp_4_2 hW) ?_
                      refine q_iln dX5_fact_42 rfl ?_
                      refine q_bp (v := nI 7) dX5_fact_43 rfl ?_
                      first | refine q_mul dX5_fact_45 ?_ | refine am_x_pu dX5_fact_45 rfl ?_
                      refine q_iln dX5_fact_46 rfl ?_
                      first | refine q_add dX5_fact_47 ?_ | refine am_x_pu dX5_fact_47 rfl ?_
                      refine q_ald dX5_fact_48 (ws_5 hW) (by omega) (by omega) hv ?_
                      refine am_x_goto (tgt := 53) dX5_fact_49 rfl ?_
                      refine q_ir dX5_fact_53 rfl ?_
                      rfl))))
set_option maxHeartbeats 2000000 in
theorem c_readValue {h : am_H} (hW : Wd h) {tl : Nat} {tp : Nat → Nat} {a : Nat} (hA : TA h tl tp a) {N i : Nat} (hN : am_i h 4 0 = nI N) (h0 : 0 < N) (h7 : N ≤ 7) (hi : i < 7) : am_D 2 m_X2_readValue [.ref 3, .int (nI i)] h (fun w h2 => match (vlu tl tp i a).2 with
    | none => w = some (.int (nI 0)) ∧ Fx [5] [(1, 2)] h h2 ∧ TA h2 tl tp (vlu tl tp i a).1
    | some v => w = some (.int (nI 1)) ∧ Fx [5] [(1, 2)] h h2 ∧ TA h2 tl tp (vlu tl tp i a).1 ∧ ∀ k, am_i h2 5 k = if k = i * 7 + (N - 1) then nI v else am_i h 5 k) := by
  have hm9 := most99 i
  have hv0 := vlu_le (tp := tp) (i := i) hA.2.2
  have hnl := num_le (tp := tp) (d := 2) hA.2.2
  cases hq : (num tl tp 2 a).2 with
  | none =>
    rw [vlu_n hq]
    refine Eq_aln dX2_readValue_0 rfl ?_
    refine Eq_getR dX2_readValue_1 fl_X2_9 (ws_3 hW) rfl (wp_3_0 hW) ?_
    refine Eq_ic (v := nI 2) dX2_readValue_4 rfl ?_
    refine Eq_W1 (N := m_X9_number) dX2_readValue_5 lk_X2_76 mV_X9_number ((by have z := c_number hW hA (d := 2) (by omega); rw [hq] at z; exact z)) (by decide) (ws_1 hW) rfl (by decide) (Nat.le_of_ble_eq_true rfl) (Nat.le_of_ble_eq_true rfl) (fun vq hq1 hq2 => ?_)
    obtain ⟨rfl, hf1, hA1⟩ := hq2
    have hW1 := hf1.Wd hW
    have hN1 : am_i hq1 4 0 = nI N := (hf1.i (by decide) (by decide)).trans hN
    refine Eq_isn dX2_readValue_8 (by decide) ?_
    refine Eam_nl (pc' := 9) (l' := [_, _, _]) rfl rfl ?_
    refine Eq_iln dX2_readValue_9 rfl ?_
    refine Eq_ic (v := -1) dX2_readValue_10 rfl ?_
    refine Ef_ic_ne dX2_readValue_11 (tgt := 16) rfl (by rfl) ?_
    refine Eq_ic (v := nI 0) dX2_readValue_14 rfl ?_
    first | refine Eq_zrn dX2_readValue_15 rfl (by first | omega | exact b2_le) ?_ | refine Eq_zr dX2_readValue_15 rfl (by first | exact Or.inl rfl | exact Or.inr rfl | assumption) ?_
    exact ⟨rfl, hf1.mono (by decide) (by decide), hA1⟩
  | some v =>
    have hvl := (hnl.2.2 v hq).1
    by_cases hv : v ≤ most i
    · rw [vlu_y hq hv]
      refine Eq_aln dX2_readValue_0 rfl ?_
      refine Eq_getR dX2_readValue_1 fl_X2_9 (ws_3 hW) rfl (wp_3_0 hW) ?_
      refine Eq_ic (v := nI 2) dX2_readValue_4 rfl ?_
      refine Eq_W1 (N := m_X9_number) dX2_readValue_5 lk_X2_76 mV_X9_number ((by have z := c_number hW hA (d := 2) (by omega); rw [hq] at z; exact z)) (by decide) (ws_1 hW) rfl (by decide) (Nat.le_of_ble_eq_true rfl) (Nat.le_of_ble_eq_true rfl) (fun vq hq1 hq2 => ?_)
      obtain ⟨rfl, hf1, hA1⟩ := hq2
      have hW1 := hf1.Wd hW
      have hN1 : am_i hq1 4 0 = nI N := (hf1.i (by decide) (by decide)).trans hN
      refine Eq_isn dX2_readValue_8 (by decide) ?_
      refine Eam_nl (pc' := 9) (l' := [_, _, _]) rfl rfl ?_
      refine Eq_iln dX2_readValue_9 rfl ?_
      refine Eq_ic (v := -1) dX2_readValue_10 rfl ?_
      refine Et_ic_ne 16 dX2_readValue_11 rfl (by exact nI_m1 (by omega)) ?_
      refine Eq_iln dX2_readValue_16 rfl ?_
      refine Eq_iln dX2_readValue_17 rfl ?_
      refine Eq_S1 (N := m_X5_mostOf) dX2_readValue_18 lk_X2_79 mS_X5_mostOf (c_mostOf hi) (by decide) (Nat.le_of_ble_eq_true rfl) (Nat.le_of_ble_eq_true rfl) ?_
      refine Et_ic_le 33 dX2_readValue_21 rfl (by exact nI_le (by omega) (by omega)) ?_
      refine Eq_aln dX2_readValue_33 rfl ?_
      refine Eq_getR dX2_readValue_34 fl_X2_18 (ws_3 hW1) rfl (wp_3_1 hW1) ?_
      refine Eq_iln dX2_readValue_37 rfl ?_
      refine Eq_aln dX2_readValue_38 rfl ?_
      refine Eq_getR dX2_readValue_39 fl_X2_18 (ws_3 hW1) rfl (wp_3_1 hW1) ?_
      refine Eq_getI dX2_readValue_42 fl_X2_42 (ws_4 hW1) rfl hN1 ?_
      refine Eq_ic (v := nI 1) dX2_readValue_45 rfl ?_
      first | refine Eq_sub dX2_readValue_46 (by omega) ?_ | refine Eam_x_pu dX2_readValue_46 rfl ?_
      refine Eq_iln dX2_readValue_47 rfl ?_
      refine Eq_V3 (N := m_X5_tell) dX2_readValue_48 lk_X2_85 mV_X5_tell (c_tell4 hW1 hN1 h7 (by omega) hi) (by decide) (ws_4 hW1) rfl (by decide) (Nat.le_of_ble_eq_true rfl) (Nat.le_of_ble_eq_true rfl) ?_
      refine Eq_ic (v := nI 1) dX2_readValue_51 rfl ?_
      first | refine Eq_zrn dX2_readValue_52 rfl (by first | omega | exact b2_le) ?_ | refine Eq_zr dX2_readValue_52 rfl (by first | exact Or.inl rfl | exact Or.inr rfl | assumption) ?_
      exact ⟨rfl, (hf1.mono (by decide) (by decide)).tr (Fx.wI (Or.inl (by decide))), hA1.fx (Fx.wI (A := [5]) (B := []) (Or.inl (by decide))) (by decide), fun k => by rw [wI_eq, hf1.ia (r := 5) (by decide) (by decide)]; rfl⟩
    · rw [vlu_o hq hv]
      have hp := hv0.2.2 v hq
      refine Eq_aln dX2_readValue_0 rfl ?_
      refine Eq_getR dX2_readValue_1 fl_X2_9 (ws_3 hW) rfl (wp_3_0 hW) ?_
      refine Eq_ic (v := nI 2) dX2_readValue_4 rfl ?_
      refine Eq_W1 (N := m_X9_number) dX2_readValue_5 lk_X2_76 mV_X9_number ((by have z := c_number hW hA (d := 2) (by omega); rw [hq] at z; exact z)) (by decide) (ws_1 hW) rfl (by decide) (Nat.le_of_ble_eq_true rfl) (Nat.le_of_ble_eq_true rfl) (fun vq hq1 hq2 => ?_)
      obtain ⟨rfl, hf1, hA1⟩ := hq2
      have hW1 := hf1.Wd hW
      have hN1 : am_i hq1 4 0 = nI N := (hf1.i (by decide) (by decide)).trans hN
      refine Eq_isn dX2_readValue_8 (by decide) ?_
      refine Eam_nl (pc' := 9) (l' := [_, _, _]) rfl rfl ?_
      refine Eq_iln dX2_readValue_9 rfl ?_
      refine Eq_ic (v := -1) dX2_readValue_10 rfl ?_
      refine Et_ic_ne 16 dX2_readValue_11 rfl (by exact nI_m1 (by omega)) ?_
      refine Eq_iln dX2_readValue_16 rfl ?_
      refine Eq_iln dX2_readValue_17 rfl ?_
      refine Eq_S1 (N := m_X5_mostOf) dX2_readValue_18 lk_X2_79 mS_X5_mostOf (c_mostOf hi) (by decide) (Nat.le_of_ble_eq_true rfl) (Nat.le_of_ble_eq_true rfl) ?_
      refine Ef_ic_le dX2_readValue_21 (tgt := 33) rfl (by exact fun z => hv ((nI_leI (by omega) (by omega)).mp z)) ?_
      refine Eq_aln dX2_readValue_24 rfl ?_
      refine Eq_getR dX2_readValue_25 fl_X2_9 (ws_3 hW1) rfl (wp_3_0 hW1) ?_
      refine Eq_V0 (N := m_X9_stepBack) dX2_readValue_28 lk_X2_82 mV_X9_stepBack (c_stepBack hW1 hA1 hp) (by decide) (ws_1 hW1) rfl (by decide) (Nat.le_of_ble_eq_true rfl) (Nat.le_of_ble_eq_true rfl) ?_
      refine Eq_ic (v := nI 0) dX2_readValue_31 rfl ?_
      first | refine Eq_zrn dX2_readValue_32 rfl (by first | omega | exact b2_le) ?_ | refine Eq_zr dX2_readValue_32 rfl (by first | exact Or.inl rfl | exact Or.inr rfl | assumption) ?_
      exact ⟨rfl, (hf1.mono (by decide) (by decide)).tr (Fx.wI (Or.inr (by decide))), hA1.mv (by have := hnl.2.1; omega)⟩
/-- the draft -/
def DX (h : am_H) (N : Nat) (g : Bool) (F : Nat → Nat → Nat) : Prop := am_i h 4 0 = nI N ∧ am_i h 4 1 = nI (if g = true then 1 else 0) ∧ N ≤ 7 ∧ (∀ i m, i < 7 → m < N → am_i h 5 (i * 7 + m) = nI (F i m)) ∧ ∀ i m, m < N → F i m ≤ most i
theorem DX.fx {A : List Nat} {B : List (Nat × Nat)} {h h' : am_H} {n : Nat} {g : Bool} {F : Nat → Nat → Nat} (m : DX h n g F) (a : Fx A B h h') (ok : 4 ∉ A ∧ 5 ∉ A ∧ (4, 0) ∉ B ∧ (4, 1) ∉ B ∧ 5 ∉ B.map Prod.fst) : DX h' n g F := by
  unfold DX at m ⊢
  rw [a.i ok.1 ok.2.2.1, a.i ok.1 ok.2.2.2.1, a.ia ok.2.1 ok.2.2.2.2]
  exact m
theorem DX.mx {h : am_H} {n : Nat} {g : Bool} {F : Nat → Nat → Nat} (m : DX h n g F) : MX 4 5 h n g F := ⟨m.1, m.2.1, m.2.2.1, fun i k hi hk => ⟨m.2.2.2.1 i k hi hk, Nat.le_trans (m.2.2.2.2 i k hk) (most99 i)⟩, fun k hk => ⟨m.2.2.2.2 0 k hk, m.2.2.2.2 3 k hk, m.2.2.2.2 4 k hk, m.2.2.2.2 1 k hk, m.2.2.2.2 5 k hk⟩⟩
/-- a column put in -/
def col (F : Nat → Nat → Nat) (N : Nat) (G : Nat → Nat) : Nat → Nat → Nat := fun i m => if m = N then G i else F i m
theorem DX.put {h : am_H} {N i v : Nat} {g : Bool} {F : Nat → Nat → Nat} {G : Nat → Nat} {h2 : am_H} (hD : DX h (N + 1) g (col F N G)) (hv : v ≤ most i) (h4 : am_i h2 4 0 = am_i h 4 0) (h41 : am_i h2 4 1 = am_i h 4 1) (h5 : ∀ k, am_i h2 5 k = if k = i * 7 + (N + 1 - 1) then nI v else am_i h 5 k) : DX h2 (N + 1) g (col F N (up1 G i v)) := by
  have h7 := hD.2.2.1
  refine ⟨h4.trans hD.1, h41.trans hD.2.1, hD.2.2.1, fun q m hq hm => ?_, fun q m hm => ?_⟩
  · rw [h5, hD.2.2.2.1 q m hq hm]
    show _ = nI (if m = N then up1 G i v q else F q m)
    by_cases e : q * 7 + m = i * 7 + (N + 1 - 1)
    · have e1 : q = i := by omega
      have e2 : m = N := by omega
      rw [if_pos e, if_pos e2, e1, up1_eq]
    · rw [if_neg e]
      by_cases e2 : m = N
      · have e3 : q ≠ i := fun z => e (by omega)
        simp only [col]
        rw [if_pos e2, if_pos e2, up1_ne e3]
      · simp only [col]
        rw [if_neg e2, if_neg e2]
  · show (if m = N then up1 G i v q else F q m) ≤ most q
    have := hD.2.2.2.2 q m hm
    simp only [col] at this
    by_cases e : m = N
    · rw [if_pos e] at this ⊢
      by_cases e3 : q = i
      · rw [e3, up1_eq]; exact hv
      · rw [up1_ne e3]; exact this
    · rw [if_neg e] at this ⊢
      exact this
set_option maxHeartbeats 2000000 in
theorem c_addUsual_lp {N : Nat} (h7 : N < 7) {h0 : am_H} : ∀ k j, j + k = 7 → ∀ h, Wd h → am_i h 4 0 = nI (N + 1) → Fx [5] [(4, 0)] h0 h → (∀ i m, i < 7 → m < 7 → am_i h 5 (i * 7 + m) = if m = N ∧ i < j then nI (usu i) else am_i h0 5 (i * 7 + m)) → am_E 2 m_X5_addUsual 22 [some (.ref 4), some (.int (nI j))] [] h (fun v h2 => v = none ∧ Fx [5] [(4, 0)] h0 h2 ∧ am_i h2 4 0 = nI (N + 1) ∧ ∀ i m, i < 7 → m < 7 → am_i h2 5 (i * 7 + m) = if m = N then nI (usu i) else am_i h0 5 (i * 7 + m)) := by
  intro k
  induction k with
  | zero =>
    intro j hj h hW hN hf hc
    have hj7 : j = 7 := by omega
    subst hj7
    refine Eq_iln dX5_addUsual_22 rfl ?_
    refine Eam_x_gs dX5_addUsual_23 gs_X5_26 ?_
    refine Eam_x_slen dX5_addUsual_26 (by decide) ?_
    refine Et_ic_ge 52 dX5_addUsual_27 rfl (by decide +kernel) ?_
    refine Eq_vr dX5_addUsual_52 rfl ?_
    exact ⟨rfl, hf, hN, fun i m hi hm => by rw [hc i m hi hm]; simp [hi]⟩
  | succ k ih =>
    intro j hj h hW hN hf hc
    have k1 : Fx [5] [(4, 0)] h (am_wI h 5 (j * 7 + (N + 1 - 1)) (nI (usu j))) := Fx.wI (Or.inl (by decide))
    have k2 := ih (j + 1) (by omega) _ (k1.Wd hW) ((by rw [wI_ne (by decide)]; exact hN)) (hf.tr k1) (fun i m hi hm => by
      rw [wI_eq, hc i m hi hm]
      by_cases e : i * 7 + m = j * 7 + (N + 1 - 1)
      · have e1 : i = j := by omega
        have e2 : m = N := by omega
        rw [if_pos e, if_pos ⟨e2, by omega⟩, e1]
      · rw [if_neg e]
        by_cases e2 : m = N
        · have e3 : i ≠ j := fun z => e (by omega)
          by_cases e4 : i < j
          · rw [if_pos ⟨e2, e4⟩, if_pos ⟨e2, by omega⟩]
          · rw [if_neg (fun z => e4 z.2), if_neg (fun z => by have := z.2; omega)]
        · rw [if_neg (fun z => e2 z.1), if_neg (fun z => e2 z.1)])
    refine Eq_iln dX5_addUsual_22 rfl ?_
    refine Eam_x_gs dX5_addUsual_23 gs_X5_26 ?_
    refine Eam_x_slen dX5_addUsual_26 (by decide) ?_
    refine Ef_ic_ge dX5_addUsual_27 (tgt := 52) rfl (by exact nI_ge (b := 7) (by omega) (by omega)) ?_
    refine Eq_aln dX5_addUsual_30 rfl ?_
    refine Eq_iln dX5_addUsual_31 rfl ?_
    refine Eq_aln dX5_addUsual_32 rfl ?_
    refine Eq_getI dX5_addUsual_33 fl_X5_9 (ws_4 hW) rfl hN ?_
    refine Eq_ic (v := nI 1) dX5_addUsual_36 rfl ?_
    first | refine Eq_sub dX5_addUsual_37 (by omega) ?_ | refine Eam_x_pu dX5_addUsual_37 rfl ?_
    refine Eam_x_gs dX5_addUsual_38 gs_X5_26 ?_
    refine Eq_iln dX5_addUsual_41 rfl ?_
    refine Eq_sld dX5_addUsual_42 (by decide) (show j < 7 by omega) (by decide) (sl3 (by omega)) ?_
    refine Eq_V3 (N := m_X5_tell) dX5_addUsual_43 lk_X5_29 mV_X5_tell (c_tell4 hW hN (by omega) (by omega) (by omega)) (by decide) (ws_4 hW) rfl (by decide) (Nat.le_of_ble_eq_true rfl) (Nat.le_of_ble_eq_true rfl) ?_
    refine Eq_inc dX5_addUsual_46 rfl (by decide) ?_
    refine Eam_nl (pc' := 49) (l' := [_, _]) rfl rfl ?_
    refine Eam_x_goto (tgt := 22) dX5_addUsual_49 rfl ?_
    exact k2
set_option maxHeartbeats 2000000 in
theorem c_addUsual {h : am_H} (hW : Wd h) {N : Nat} {g : Bool} {F : Nat → Nat → Nat} (hD : DX h N g F) (h7 : N < 7) : am_D 2 m_X5_addUsual [.ref 4] h (fun v h2 => v = none ∧ Fx [5] [(4, 0)] h h2 ∧ DX h2 (N + 1) g (col F N usu)) := by
  obtain ⟨hN, hg, _, hF, hB⟩ := id hD
  have k1 : Fx [5] [(4, 0)] h (am_wI h 4 0 (nI (N + 1))) := Fx.wI (Or.inr (by decide))
  obtain ⟨v, h2, z1, z2, z3, z4, z5⟩ := c_addUsual_lp h7 (h0 := h) 7 0 (by omega) _ (k1.Wd hW) (by rw [wI_eq, if_pos rfl]) k1 (fun i m _ _ => by rw [wI_ne (by decide), if_neg (by omega)])
  refine ⟨v, h2, ?_, z2, z3, z4, ?_, by omega, ?_, ?_⟩
  · refine q_aln dX5_addUsual_0 rfl ?_
    refine q_getI dX5_addUsual_1 fl_X5_9 (ws_4 hW) rfl hN ?_
    refine q_bp (v := nI 7) dX5_addUsual_4 rfl ?_
    refine t_ic_lt 10 dX5_addUsual_6 rfl (by exact nI_lt (by omega) (by omega)) ?_
    refine q_aln dX5_addUsual_10 rfl ?_
    refine am_x_pu dX5_addUsual_11 rfl ?_
    refine q_getI dX5_addUsual_12 fl_X5_9 (ws_4 hW) rfl hN ?_
    refine q_ic (v := nI 1) dX5_addUsual_15 rfl ?_
    first | refine q_add dX5_addUsual_16 ?_ | refine am_x_pu dX5_addUsual_16 rfl ?_
    refine am_x_putI dX5_addUsual_17 (fw_X5_9 rfl) (ws_4 hW) (Or.inl rfl) ?_
    refine q_ic (v := nI 0) dX5_addUsual_20 rfl ?_
    refine q_isn dX5_addUsual_21 (by decide) ?_
    refine am_nl (pc' := 22) (l' := [_, _]) rfl rfl ?_
    exact z1
  · rw [z3.i (by decide) (by decide)]; exact hg
  · intro i m hi hm
    rw [z5 i m hi (by omega)]
    show _ = nI (if m = N then usu i else F i m)
    by_cases e : m = N
    · rw [if_pos e, if_pos e]
    · rw [if_neg e, if_neg e]; exact hF i m hi (by omega)
  · intro i m hm
    show (if m = N then usu i else F i m) ≤ most i
    by_cases e : m = N
    · rw [if_pos e]; exact usu_most
    · rw [if_neg e]; exact hB i m (by omega)
set_option maxHeartbeats 2000000 in
theorem c_readItems_lp {tl : Nat} {tp : Nat → Nat} {N : Nat} (h7 : N < 7) {g : Bool} {F : Nat → Nat → Nat} : ∀ k j seen a G, j + k = 8 → seen < 128 → (∀ i, G i ≤ most i) → ∀ h, Wd h → TA h tl tp a → DX h (N + 1) g (col F N G) → ∀ l3, am_E 3 m_X2_readItems 4 [some (.ref 3), some (.int (nI seen)), some (.int (nI j)), l3] [] h (fun w h2 => match (its tl tp k seen a G).2 with
    | none => w = some (.int (nI 0)) ∧ Fx [5] [(1, 2)] h h2 ∧ TA h2 tl tp (its tl tp k seen a G).1
    | some G2 => w = some (.int (nI 1)) ∧ Fx [5] [(1, 2)] h h2 ∧ TA h2 tl tp (its tl tp k seen a G).1 ∧ DX h2 (N + 1) g (col F N G2)) := by
  intro k
  induction k with
  | zero =>
    intro j seen a G hj hs hG h hW hA hD l3
    show am_E _ _ _ _ _ _ (fun w h2 => w = some (.int (nI 1)) ∧ Fx [5] [(1, 2)] h h2 ∧ TA h2 tl tp a ∧ DX h2 (N + 1) g (col F N G))
    refine Eq_iln dX2_readItems_4 rfl ?_
    refine Eq_bp (v := nI 7) dX2_readItems_5 rfl ?_
    refine Et_ic_gt 67 dX2_readItems_7 rfl (by exact nI_lt (by omega) (by omega)) ?_
    refine Eq_ic (v := nI 1) dX2_readItems_67 rfl ?_
    first | refine Eq_zrn dX2_readItems_68 rfl (by first | omega | exact b2_le) ?_ | refine Eq_zr dX2_readItems_68 rfl (by first | exact Or.inl rfl | exact Or.inr rfl | assumption) ?_
    exact ⟨rfl, Fx.rf, hA, hD⟩
  | succ k ih =>
    intro j seen a G hj hs hG h hW hA hD l3
    have h2 := sgn256 hA (nx tl tp a)
    have hx2 := nx_le (tp := tp) hA.2.2
    cases hi : itm (sgn tl tp (nx tl tp a)) with
    | none =>
      simp only [its_n hi]
      refine Eq_iln dX2_readItems_4 rfl ?_
      refine Eq_bp (v := nI 7) dX2_readItems_5 rfl ?_
      refine Ef_ic_gt dX2_readItems_7 (tgt := 67) rfl (by exact nI_nlt (by omega) (by omega)) ?_
      refine Eq_aln dX2_readItems_10 rfl ?_
      refine Eq_getR dX2_readItems_11 fl_X2_9 (ws_3 hW) rfl (wp_3_0 hW) ?_
      refine Eq_W0 (N := m_X9_next) dX2_readItems_14 lk_X2_38 mV_X9_next (c_next hW hA) (by decide) (ws_1 hW) rfl (by decide) (Nat.le_of_ble_eq_true rfl) (Nat.le_of_ble_eq_true rfl) (fun vq hq1 hq2 => ?_)
      obtain ⟨rfl, hf1, hA1⟩ := hq2
      have hW1 := hf1.Wd hW
      have hD1 := hD.fx hf1 (by decide)
      refine Eq_S1 (N := m_X2_itemOf) dX2_readItems_17 lk_X2_65 mS_X2_itemOf ((by have z := c_itemOf (h := hq1) h2; rw [hi] at z; exact z)) (by decide) (Nat.le_of_ble_eq_true rfl) (Nat.le_of_ble_eq_true rfl) ?_
      refine Eq_isn dX2_readItems_20 (by decide) ?_
      refine Eam_nl (pc' := 21) (l' := [_, _, _, _]) rfl rfl ?_
      refine Eq_iln dX2_readItems_21 rfl ?_
      refine Eq_ic (v := -1) dX2_readItems_22 rfl ?_
      refine Ef_ic_ne dX2_readItems_23 (tgt := 28) rfl (by rfl) ?_
      refine Eq_ic (v := nI 1) dX2_readItems_26 rfl ?_
      first | refine Eq_zrn dX2_readItems_27 rfl (by first | omega | exact b2_le) ?_ | refine Eq_zr dX2_readItems_27 rfl (by first | exact Or.inl rfl | exact Or.inr rfl | assumption) ?_
      exact ⟨rfl, hf1.mono (by decide) (by decide), hA1, hD1⟩
    | some i =>
      have hi7 := (itm_lt hi).1
      have hxl : nx tl tp a < tl := by
        cases hq : sgn tl tp (nx tl tp a) with
        | none => exact absurd hq (itm_lt hi).2
        | some c => exact (sgn_lt hq).1
      by_cases hb : seen.testBit i = true
      · simp only [its_r hi hb]
        refine Eq_iln dX2_readItems_4 rfl ?_
        refine Eq_bp (v := nI 7) dX2_readItems_5 rfl ?_
        refine Ef_ic_gt dX2_readItems_7 (tgt := 67) rfl (by exact nI_nlt (by omega) (by omega)) ?_
        refine Eq_aln dX2_readItems_10 rfl ?_
        refine Eq_getR dX2_readItems_11 fl_X2_9 (ws_3 hW) rfl (wp_3_0 hW) ?_
        refine Eq_W0 (N := m_X9_next) dX2_readItems_14 lk_X2_38 mV_X9_next (c_next hW hA) (by decide) (ws_1 hW) rfl (by decide) (Nat.le_of_ble_eq_true rfl) (Nat.le_of_ble_eq_true rfl) (fun vq hq1 hq2 => ?_)
        obtain ⟨rfl, hf1, hA1⟩ := hq2
        have hW1 := hf1.Wd hW
        have hD1 := hD.fx hf1 (by decide)
        refine Eq_S1 (N := m_X2_itemOf) dX2_readItems_17 lk_X2_65 mS_X2_itemOf ((by have z := c_itemOf (h := hq1) h2; rw [hi] at z; exact z)) (by decide) (Nat.le_of_ble_eq_true rfl) (Nat.le_of_ble_eq_true rfl) ?_
        refine Eq_isn dX2_readItems_20 (by decide) ?_
        refine Eam_nl (pc' := 21) (l' := [_, _, _, _]) rfl rfl ?_
        refine Eq_iln dX2_readItems_21 rfl ?_
        refine Eq_ic (v := -1) dX2_readItems_22 rfl ?_
        refine Et_ic_ne 28 dX2_readItems_23 rfl (by exact nI_m1 (by omega)) ?_
        refine Eq_iln dX2_readItems_28 rfl ?_
        refine Eq_iln dX2_readItems_29 rfl ?_
        first | refine Eq_shr dX2_readItems_30 (by omega) (by omega) ?_ | refine Eam_x_pu dX2_readItems_30 rfl ?_
        refine Eq_ic (v := nI 1) dX2_readItems_31 rfl ?_
        first | refine Eq_and dX2_readItems_32 ?_ | refine Eam_x_pu dX2_readItems_32 rfl ?_
        refine Ef_if_eq dX2_readItems_33 (tgt := 38) rfl (by rw [bit_and, if_pos hb]; exact zf1) ?_
        refine Eq_ic (v := nI 0) dX2_readItems_36 rfl ?_
        first | refine Eq_zrn dX2_readItems_37 rfl (by first | omega | exact b2_le) ?_ | refine Eq_zr dX2_readItems_37 rfl (by first | exact Or.inl rfl | exact Or.inr rfl | assumption) ?_
        exact ⟨rfl, hf1.mono (by decide) (by decide), hA1⟩
      · have hs2 : seen ||| 2 ^ i < 128 := Nat.or_lt_two_pow (n := 7) hs (Nat.pow_lt_pow_right (by omega) hi7)
        cases hv : (vlu tl tp i (nx tl tp a + 1)).2 with
        | none =>
          simp only [its_f hi hb hv]
          refine Eq_iln dX2_readItems_4 rfl ?_
          refine Eq_bp (v := nI 7) dX2_readItems_5 rfl ?_
          refine Ef_ic_gt dX2_readItems_7 (tgt := 67) rfl (by exact nI_nlt (by omega) (by omega)) ?_
          refine Eq_aln dX2_readItems_10 rfl ?_
          refine Eq_getR dX2_readItems_11 fl_X2_9 (ws_3 hW) rfl (wp_3_0 hW) ?_
          refine Eq_W0 (N := m_X9_next) dX2_readItems_14 lk_X2_38 mV_X9_next (c_next hW hA) (by decide) (ws_1 hW) rfl (by decide) (Nat.le_of_ble_eq_true rfl) (Nat.le_of_ble_eq_true rfl) (fun vq hq1 hq2 => ?_)
          obtain ⟨rfl, hf1, hA1⟩ := hq2
          have hW1 := hf1.Wd hW
          have hk1 : Fx [] [(1, 2)] h (am_wI hq1 1 2 (nI (nx tl tp a + 1))) := hf1.tr (Fx.wI (Or.inr (by decide)))
          have hDk := hD.fx hk1 (by decide)
          have hAk := hA1.mv (b := nx tl tp a + 1) (by omega)
          have hWk := hk1.Wd hW
          refine Eq_S1 (N := m_X2_itemOf) dX2_readItems_17 lk_X2_65 mS_X2_itemOf ((by have z := c_itemOf (h := hq1) h2; rw [hi] at z; exact z)) (by decide) (Nat.le_of_ble_eq_true rfl) (Nat.le_of_ble_eq_true rfl) ?_
          refine Eq_isn dX2_readItems_20 (by decide) ?_
          refine Eam_nl (pc' := 21) (l' := [_, _, _, _]) rfl rfl ?_
          refine Eq_iln dX2_readItems_21 rfl ?_
          refine Eq_ic (v := -1) dX2_readItems_22 rfl ?_
          refine Et_ic_ne 28 dX2_readItems_23 rfl (by exact nI_m1 (by omega)) ?_
          refine Eq_iln dX2_readItems_28 rfl ?_
          refine Eq_iln dX2_readItems_29 rfl ?_
          first | refine Eq_shr dX2_readItems_30 (by omega) (by omega) ?_ | refine Eam_x_pu dX2_readItems_30 rfl ?_
          refine Eq_ic (v := nI 1) dX2_readItems_31 rfl ?_
          first | refine Eq_and dX2_readItems_32 ?_ | refine Eam_x_pu dX2_readItems_32 rfl ?_
          refine Et_if_eq 38 dX2_readItems_33 rfl (by rw [bit_and, if_neg hb]; rfl) ?_
          refine Eq_iln dX2_readItems_38 rfl ?_
          refine Eq_ic (v := nI 1) dX2_readItems_39 rfl ?_
          refine Eq_iln dX2_readItems_40 rfl ?_
          first | refine Eq_shl1 dX2_readItems_41 (by omega) ?_ | refine Eam_x_pu dX2_readItems_41 rfl ?_
          first | refine Eq_or dX2_readItems_42 ?_ | refine Eam_x_pu dX2_readItems_42 rfl ?_
          refine Eq_isn dX2_readItems_43 (by decide) ?_
          refine Eam_nl (pc' := 44) (l' := [_, _, _, _]) rfl rfl ?_
          refine Eq_aln dX2_readItems_44 rfl ?_
          refine Eq_getR dX2_readItems_45 fl_X2_9 (ws_3 hW1) rfl (wp_3_0 hW1) ?_
          refine Eq_V0 (N := m_X9_step) dX2_readItems_48 lk_X2_56 mV_X9_step (c_step hW1 hA1) (by decide) (ws_1 hW1) rfl (by decide) (Nat.le_of_ble_eq_true rfl) (Nat.le_of_ble_eq_true rfl) ?_
          refine Eq_aln dX2_readItems_51 rfl ?_
          refine Eq_iln dX2_readItems_52 rfl ?_
          refine Eq_W1 (N := m_X2_readValue) dX2_readItems_53 lk_X2_69 mV_X2_readValue (c_readValue hWk hAk hDk.1 (by omega) (by omega) hi7) (by decide) (ws_3 hW1) rfl (by decide) (Nat.le_of_ble_eq_true rfl) (Nat.le_of_ble_eq_true rfl) (fun vq hq1 hq3 => ?_)
          simp only [hv] at hq3
          obtain ⟨rfl, hf3, hA3⟩ := hq3
          refine Ef_if_ne dX2_readItems_56 (tgt := 61) rfl (by rfl) ?_
          refine Eq_ic (v := nI 0) dX2_readItems_59 rfl ?_
          first | refine Eq_zrn dX2_readItems_60 rfl (by first | omega | exact b2_le) ?_ | refine Eq_zr dX2_readItems_60 rfl (by first | exact Or.inl rfl | exact Or.inr rfl | assumption) ?_
          exact ⟨rfl, (hk1.mono (by decide) (by decide)).tr hf3, hA3⟩
        | some v =>
          simp only [its_y hi hb hv]
          have hvl := vlu_le (tp := tp) (i := i) (a := nx tl tp a + 1) (tl := tl) (by omega)
          refine Eq_iln dX2_readItems_4 rfl ?_
          refine Eq_bp (v := nI 7) dX2_readItems_5 rfl ?_
          refine Ef_ic_gt dX2_readItems_7 (tgt := 67) rfl (by exact nI_nlt (by omega) (by omega)) ?_
          refine Eq_aln dX2_readItems_10 rfl ?_
          refine Eq_getR dX2_readItems_11 fl_X2_9 (ws_3 hW) rfl (wp_3_0 hW) ?_
          refine Eq_W0 (N := m_X9_next) dX2_readItems_14 lk_X2_38 mV_X9_next (c_next hW hA) (by decide) (ws_1 hW) rfl (by decide) (Nat.le_of_ble_eq_true rfl) (Nat.le_of_ble_eq_true rfl) (fun vq hq1 hq2 => ?_)
          obtain ⟨rfl, hf1, hA1⟩ := hq2
          have hW1 := hf1.Wd hW
          have hk1 : Fx [] [(1, 2)] h (am_wI hq1 1 2 (nI (nx tl tp a + 1))) := hf1.tr (Fx.wI (Or.inr (by decide)))
          have hDk := hD.fx hk1 (by decide)
          have hAk := hA1.mv (b := nx tl tp a + 1) (by omega)
          have hWk := hk1.Wd hW
          refine Eq_S1 (N := m_X2_itemOf) dX2_readItems_17 lk_X2_65 mS_X2_itemOf ((by have z := c_itemOf (h := hq1) h2; rw [hi] at z; exact z)) (by decide) (Nat.le_of_ble_eq_true rfl) (Nat.le_of_ble_eq_true rfl) ?_
          refine Eq_isn dX2_readItems_20 (by decide) ?_
          refine Eam_nl (pc' := 21) (l' := [_, _, _, _]) rfl rfl ?_
          refine Eq_iln dX2_readItems_21 rfl ?_
          refine Eq_ic (v := -1) dX2_readItems_22 rfl ?_
          refine Et_ic_ne 28 dX2_readItems_23 rfl (by exact nI_m1 (by omega)) ?_
          refine Eq_iln dX2_readItems_28 rfl ?_
          refine Eq_iln dX2_readItems_29 rfl ?_
          first | refine Eq_shr dX2_readItems_30 (by omega) (by omega) ?_ | refine Eam_x_pu dX2_readItems_30 rfl ?_
          refine Eq_ic (v := nI 1) dX2_readItems_31 rfl ?_
          first | refine Eq_and dX2_readItems_32 ?_ | refine Eam_x_pu dX2_readItems_32 rfl ?_
          refine Et_if_eq 38 dX2_readItems_33 rfl (by rw [bit_and, if_neg hb]; rfl) ?_
          refine Eq_iln dX2_readItems_38 rfl ?_
          refine Eq_ic (v := nI 1) dX2_readItems_39 rfl ?_
          refine Eq_iln dX2_readItems_40 rfl ?_
          first | refine Eq_shl1 dX2_readItems_41 (by omega) ?_ | refine Eam_x_pu dX2_readItems_41 rfl ?_
          first | refine Eq_or dX2_readItems_42 ?_ | refine Eam_x_pu dX2_readItems_42 rfl ?_
          refine Eq_isn dX2_readItems_43 (by decide) ?_
          refine Eam_nl (pc' := 44) (l' := [_, _, _, _]) rfl rfl ?_
          refine Eq_aln dX2_readItems_44 rfl ?_
          refine Eq_getR dX2_readItems_45 fl_X2_9 (ws_3 hW1) rfl (wp_3_0 hW1) ?_
          refine Eq_V0 (N := m_X9_step) dX2_readItems_48 lk_X2_56 mV_X9_step (c_step hW1 hA1) (by decide) (ws_1 hW1) rfl (by decide) (Nat.le_of_ble_eq_true rfl) (Nat.le_of_ble_eq_true rfl) ?_
          refine Eq_aln dX2_readItems_51 rfl ?_
          refine Eq_iln dX2_readItems_52 rfl ?_
          refine Eq_W1 (N := m_X2_readValue) dX2_readItems_53 lk_X2_69 mV_X2_readValue (c_readValue hWk hAk hDk.1 (by omega) (by omega) hi7) (by decide) (ws_3 hW1) rfl (by decide) (Nat.le_of_ble_eq_true rfl) (Nat.le_of_ble_eq_true rfl) (fun vq hq1 hq3 => ?_)
          simp only [hv] at hq3
          obtain ⟨rfl, hf3, hA3, hc3⟩ := hq3
          refine Et_if_ne 61 dX2_readItems_56 rfl (by exact zf1) ?_
          refine Eq_inc dX2_readItems_61 rfl (by decide) ?_
          refine Eam_nl (pc' := 64) (l' := [_, _, _, _]) rfl rfl ?_
          refine Eam_x_goto (tgt := 4) dX2_readItems_64 rfl ?_
          have hf4 := (hk1.mono (A' := [5]) (B' := [(1, 2)]) (by decide) (by decide)).tr hf3
          obtain ⟨v5, h5, z1, z2⟩ := ih (j + 1) (seen ||| 2 ^ i) (vlu tl tp i (nx tl tp a + 1)).1 (up1 G i v) (by omega) hs2 (fun q => by
            by_cases e : q = i
            · rw [e, up1_eq]; exact (hvl.2.1 v hv).1
            · rw [up1_ne e]; exact hG q) hq1 (hf4.Wd hW) hA3 (hDk.put (hvl.2.1 v hv).1 (hf3.i (by decide) (by decide)) (hf3.i (by decide) (by decide)) hc3) _
          refine ⟨v5, h5, z1, ?_⟩
          revert z2
          cases (its tl tp k (seen ||| 2 ^ i) (vlu tl tp i (nx tl tp a + 1)).1 (up1 G i v)).2 with
          | none => exact fun z => ⟨z.1, hf4.tr z.2.1, z.2.2⟩
          | some G2 => exact fun z => ⟨z.1, hf4.tr z.2.1, z.2.2⟩
def CQ (tl : Nat) (tp : Nat → Nat) (st : Nat × Bool × (Nat → Nat → Nat)) (a : Nat) (w : Option Value) (h2 : am_H) : Prop := match (cla tl tp st a).2 with
  | none => w = some (.int (nI 0)) ∧ TA h2 tl tp (cla tl tp st a).1
  | some s => w = some (.int (nI 1)) ∧ TA h2 tl tp (cla tl tp st a).1 ∧ DX h2 s.1 s.2.1 s.2.2
theorem CQ.int {tl : Nat} {tp : Nat → Nat} {st : Nat × Bool × (Nat → Nat → Nat)} {a : Nat} {w : Option Value} {h2 : am_H} (h : CQ tl tp st a w h2) : ∃ x, w = some (.int x) := by
  unfold CQ at h
  split at h
  · exact ⟨_, h.1⟩
  · exact ⟨_, h.1⟩
theorem oNn {x : Option Nat} (h : ∀ k, x = some k → k < 2 ^ 31) : oN x = -1 ↔ x = none := by
  cases x with
  | none => exact ⟨fun _ => rfl, fun _ => rfl⟩
  | some k => exact ⟨fun z => absurd z (nI_m1 (h k rfl)), fun z => nomatch z⟩
theorem cla_r {tl : Nat} {tp : Nat → Nat} {st : Nat × Bool × (Nat → Nat → Nat)} {a : Nat} (h : sgn tl tp (nx tl tp a) = some 114) (hg : st.2.1 = false) : cla tl tp st a = (nx tl tp a + 1, some (st.1, true, st.2.2)) := if_pos ⟨h, hg⟩
theorem cla_m {tl : Nat} {tp : Nat → Nat} {st : Nat × Bool × (Nat → Nat → Nat)} {a : Nat} (h : sgn tl tp (nx tl tp a) = some 109) (hg : st.1 < 7) : cla tl tp st a = ((its tl tp 8 0 (nx tl tp a + 1) usu).1, (its tl tp 8 0 (nx tl tp a + 1) usu).2.map (fun G => (st.1 + 1, st.2.1, col st.2.2 st.1 G))) := by
  unfold cla
  rw [if_neg (fun z => by rw [h] at z; exact absurd z.1 (by decide)), if_pos ⟨h, hg⟩]
  rfl
theorem cla_n {tl : Nat} {tp : Nat → Nat} {st : Nat × Bool × (Nat → Nat → Nat)} {a : Nat} (h : ¬ (sgn tl tp (nx tl tp a) = some 114 ∧ st.2.1 = false)) (h' : ¬ (sgn tl tp (nx tl tp a) = some 109 ∧ st.1 < 7)) : cla tl tp st a = (nx tl tp a, none) := by
  unfold cla
  rw [if_neg h, if_neg h']
set_option maxHeartbeats 2000000 in
theorem c_readItems {h : am_H} (hW : Wd h) {tl : Nat} {tp : Nat → Nat} {a : Nat} (hA : TA h tl tp a) {N : Nat} {g : Bool} {F : Nat → Nat → Nat} (h7 : N < 7) (hD : DX h (N + 1) g (col F N usu)) : am_D 3 m_X2_readItems [.ref 3] h (fun w h2 => match (its tl tp 8 0 a usu).2 with
    | none => w = some (.int (nI 0)) ∧ Fx [5] [(1, 2)] h h2 ∧ TA h2 tl tp (its tl tp 8 0 a usu).1
    | some G2 => w = some (.int (nI 1)) ∧ Fx [5] [(1, 2)] h h2 ∧ TA h2 tl tp (its tl tp 8 0 a usu).1 ∧ DX h2 (N + 1) g (col F N G2)) := by
  refine Eq_ic (v := nI 0) dX2_readItems_0 rfl ?_
  refine Eq_isn dX2_readItems_1 (by decide) ?_
  refine Eam_nl (pc' := 2) (l' := [_, _, _, _]) rfl rfl ?_
  refine Eq_ic (v := nI 0) dX2_readItems_2 rfl ?_
  refine Eq_isn dX2_readItems_3 (by decide) ?_
  refine Eam_nl (pc' := 4) (l' := [_, _, _, _]) rfl rfl ?_
  exact c_readItems_lp h7 8 0 0 a usu (by omega) (by omega) (fun i => usu_most) h hW hA hD _
set_option maxHeartbeats 2000000 in
theorem c_readClause {h : am_H} (hW : Wd h) {tl : Nat} {tp : Nat → Nat} {a : Nat} (hA : TA h tl tp a) {N : Nat} {g : Bool} {F : Nat → Nat → Nat} (hD : DX h N g F) : am_D 4 m_X2_readClause [.ref 3] h (fun w h2 => Fx [5] [(4, 0), (4, 1), (1, 2)] h h2 ∧ CQ tl tp (N, g, F) a w h2) := by
  have h2 := sgn256 hA (nx tl tp a)
  have hx2 := nx_le (tp := tp) hA.2.2
  have h7 := hD.2.2.1
  by_cases hr : sgn tl tp (nx tl tp a) = some 114 ∧ g = false
  · obtain ⟨hr, hg⟩ := hr
    have hxl := (sgn_lt hr).1
    simp only [CQ, cla_r (st := (N, g, F)) hr hg]
    refine Eq_aln dX2_readClause_0 rfl ?_
    refine Eq_getR dX2_readClause_1 fl_X2_9 (ws_3 hW) rfl (wp_3_0 hW) ?_
    refine Eq_W0 (N := m_X9_next) dX2_readClause_4 lk_X2_38 mV_X9_next (c_next hW hA) (by decide) (ws_1 hW) rfl (by decide) (Nat.le_of_ble_eq_true rfl) (Nat.le_of_ble_eq_true rfl) (fun vq hq1 hq2 => ?_)
    obtain ⟨rfl, hf1, hA1⟩ := hq2
    have hW1 := hf1.Wd hW
    have hD1 := hD.fx hf1 (by decide)
    refine Eq_isn dX2_readClause_7 (by decide) ?_
    refine Eam_nl (pc' := 8) (l' := [_, _]) rfl rfl ?_
    refine Eq_iln dX2_readClause_8 rfl ?_
    refine Eq_bp (v := nI 114) dX2_readClause_9 rfl ?_
    refine Ef_ic_ne dX2_readClause_11 (tgt := 41) rfl (by rw [hr]; rfl) ?_
    refine Eq_aln dX2_readClause_14 rfl ?_
    refine Eq_getR dX2_readClause_15 fl_X2_18 (ws_3 hW1) rfl (wp_3_1 hW1) ?_
    refine Eq_getI dX2_readClause_18 fl_X2_52 (ws_4 hW1) rfl (by first | exact hD1.1 | exact hD1.2.1) ?_
    refine Ef_if_ne dX2_readClause_21 (tgt := 41) rfl (by rw [hg]; rfl) ?_
    refine Eq_aln dX2_readClause_24 rfl ?_
    refine Eq_getR dX2_readClause_25 fl_X2_18 (ws_3 hW1) rfl (wp_3_1 hW1) ?_
    refine Eq_ic (v := nI 1) dX2_readClause_28 rfl ?_
    refine Eam_x_putI dX2_readClause_29 (fw_X2_52 rfl) (ws_4 hW1) (Or.inr ⟨rfl, by first | exact Or.inl rfl | exact Or.inr rfl | assumption⟩) ?_
    refine Eq_aln dX2_readClause_32 rfl ?_
    refine Eq_getR dX2_readClause_33 fl_X2_9 (ws_3 hW1) rfl (wp_3_0 hW1) ?_
    refine Eq_V0 (N := m_X9_step) dX2_readClause_36 lk_X2_56 mV_X9_step (c_step (Fx.Wd (Fx.wI (A := []) (B := [(4, 1)]) (Or.inr (by decide))) hW1) (hA1.fx (Fx.wI (A := []) (B := [(4, 1)]) (Or.inr (by decide))) (by decide))) (by decide) (ws_1 hW1) rfl (by decide) (Nat.le_of_ble_eq_true rfl) (Nat.le_of_ble_eq_true rfl) ?_
    refine Eq_ic (v := nI 1) dX2_readClause_39 rfl ?_
    first | refine Eq_zrn dX2_readClause_40 rfl (by first | omega | exact b2_le) ?_ | refine Eq_zr dX2_readClause_40 rfl (by first | exact Or.inl rfl | exact Or.inr rfl | assumption) ?_
    exact ⟨(hf1.mono (by decide) (by decide)).tr ((Fx.wI (Or.inr (by decide))).tr (Fx.wI (Or.inr (by decide)))), rfl, (hA1.fx (Fx.wI (A := []) (B := [(4, 1)]) (Or.inr (by decide))) (by decide)).mv (by omega), hD1.1, rfl, hD1.2.2.1, hD1.2.2.2.1, hD1.2.2.2.2⟩
  · by_cases hm : sgn tl tp (nx tl tp a) = some 109 ∧ N < 7
    · obtain ⟨hm, hN7⟩ := hm
      have hxl := (sgn_lt hm).1
      simp only [CQ, cla_m (st := (N, g, F)) hm hN7]
      refine Eq_aln dX2_readClause_0 rfl ?_
      refine Eq_getR dX2_readClause_1 fl_X2_9 (ws_3 hW) rfl (wp_3_0 hW) ?_
      refine Eq_W0 (N := m_X9_next) dX2_readClause_4 lk_X2_38 mV_X9_next (c_next hW hA) (by decide) (ws_1 hW) rfl (by decide) (Nat.le_of_ble_eq_true rfl) (Nat.le_of_ble_eq_true rfl) (fun vq hq1 hq2 => ?_)
      obtain ⟨rfl, hf1, hA1⟩ := hq2
      have hW1 := hf1.Wd hW
      have hD1 := hD.fx hf1 (by decide)
      have hk1 : Fx [] [(1, 2)] h (am_wI hq1 1 2 (nI (nx tl tp a + 1))) := hf1.tr (Fx.wI (Or.inr (by decide)))
      have hDk := hD.fx hk1 (by decide)
      have hAk := hA1.mv (b := nx tl tp a + 1) (by omega)
      have hWk := hk1.Wd hW
      refine Eq_isn dX2_readClause_7 (by decide) ?_
      refine Eam_nl (pc' := 8) (l' := [_, _]) rfl rfl ?_
      refine Eq_iln dX2_readClause_8 rfl ?_
      refine Eq_bp (v := nI 114) dX2_readClause_9 rfl ?_
      refine Et_ic_ne 41 dX2_readClause_11 rfl (by rw [hm]; exact fun z => absurd ((nI_eq (by omega) (by omega)).mp z) (by decide)) ?_
      refine Eq_iln dX2_readClause_41 rfl ?_
      refine Eq_bp (v := nI 109) dX2_readClause_42 rfl ?_
      refine Ef_ic_ne dX2_readClause_44 (tgt := 59) rfl (by rw [hm]; rfl) ?_
      refine Eq_aln dX2_readClause_47 rfl ?_
      refine Eq_getR dX2_readClause_48 fl_X2_18 (ws_3 hW1) rfl (wp_3_1 hW1) ?_
      refine Eq_getI dX2_readClause_51 fl_X2_42 (ws_4 hW1) rfl (by first | exact hD1.1 | exact hD1.2.1) ?_
      refine Eq_bp (v := nI 7) dX2_readClause_54 rfl ?_
      refine Et_ic_lt 61 dX2_readClause_56 rfl (by exact nI_lt (by omega) (by omega)) ?_
      refine Eq_aln dX2_readClause_61 rfl ?_
      refine Eq_getR dX2_readClause_62 fl_X2_9 (ws_3 hW1) rfl (wp_3_0 hW1) ?_
      refine Eq_V0 (N := m_X9_step) dX2_readClause_65 lk_X2_56 mV_X9_step (c_step hW1 hA1) (by decide) (ws_1 hW1) rfl (by decide) (Nat.le_of_ble_eq_true rfl) (Nat.le_of_ble_eq_true rfl) ?_
      refine Eq_aln dX2_readClause_68 rfl ?_
      refine Eq_getR dX2_readClause_69 fl_X2_18 (ws_3 hW1) rfl (wp_3_1 hW1) ?_
      refine Eq_W0 (N := m_X5_addUsual) dX2_readClause_72 lk_X2_59 mV_X5_addUsual (c_addUsual hWk hDk hN7) (by decide) (ws_4 hW1) rfl (by decide) (Nat.le_of_ble_eq_true rfl) (Nat.le_of_ble_eq_true rfl) (fun vq hq1 hq2 => ?_)
      obtain ⟨rfl, hf2, hD2⟩ := hq2
      have hW2 := hf2.Wd hWk
      have hA2 := hAk.fx hf2 (by decide)
      refine Eq_aln dX2_readClause_75 rfl ?_
      refine Eq_W0 (N := m_X2_readItems) dX2_readClause_76 lk_X2_62 mV_X2_readItems (c_readItems hW2 hA2 hN7 hD2) (by decide) (ws_3 hW2) rfl (by decide) (Nat.le_of_ble_eq_true rfl) (Nat.le_of_ble_eq_true rfl) (fun vq hq1 hq3 => ?_)
      revert hq3
      cases (its tl tp 8 0 (nx tl tp a + 1) usu).2 with
      | none =>
        intro z
        obtain ⟨rfl, z2, z3⟩ := z
        refine Eq_zrn dX2_readClause_79 rfl (by omega) ?_
        exact ⟨(hk1.mono (by decide) (by decide)).tr ((hf2.mono (by decide) (by decide)).tr (z2.mono (by decide) (by decide))), rfl, z3⟩
      | some G =>
        intro z
        obtain ⟨rfl, z2, z3⟩ := z
        refine Eq_zrn dX2_readClause_79 rfl (by omega) ?_
        exact ⟨(hk1.mono (by decide) (by decide)).tr ((hf2.mono (by decide) (by decide)).tr (z2.mono (by decide) (by decide))), rfl, z3⟩
    · simp only [CQ, cla_n (st := (N, g, F)) hr hm]
      by_cases e1 : sgn tl tp (nx tl tp a) = some 114
      · have hg : g = true := by
          cases hgg : g with
          | true => rfl
          | false => exact absurd ⟨e1, hgg⟩ hr
        refine Eq_aln dX2_readClause_0 rfl ?_
        refine Eq_getR dX2_readClause_1 fl_X2_9 (ws_3 hW) rfl (wp_3_0 hW) ?_
        refine Eq_W0 (N := m_X9_next) dX2_readClause_4 lk_X2_38 mV_X9_next (c_next hW hA) (by decide) (ws_1 hW) rfl (by decide) (Nat.le_of_ble_eq_true rfl) (Nat.le_of_ble_eq_true rfl) (fun vq hq1 hq2 => ?_)
        obtain ⟨rfl, hf1, hA1⟩ := hq2
        have hW1 := hf1.Wd hW
        have hD1 := hD.fx hf1 (by decide)
        refine Eq_isn dX2_readClause_7 (by decide) ?_
        refine Eam_nl (pc' := 8) (l' := [_, _]) rfl rfl ?_
        refine Eq_iln dX2_readClause_8 rfl ?_
        refine Eq_bp (v := nI 114) dX2_readClause_9 rfl ?_
        refine Ef_ic_ne dX2_readClause_11 (tgt := 41) rfl (by rw [e1]; rfl) ?_
        refine Eq_aln dX2_readClause_14 rfl ?_
        refine Eq_getR dX2_readClause_15 fl_X2_18 (ws_3 hW1) rfl (wp_3_1 hW1) ?_
        refine Eq_getI dX2_readClause_18 fl_X2_52 (ws_4 hW1) rfl (by first | exact hD1.1 | exact hD1.2.1) ?_
        refine Et_if_ne 41 dX2_readClause_21 rfl (by rw [hg]; exact zf1) ?_
        refine Eq_iln dX2_readClause_41 rfl ?_
        refine Eq_bp (v := nI 109) dX2_readClause_42 rfl ?_
        refine Et_ic_ne 59 dX2_readClause_44 rfl (by rw [e1]; exact fun z => absurd ((nI_eq (by omega) (by omega)).mp z) (by decide)) ?_
        refine Eq_ic (v := nI 0) dX2_readClause_59 rfl ?_
        first | refine Eq_zrn dX2_readClause_60 rfl (by first | omega | exact b2_le) ?_ | refine Eq_zr dX2_readClause_60 rfl (by first | exact Or.inl rfl | exact Or.inr rfl | assumption) ?_
        exact ⟨hf1.mono (by decide) (by decide), rfl, hA1⟩
      · by_cases e2 : sgn tl tp (nx tl tp a) = some 109
        · have hN : ¬ N < 7 := fun z => hm ⟨e2, z⟩
          refine Eq_aln dX2_readClause_0 rfl ?_
          refine Eq_getR dX2_readClause_1 fl_X2_9 (ws_3 hW) rfl (wp_3_0 hW) ?_
          refine Eq_W0 (N := m_X9_next) dX2_readClause_4 lk_X2_38 mV_X9_next (c_next hW hA) (by decide) (ws_1 hW) rfl (by decide) (Nat.le_of_ble_eq_true rfl) (Nat.le_of_ble_eq_true rfl) (fun vq hq1 hq2 => ?_)
          obtain ⟨rfl, hf1, hA1⟩ := hq2
          have hW1 := hf1.Wd hW
          have hD1 := hD.fx hf1 (by decide)
          refine Eq_isn dX2_readClause_7 (by decide) ?_
          refine Eam_nl (pc' := 8) (l' := [_, _]) rfl rfl ?_
          refine Eq_iln dX2_readClause_8 rfl ?_
          refine Eq_bp (v := nI 114) dX2_readClause_9 rfl ?_
          refine Et_ic_ne 41 dX2_readClause_11 rfl (by exact fun z => absurd ((oNlt (fun k hk => by have := h2 k hk; omega) 114 (by omega)).mp z) (e1)) ?_
          refine Eq_iln dX2_readClause_41 rfl ?_
          refine Eq_bp (v := nI 109) dX2_readClause_42 rfl ?_
          refine Ef_ic_ne dX2_readClause_44 (tgt := 59) rfl (by rw [e2]; rfl) ?_
          refine Eq_aln dX2_readClause_47 rfl ?_
          refine Eq_getR dX2_readClause_48 fl_X2_18 (ws_3 hW1) rfl (wp_3_1 hW1) ?_
          refine Eq_getI dX2_readClause_51 fl_X2_42 (ws_4 hW1) rfl (by first | exact hD1.1 | exact hD1.2.1) ?_
          refine Eq_bp (v := nI 7) dX2_readClause_54 rfl ?_
          refine Ef_ic_lt dX2_readClause_56 (tgt := 61) rfl (by exact nI_nlt (by omega) (by omega)) ?_
          refine Eq_ic (v := nI 0) dX2_readClause_59 rfl ?_
          first | refine Eq_zrn dX2_readClause_60 rfl (by first | omega | exact b2_le) ?_ | refine Eq_zr dX2_readClause_60 rfl (by first | exact Or.inl rfl | exact Or.inr rfl | assumption) ?_
          exact ⟨hf1.mono (by decide) (by decide), rfl, hA1⟩
        · refine Eq_aln dX2_readClause_0 rfl ?_
          refine Eq_getR dX2_readClause_1 fl_X2_9 (ws_3 hW) rfl (wp_3_0 hW) ?_
          refine Eq_W0 (N := m_X9_next) dX2_readClause_4 lk_X2_38 mV_X9_next (c_next hW hA) (by decide) (ws_1 hW) rfl (by decide) (Nat.le_of_ble_eq_true rfl) (Nat.le_of_ble_eq_true rfl) (fun vq hq1 hq2 => ?_)
          obtain ⟨rfl, hf1, hA1⟩ := hq2
          have hW1 := hf1.Wd hW
          have hD1 := hD.fx hf1 (by decide)
          refine Eq_isn dX2_readClause_7 (by decide) ?_
          refine Eam_nl (pc' := 8) (l' := [_, _]) rfl rfl ?_
          refine Eq_iln dX2_readClause_8 rfl ?_
          refine Eq_bp (v := nI 114) dX2_readClause_9 rfl ?_
          refine Et_ic_ne 41 dX2_readClause_11 rfl (by exact fun z => absurd ((oNlt (fun k hk => by have := h2 k hk; omega) 114 (by omega)).mp z) (e1)) ?_
          refine Eq_iln dX2_readClause_41 rfl ?_
          refine Eq_bp (v := nI 109) dX2_readClause_42 rfl ?_
          refine Et_ic_ne 59 dX2_readClause_44 rfl (by exact fun z => absurd ((oNlt (fun k hk => by have := h2 k hk; omega) 109 (by omega)).mp z) (e2)) ?_
          refine Eq_ic (v := nI 0) dX2_readClause_59 rfl ?_
          first | refine Eq_zrn dX2_readClause_60 rfl (by first | omega | exact b2_le) ?_ | refine Eq_zr dX2_readClause_60 rfl (by first | exact Or.inl rfl | exact Or.inr rfl | assumption) ?_
          exact ⟨hf1.mono (by decide) (by decide), rfl, hA1⟩
set_option maxHeartbeats 2000000 in
theorem c_dropStrangers_lp {n : Nat} {F : Nat → Nat → Nat} (h7 : n ≤ 7) (hB : ∀ m, m < n → F 4 m ≤ 7) {h0 : am_H} : ∀ k j, j + k = n → ∀ h, Wd h → am_i h 4 0 = nI n → Fx [5] [] h0 h → (∀ i m, i < 7 → m < n → am_i h 5 (i * 7 + m) = nI (if i = 4 ∧ m < j ∧ n ≤ F 4 m then 7 else F i m)) → am_E 2 m_X5_dropStrangers 2 [some (.ref 4), some (.int (nI j))] [] h (fun v h2 => v = none ∧ Fx [5] [] h0 h2 ∧ ∀ i m, i < 7 → m < n → am_i h2 5 (i * 7 + m) = nI (drs n F i m)) := by
  intro k
  induction k with
  | zero =>
    intro j hj h hW hN hf hc
    have hjn : j = n := by omega
    subst hjn
    refine Eq_iln dX5_dropStrangers_2 rfl ?_
    refine Eq_aln dX5_dropStrangers_3 rfl ?_
    refine Eq_getI dX5_dropStrangers_4 fl_X5_9 (ws_4 hW) rfl hN ?_
    refine Et_ic_ge 37 dX5_dropStrangers_7 rfl (by exact nI_le (by omega) (by omega)) ?_
    refine Eq_vr dX5_dropStrangers_37 rfl ?_
    exact ⟨rfl, hf, fun i m hi hm => by rw [hc i m hi hm]; simp only [drs]; congr 1; by_cases e : i = 4 ∧ j ≤ F 4 m; (rw [if_pos ⟨e.1, hm, e.2⟩, if_pos e]); (rw [if_neg (fun z => e ⟨z.1, z.2.2⟩), if_neg e])⟩
  | succ k ih =>
    intro j hj h hW hN hf hc
    have hBj := hB j (by omega)
    have hv : am_i h 5 (4 * 7 + j) = nI (F 4 j) := by rw [hc 4 j (by omega) (by omega), if_neg (by omega)]
    by_cases hlt : F 4 j < n
    · have k2 := ih (j + 1) (by omega) _ hW hN hf (fun i m hi hm => by
        rw [hc i m hi hm]
        congr 1
        by_cases e : i = 4 ∧ m < j ∧ n ≤ F 4 m
        · rw [if_pos e, if_pos ⟨e.1, by omega, e.2.2⟩]
        · rw [if_neg e, if_neg (fun z => by
            by_cases e2 : m = j
            · subst e2; omega
            · exact e ⟨z.1, by omega, z.2.2⟩)])
      refine Eq_iln dX5_dropStrangers_2 rfl ?_
      refine Eq_aln dX5_dropStrangers_3 rfl ?_
      refine Eq_getI dX5_dropStrangers_4 fl_X5_9 (ws_4 hW) rfl hN ?_
      refine Ef_ic_ge dX5_dropStrangers_7 (tgt := 37) rfl (by exact nI_ge (by omega) (by omega)) ?_
      refine Eq_aln dX5_dropStrangers_10 rfl ?_
      refine Eq_ic (v := nI 4) dX5_dropStrangers_11 rfl ?_
      refine Eq_iln dX5_dropStrangers_12 rfl ?_
      refine Eq_V2 (N := m_X5_fact) dX5_dropStrangers_13 lk_X5_39 mV_X5_fact (c_fact4 hW hN h7 (by omega) (by omega) hv) (by decide) (ws_4 hW) rfl (by decide) (Nat.le_of_ble_eq_true rfl) (Nat.le_of_ble_eq_true rfl) ?_
      refine Eq_aln dX5_dropStrangers_16 rfl ?_
      refine Eq_getI dX5_dropStrangers_17 fl_X5_9 (ws_4 hW) rfl hN ?_
      refine Et_ic_lt 31 dX5_dropStrangers_20 rfl (by exact nI_lt (by omega) (by omega)) ?_
      refine Eq_inc dX5_dropStrangers_31 rfl (by decide) ?_
      refine Eam_nl (pc' := 34) (l' := [_, _]) rfl rfl ?_
      refine Eam_x_goto (tgt := 2) dX5_dropStrangers_34 rfl ?_
      exact k2
    · have k1 : Fx [5] [] h (am_wI h 5 (4 * 7 + j) (nI 7)) := Fx.wI (Or.inl (by decide))
      have k2 := ih (j + 1) (by omega) _ (k1.Wd hW) ((by rw [wI_ne (by decide)]; exact hN)) (hf.tr k1) (fun i m hi hm => by
        rw [wI_eq, hc i m hi hm]
        by_cases e : i * 7 + m = 4 * 7 + j
        · have e1 : i = 4 := by omega
          have e2 : m = j := by omega
          subst e2
          rw [if_pos e, if_pos ⟨e1, by omega, by omega⟩]
        · rw [if_neg e]
          congr 1
          by_cases e1 : i = 4 ∧ m < j ∧ n ≤ F 4 m
          · rw [if_pos e1, if_pos ⟨e1.1, by omega, e1.2.2⟩]
          · rw [if_neg e1, if_neg (fun z => by
              by_cases e2 : m = j
              · exact e (by omega)
              · exact e1 ⟨z.1, by omega, z.2.2⟩)])
      refine Eq_iln dX5_dropStrangers_2 rfl ?_
      refine Eq_aln dX5_dropStrangers_3 rfl ?_
      refine Eq_getI dX5_dropStrangers_4 fl_X5_9 (ws_4 hW) rfl hN ?_
      refine Ef_ic_ge dX5_dropStrangers_7 (tgt := 37) rfl (by exact nI_ge (by omega) (by omega)) ?_
      refine Eq_aln dX5_dropStrangers_10 rfl ?_
      refine Eq_ic (v := nI 4) dX5_dropStrangers_11 rfl ?_
      refine Eq_iln dX5_dropStrangers_12 rfl ?_
      refine Eq_V2 (N := m_X5_fact) dX5_dropStrangers_13 lk_X5_39 mV_X5_fact (c_fact4 hW hN h7 (by omega) (by omega) hv) (by decide) (ws_4 hW) rfl (by decide) (Nat.le_of_ble_eq_true rfl) (Nat.le_of_ble_eq_true rfl) ?_
      refine Eq_aln dX5_dropStrangers_16 rfl ?_
      refine Eq_getI dX5_dropStrangers_17 fl_X5_9 (ws_4 hW) rfl hN ?_
      refine Ef_ic_lt dX5_dropStrangers_20 (tgt := 31) rfl (by exact nI_nlt (by omega) (by omega)) ?_
      refine Eq_aln dX5_dropStrangers_23 rfl ?_
      refine Eq_ic (v := nI 4) dX5_dropStrangers_24 rfl ?_
      refine Eq_iln dX5_dropStrangers_25 rfl ?_
      refine Eq_bp (v := nI 7) dX5_dropStrangers_26 rfl ?_
      refine Eq_V3 (N := m_X5_tell) dX5_dropStrangers_28 lk_X5_29 mV_X5_tell (c_tell4 hW hN h7 (by omega) (by omega)) (by decide) (ws_4 hW) rfl (by decide) (Nat.le_of_ble_eq_true rfl) (Nat.le_of_ble_eq_true rfl) ?_
      refine Eq_inc dX5_dropStrangers_31 rfl (by decide) ?_
      refine Eam_nl (pc' := 34) (l' := [_, _]) rfl rfl ?_
      refine Eam_x_goto (tgt := 2) dX5_dropStrangers_34 rfl ?_
      exact k2
set_option maxHeartbeats 2000000 in
theorem c_dropStrangers {h : am_H} (hW : Wd h) {n : Nat} {g : Bool} {F : Nat → Nat → Nat} (hD : DX h n g F) : am_D 2 m_X5_dropStrangers [.ref 4] h (fun v h2 => v = none ∧ Fx [5] [] h h2 ∧ DX h2 n g (drs n F)) := by
  obtain ⟨hN, hg, h7, hF, hB⟩ := id hD
  have hB4 : ∀ m, m < n → F 4 m ≤ 7 := fun m hm => hB 4 m hm
  obtain ⟨v, h2, z1, z2, z3, z4⟩ := c_dropStrangers_lp h7 hB4 (h0 := h) n 0 (by omega) h hW hN Fx.rf (fun i m hi hm => by rw [hF i m hi hm, if_neg (by omega)])
  refine ⟨v, h2, ?_, z2, z3, (z3.i (by decide) (by decide)).trans hN, (z3.i (by decide) (by decide)).trans hg, h7, z4, fun i m hm => ?_⟩
  · refine q_ic (v := nI 0) dX5_dropStrangers_0 rfl ?_
    refine q_isn dX5_dropStrangers_1 (by decide) ?_
    refine am_nl (pc' := 2) (l' := [_, _]) rfl rfl ?_
    exact z1
  · simp only [drs]
    split
    next e => rw [e.1]; decide
    next => exact hB i m hm
def fin (tl : Nat) (tp : Nat → Nat) (r : Nat × Option (Nat × Bool × (Nat → Nat → Nat))) : Nat × Option (Nat × Bool × (Nat → Nat → Nat)) := match r.2 with
  | none => (r.1, none)
  | some st => if sgn tl tp r.1 = none ∧ 2 ≤ st.1 then (r.1, some st) else (r.1, none)
def HQ (tl : Nat) (tp : Nat → Nat) (r : Nat × Option (Nat × Bool × (Nat → Nat → Nat))) (w : Option Value) (h2 : am_H) : Prop := match (fin tl tp r).2 with
  | none => w = some (.int (nI r.1)) ∧ ∃ a, TA h2 tl tp a
  | some s => w = some (.int (-1)) ∧ (∃ a, TA h2 tl tp a) ∧ DX h2 s.1 s.2.1 (drs s.1 s.2.2)
theorem hou_fin {tl : Nat} {tp : Nat → Nat} : hou tl tp = fin tl tp (cls tl tp 161 0 (0, false, fun _ _ => 0)) := by
  unfold hou fin
  rfl
theorem cls_n {tl : Nat} {tp : Nat → Nat} {k a : Nat} {st : Nat × Bool × (Nat → Nat → Nat)} (h : (cla tl tp st a).2 = none) : cls tl tp (k + 1) a st = ((cla tl tp st a).1, none) := by simp only [cls, h]
theorem cls_y {tl : Nat} {tp : Nat → Nat} {k a : Nat} {st s : Nat × Bool × (Nat → Nat → Nat)} (h : (cla tl tp st a).2 = some s) (hc : sgn tl tp (nx tl tp (cla tl tp st a).1) = some 59) : cls tl tp (k + 1) a st = cls tl tp k (nx tl tp (cla tl tp st a).1 + 1) s := by simp only [cls, h, hc]; rfl
theorem cls_e {tl : Nat} {tp : Nat → Nat} {k a : Nat} {st s : Nat × Bool × (Nat → Nat → Nat)} (h : (cla tl tp st a).2 = some s) (hc : ¬ sgn tl tp (nx tl tp (cla tl tp st a).1) = some 59) : cls tl tp (k + 1) a st = (nx tl tp (cla tl tp st a).1, some s) := by simp only [cls, h]; rw [if_neg hc]
set_option maxHeartbeats 2000000 in
theorem c_read_ok {tl : Nat} {tp : Nat → Nat} {st : Nat × Bool × (Nat → Nat → Nat)} {p : Nat} {h : am_H} (hW : Wd h) (hA : TA h tl tp p) (hD : DX h st.1 st.2.1 st.2.2) (hp : nx tl tp p = p) {l2 : Option Value} : am_E 5 m_X2_read 55 [some (.ref 3), some (.int (nI 1)), l2] [] h (fun w h2 => Fx [5] [(4, 0), (4, 1), (1, 2)] h h2 ∧ HQ tl tp (p, some st) w h2) := by
  have h2 := sgn256 hA (nx tl tp p)
  have h7 := hD.2.2.1
  by_cases e1 : sgn tl tp p = none
  · by_cases e2 : 2 ≤ st.1
    · have e3 : fin tl tp (p, some st) = (p, some st) := if_pos ⟨e1, e2⟩
      simp only [HQ, e3]
      rw [hp] at h2
      refine Eq_iln dX2_read_55 rfl ?_
      refine Ef_if_eq dX2_read_56 (tgt := 81) rfl (by exact zf1) ?_
      refine Eq_aln dX2_read_59 rfl ?_
      refine Eq_getR dX2_read_60 fl_X2_9 (ws_3 hW) rfl (wp_3_0 hW) ?_
      refine Eq_W0 (N := m_X9_next) dX2_read_63 lk_X2_38 mV_X9_next (c_next hW hA) (by decide) (ws_1 hW) rfl (by decide) (Nat.le_of_ble_eq_true rfl) (Nat.le_of_ble_eq_true rfl) (fun vq hq1 hq2 => ?_)
      obtain ⟨rfl, hf1, hA1⟩ := hq2
      have hW1 := hf1.Wd hW
      have hD1 := hD.fx hf1 (by decide)
      refine Eq_ic (v := -1) dX2_read_66 rfl ?_
      refine Ef_ic_ne dX2_read_67 (tgt := 81) rfl (by rw [hp, e1]; rfl) ?_
      refine Eq_aln dX2_read_70 rfl ?_
      refine Eq_getR dX2_read_71 fl_X2_18 (ws_3 hW1) rfl (wp_3_1 hW1) ?_
      refine Eq_getI dX2_read_74 fl_X2_42 (ws_4 hW1) rfl hD1.1 ?_
      refine Eq_ic (v := nI 2) dX2_read_77 rfl ?_
      refine Et_ic_ge 89 dX2_read_78 rfl (by exact nI_le (by omega) (by omega)) ?_
      refine Eq_aln dX2_read_89 rfl ?_
      refine Eq_getR dX2_read_90 fl_X2_18 (ws_3 hW1) rfl (wp_3_1 hW1) ?_
      refine Eq_W0 (N := m_X5_dropStrangers) dX2_read_93 lk_X2_49 mV_X5_dropStrangers (c_dropStrangers hW1 hD1) (by decide) (ws_4 hW1) rfl (by decide) (Nat.le_of_ble_eq_true rfl) (Nat.le_of_ble_eq_true rfl) (fun vq hq1 hq2 => ?_)
      obtain ⟨rfl, hf2, hD2⟩ := hq2
      refine Eq_ic (v := -1) dX2_read_96 rfl ?_
      refine Eq_ir dX2_read_97 rfl ?_
      exact ⟨(hf1.mono (by decide) (by decide)).tr (hf2.mono (by decide) (by decide)), rfl, ⟨_, hA1.fx hf2 (by decide)⟩, hD2⟩
    · have e3 : fin tl tp (p, some st) = (p, none) := if_neg (fun z => e2 z.2)
      simp only [HQ, e3]
      refine Eq_iln dX2_read_55 rfl ?_
      refine Ef_if_eq dX2_read_56 (tgt := 81) rfl (by exact zf1) ?_
      refine Eq_aln dX2_read_59 rfl ?_
      refine Eq_getR dX2_read_60 fl_X2_9 (ws_3 hW) rfl (wp_3_0 hW) ?_
      refine Eq_W0 (N := m_X9_next) dX2_read_63 lk_X2_38 mV_X9_next (c_next hW hA) (by decide) (ws_1 hW) rfl (by decide) (Nat.le_of_ble_eq_true rfl) (Nat.le_of_ble_eq_true rfl) (fun vq hq1 hq2 => ?_)
      obtain ⟨rfl, hf1, hA1⟩ := hq2
      have hW1 := hf1.Wd hW
      have hD1 := hD.fx hf1 (by decide)
      refine Eq_ic (v := -1) dX2_read_66 rfl ?_
      refine Ef_ic_ne dX2_read_67 (tgt := 81) rfl (by rw [hp, e1]; rfl) ?_
      refine Eq_aln dX2_read_70 rfl ?_
      refine Eq_getR dX2_read_71 fl_X2_18 (ws_3 hW1) rfl (wp_3_1 hW1) ?_
      refine Eq_getI dX2_read_74 fl_X2_42 (ws_4 hW1) rfl (by first | exact hD1.1 | exact hA1.2.1) ?_
      refine Eq_ic (v := nI 2) dX2_read_77 rfl ?_
      refine Ef_ic_ge dX2_read_78 (tgt := 89) rfl (by exact nI_ge (by omega) (by omega)) ?_
      refine Eq_aln dX2_read_81 rfl ?_
      refine Eq_getR dX2_read_82 fl_X2_9 (ws_3 hW1) rfl (wp_3_0 hW1) ?_
      refine Eq_getI dX2_read_85 fl_X2_46 (ws_1 hW1) rfl (by first | exact hD1.1 | exact hA1.2.1) ?_
      refine Eq_ir dX2_read_88 rfl ?_
      exact ⟨hf1.mono (by decide) (by decide), by rw [hp], ⟨_, hA1⟩⟩
  · have e3 : fin tl tp (p, some st) = (p, none) := if_neg (fun z => e1 z.1)
    simp only [HQ, e3]
    refine Eq_iln dX2_read_55 rfl ?_
    refine Ef_if_eq dX2_read_56 (tgt := 81) rfl (by exact zf1) ?_
    refine Eq_aln dX2_read_59 rfl ?_
    refine Eq_getR dX2_read_60 fl_X2_9 (ws_3 hW) rfl (wp_3_0 hW) ?_
    refine Eq_W0 (N := m_X9_next) dX2_read_63 lk_X2_38 mV_X9_next (c_next hW hA) (by decide) (ws_1 hW) rfl (by decide) (Nat.le_of_ble_eq_true rfl) (Nat.le_of_ble_eq_true rfl) (fun vq hq1 hq2 => ?_)
    obtain ⟨rfl, hf1, hA1⟩ := hq2
    have hW1 := hf1.Wd hW
    have hD1 := hD.fx hf1 (by decide)
    refine Eq_ic (v := -1) dX2_read_66 rfl ?_
    refine Et_ic_ne 81 dX2_read_67 rfl (by exact fun z => absurd ((oNn (fun k hk => by have := h2 k hk; omega)).mp z) (by rw [hp]; exact e1)) ?_
    refine Eq_aln dX2_read_81 rfl ?_
    refine Eq_getR dX2_read_82 fl_X2_9 (ws_3 hW1) rfl (wp_3_0 hW1) ?_
    refine Eq_getI dX2_read_85 fl_X2_46 (ws_1 hW1) rfl (by first | exact hD1.1 | exact hA1.2.1) ?_
    refine Eq_ir dX2_read_88 rfl ?_
    exact ⟨hf1.mono (by decide) (by decide), by rw [hp], ⟨_, hA1⟩⟩
set_option maxHeartbeats 2000000 in
theorem c_read_lp {tl : Nat} {tp : Nat → Nat} : ∀ k a st h w j, tl < a + k → a ≤ tl → 2 * j ≤ a + 2 → Wd h → CQ tl tp st a w h → am_E 5 m_X2_read 21 [some (.ref 3), w, some (.int (nI j))] [] h (fun w2 h2 => Fx [5] [(4, 0), (4, 1), (1, 2)] h h2 ∧ HQ tl tp (cls tl tp k a st) w2 h2) := by
  intro k
  induction k with
  | zero => intro a st h w j hk hl; omega
  | succ k ih =>
    intro a st h w j hk hl hj hW hC
    have hcl := cla_le (tp := tp) (st := st) hl
    have hx1 := nx_ge (tl := tl) (tp := tp) (a := (cla tl tp st a).1)
    unfold CQ at hC
    cases hq : (cla tl tp st a).2 with
    | none =>
      simp only [hq] at hC
      obtain ⟨rfl, hA⟩ := hC
      rw [cls_n hq]
      show am_E _ _ _ _ _ _ (fun w2 h2 => Fx [5] [(4, 0), (4, 1), (1, 2)] h h2 ∧ w2 = some (.int (nI (cla tl tp st a).1)) ∧ ∃ a, TA h2 tl tp a)
      refine Eq_iln dX2_read_21 rfl ?_
      refine Et_if_eq 55 dX2_read_22 rfl (by rfl) ?_
      refine Eq_iln dX2_read_55 rfl ?_
      refine Et_if_eq 81 dX2_read_56 rfl (by rfl) ?_
      refine Eq_aln dX2_read_81 rfl ?_
      refine Eq_getR dX2_read_82 fl_X2_9 (ws_3 hW) rfl (wp_3_0 hW) ?_
      refine Eq_getI dX2_read_85 fl_X2_46 (ws_1 hW) rfl hA.2.1 ?_
      refine Eq_ir dX2_read_88 rfl ?_
      exact ⟨Fx.rf, rfl, ⟨_, hA⟩⟩
    | some s =>
      simp only [hq] at hC
      obtain ⟨rfl, hA, hD⟩ := hC
      have hlt := hcl.2 s hq
      by_cases e : sgn tl tp (nx tl tp (cla tl tp st a).1) = some 59
      · rw [cls_y hq e]
        have hxl := (sgn_lt e).1
        have htl := hA.1.2.1
        refine Eq_iln dX2_read_21 rfl ?_
        refine Ef_if_eq dX2_read_22 (tgt := 55) rfl (by exact zf1) ?_
        refine Eq_iln dX2_read_25 rfl ?_
        refine Eq_sp (v := nI 160) dX2_read_26 rfl ?_
        refine Ef_ic_ge dX2_read_29 (tgt := 55) rfl (by exact nI_ge (b := 160) (by omega) (by omega)) ?_
        refine Eq_aln dX2_read_32 rfl ?_
        refine Eq_getR dX2_read_33 fl_X2_9 (ws_3 hW) rfl (wp_3_0 hW) ?_
        refine Eq_bp (v := nI 59) dX2_read_36 rfl ?_
        refine Eq_W1 (N := m_X9_pass) dX2_read_38 lk_X2_34 mV_X9_pass (c_pass hW hA (c := 59) (by omega)) (by decide) (ws_1 hW) rfl (by decide) (Nat.le_of_ble_eq_true rfl) (Nat.le_of_ble_eq_true rfl) (fun vq hq1 hq2 => ?_)
        rw [if_pos e] at hq2
        obtain ⟨rfl, hf1, hA1⟩ := hq2
        have hW1 := hf1.Wd hW
        have hD1 := hD.fx hf1 (by decide)
        refine Ef_if_eq dX2_read_41 (tgt := 55) rfl (by exact zf1) ?_
        refine Eq_aln dX2_read_44 rfl ?_
        refine Eq_W0 (N := m_X2_readClause) dX2_read_45 lk_X2_30 mV_X2_readClause (c_readClause hW1 hA1 hD1) (by decide) (ws_3 hW1) rfl (by decide) (Nat.le_of_ble_eq_true rfl) (Nat.le_of_ble_eq_true rfl) (fun vq hq1 hq2 => ?_)
        obtain ⟨hf2, hC2⟩ := hq2
        obtain ⟨xq, rfl⟩ := hC2.int
        refine Eq_isn dX2_read_48 (by decide) ?_
        refine Eam_nl (pc' := 49) (l' := [_, _, _]) rfl rfl ?_
        refine Eq_inc dX2_read_49 rfl (by decide) ?_
        refine Eam_nl (pc' := 52) (l' := [_, _, _]) rfl rfl ?_
        refine Eam_x_goto (tgt := 21) dX2_read_52 rfl ?_
        obtain ⟨v5, h5, z1, z2, z3⟩ := ih (nx tl tp (cla tl tp st a).1 + 1) s hq1 _ (j + 1) (by omega) (by omega) (by omega) (hf2.Wd hW1) hC2
        exact ⟨v5, h5, z1, ((hf1.mono (by decide) (by decide)).tr hf2).tr z2, z3⟩
      · rw [cls_e hq e]
        have htl := hA.1.2.1
        refine Eq_iln dX2_read_21 rfl ?_
        refine Ef_if_eq dX2_read_22 (tgt := 55) rfl (by exact zf1) ?_
        refine Eq_iln dX2_read_25 rfl ?_
        refine Eq_sp (v := nI 160) dX2_read_26 rfl ?_
        refine Ef_ic_ge dX2_read_29 (tgt := 55) rfl (by exact nI_ge (b := 160) (by omega) (by omega)) ?_
        refine Eq_aln dX2_read_32 rfl ?_
        refine Eq_getR dX2_read_33 fl_X2_9 (ws_3 hW) rfl (wp_3_0 hW) ?_
        refine Eq_bp (v := nI 59) dX2_read_36 rfl ?_
        refine Eq_W1 (N := m_X9_pass) dX2_read_38 lk_X2_34 mV_X9_pass (c_pass hW hA (c := 59) (by omega)) (by decide) (ws_1 hW) rfl (by decide) (Nat.le_of_ble_eq_true rfl) (Nat.le_of_ble_eq_true rfl) (fun vq hq1 hq2 => ?_)
        rw [if_neg e] at hq2
        obtain ⟨rfl, hf1, hA1⟩ := hq2
        have hW1 := hf1.Wd hW
        have hD1 := hD.fx hf1 (by decide)
        refine Et_if_eq 55 dX2_read_41 rfl (by rfl) ?_
        obtain ⟨v5, h5, z1, z2, z3⟩ := c_read_ok hW1 hA1 hD1 nx_nx
        exact ⟨v5, h5, z1, (hf1.mono (by decide) (by decide)).tr z2, z3⟩
set_option maxHeartbeats 2000000 in
theorem c_clear4 {h : am_H} (hW : Wd h)  : am_C 0 m_X5_clear [.ref 4] h (none, am_wI (am_wI h 4 0 (nI 0)) 4 1 (nI 0)) := by
  refine q_aln dX5_clear_0 rfl ?_
  refine q_ic (v := nI 0) dX5_clear_1 rfl ?_
  refine am_x_putI dX5_clear_2 (fw_X5_9 rfl) (ws_4 hW) (Or.inl rfl) ?_
  refine q_aln dX5_clear_5 rfl ?_
  refine q_ic (v := nI 0) dX5_clear_6 rfl ?_
  refine am_x_putI dX5_clear_7 (fw_X5_15 rfl) (ws_4 hW) (Or.inr ⟨rfl, by first | exact Or.inl rfl | exact Or.inr rfl | assumption⟩) ?_
  refine q_vr dX5_clear_10 rfl ?_
  rfl
set_option maxHeartbeats 2000000 in
theorem c_read {h : am_H} (hW : Wd h) {tl : Nat} {tp : Nat → Nat} {a : Nat} (hA : TA h tl tp a)  : am_D 5 m_X2_read [.ref 3] h (fun w h2 => Fx [5] [(4, 0), (4, 1), (1, 2)] h h2 ∧ HQ tl tp (cls tl tp 161 0 (0, false, fun _ _ => 0)) w h2) := by
  have k1 : Fx [5] [(4, 0), (4, 1), (1, 2)] h (am_wI (am_wI h 4 0 (nI 0)) 4 1 (nI 0)) := (Fx.wI (Or.inr (by decide))).tr (Fx.wI (Or.inr (by decide)))
  have hA0 := hA.fx (A := []) (B := [(4, 0), (4, 1)]) ((Fx.wI (Or.inr (by decide))).tr (Fx.wI (v := nI 0) (j := 1) (r := 4) (Or.inr (by decide))) : Fx [] [(4, 0), (4, 1)] h (am_wI (am_wI h 4 0 (nI 0)) 4 1 (nI 0))) (by decide)
  have k2 : Fx [5] [(4, 0), (4, 1), (1, 2)] h (am_wI (am_wI (am_wI h 4 0 (nI 0)) 4 1 (nI 0)) 1 2 (nI 0)) := k1.tr (Fx.wI (Or.inr (by decide)))
  have hA1 := hA0.mv (b := 0) (by omega)
  have htl := hA.1.2.1
  refine Eq_aln dX2_read_0 rfl ?_
  refine Eq_getR dX2_read_1 fl_X2_18 (ws_3 hW) rfl (wp_3_1 hW) ?_
  refine Eq_V0 (N := m_X5_clear) dX2_read_4 lk_X2_22 mV_X5_clear (c_clear4 hW) (by decide) (ws_4 hW) rfl (by decide) (Nat.le_of_ble_eq_true rfl) (Nat.le_of_ble_eq_true rfl) ?_
  refine Eq_aln dX2_read_7 rfl ?_
  refine Eq_getR dX2_read_8 fl_X2_9 (ws_3 hW) rfl (wp_3_0 hW) ?_
  refine Eq_V0 (N := m_X9_rewind) dX2_read_11 lk_X2_25 mV_X9_rewind (c_rewind (k1.Wd hW)) (by decide) (ws_1 hW) rfl (by decide) (Nat.le_of_ble_eq_true rfl) (Nat.le_of_ble_eq_true rfl) ?_
  refine Eq_aln dX2_read_14 rfl ?_
  refine Eq_W0 (N := m_X2_readClause) dX2_read_15 lk_X2_30 mV_X2_readClause (c_readClause (N := 0) (g := false) (F := fun _ _ => 0) (k2.Wd hW) hA1 ⟨rfl, rfl, by omega, fun i m _ hm => by omega, fun i m hm => by omega⟩) (by decide) (ws_3 hW) rfl (by decide) (Nat.le_of_ble_eq_true rfl) (Nat.le_of_ble_eq_true rfl) (fun vq hq1 hq2 => ?_)
  obtain ⟨hf2, hC2⟩ := hq2
  obtain ⟨xq, rfl⟩ := hC2.int
  refine Eq_isn dX2_read_18 (by decide) ?_
  refine Eam_nl (pc' := 19) (l' := [_, _, _]) rfl rfl ?_
  refine Eq_ic (v := nI 1) dX2_read_19 rfl ?_
  refine Eq_isn dX2_read_20 (by decide) ?_
  refine Eam_nl (pc' := 21) (l' := [_, _, _]) rfl rfl ?_
  obtain ⟨v5, h5, z1, z2, z3⟩ := c_read_lp 161 0 (0, false, fun _ _ => 0) hq1 _ 1 (by omega) (by omega) (by omega) ((k2.tr hf2).Wd hW) hC2
  exact ⟨v5, h5, z1, (k2.tr hf2).tr z2, z3⟩
