set_option maxHeartbeats 2000000 in
theorem c_seatOf11 {h : am_H} {n : Nat} {S T : Nat → Nat} (hW : Wd h) (hS : SB 11 12 13 h n S T) {m : Nat} (hm : m < n) : am_C 0 m_X6_seatOf [.ref 11, .int (nI m)] h (some (.int (nI (T m))), h) := by
  obtain ⟨hn, h7, hA, hT⟩ := id hS
  refine q_iln dX6_seatOf_0 rfl ?_
  refine n_if_lt (tgt := 27) dX6_seatOf_1 rfl (by omega) ?_
  refine q_iln dX6_seatOf_4 rfl ?_
  refine q_aln dX6_seatOf_5 rfl ?_
  refine q_getI dX6_seatOf_6 fl_X6_9 (ws_11 hW) rfl (by first | assumption | rfl) ?_
  refine f_ic_ge dX6_seatOf_9 (tgt := 27) rfl (by exact nI_ge (by omega) (by omega)) ?_
  refine q_iln dX6_seatOf_12 rfl ?_
  refine q_bp (v := nI 7) dX6_seatOf_13 rfl ?_
  refine f_ic_ge dX6_seatOf_15 (tgt := 27) rfl (by exact nI_ge (by omega) (by omega)) ?_
  refine q_aln dX6_seatOf_18 rfl ?_
  refine q_getR dX6_seatOf_19 fl_X6_19 (ws_11 hW) rfl (wp_11_2 hW) ?_
  refine q_iln dX6_seatOf_22 rfl ?_
  refine q_ald dX6_seatOf_23 (ws_13 hW) (by omega) (by omega) (hT _ (by omega)).1 ?_
  refine am_x_goto (tgt := 28) dX6_seatOf_24 rfl ?_
  refine q_ir dX6_seatOf_28 rfl ?_
  rfl

set_option maxHeartbeats 2000000 in
theorem c_memberOn11 {h : am_H} {n : Nat} {S T : Nat → Nat} (hW : Wd h) (hS : SB 11 12 13 h n S T) {s : Nat} (hm : s < n) : am_C 0 m_X6_memberOn [.ref 11, .int (nI s)] h (some (.int (nI (S s))), h) := by
  obtain ⟨hn, h7, hA, hT⟩ := id hS
  refine q_iln dX6_memberOn_0 rfl ?_
  refine n_if_lt (tgt := 27) dX6_memberOn_1 rfl (by omega) ?_
  refine q_iln dX6_memberOn_4 rfl ?_
  refine q_aln dX6_memberOn_5 rfl ?_
  refine q_getI dX6_memberOn_6 fl_X6_9 (ws_11 hW) rfl (by first | assumption | rfl) ?_
  refine f_ic_ge dX6_memberOn_9 (tgt := 27) rfl (by exact nI_ge (by omega) (by omega)) ?_
  refine q_iln dX6_memberOn_12 rfl ?_
  refine q_bp (v := nI 7) dX6_memberOn_13 rfl ?_
  refine f_ic_ge dX6_memberOn_15 (tgt := 27) rfl (by exact nI_ge (by omega) (by omega)) ?_
  refine q_aln dX6_memberOn_18 rfl ?_
  refine q_getR dX6_memberOn_19 fl_X6_15 (ws_11 hW) rfl (wp_11_1 hW) ?_
  refine q_iln dX6_memberOn_22 rfl ?_
  refine q_ald dX6_memberOn_23 (ws_12 hW) (by omega) (by omega) (hA _ (by omega)).1 ?_
  refine am_x_goto (tgt := 28) dX6_memberOn_24 rfl ?_
  refine q_ir dX6_memberOn_28 rfl ?_
  rfl

set_option maxHeartbeats 2000000 in
theorem c_memberOnN11 {h : am_H} {n : Nat} {S T : Nat → Nat} (hW : Wd h) (hS : SB 11 12 13 h n S T)  : am_C 0 m_X6_memberOn [.ref 11, .int (-1)] h (some (.int (-1)), h) := by
  obtain ⟨hn, h7, hA, hT⟩ := id hS
  refine q_iln dX6_memberOn_0 rfl ?_
  refine t_if_lt 27 dX6_memberOn_1 rfl (by exact m1_neg) ?_
  refine q_ic (v := -1) dX6_memberOn_27 rfl ?_
  refine q_ir dX6_memberOn_28 rfl ?_
  rfl

set_option maxHeartbeats 2000000 in
theorem c_memberOnO11 {h : am_H} {n : Nat} {S T : Nat → Nat} (hW : Wd h) (hS : SB 11 12 13 h n S T) {x : Option Nat} (hx : ∀ s, x = some s → s < n) : am_C 0 m_X6_memberOn [.ref 11, .int (oN x)] h (some (.int (oN (x.map S))), h) := by
  cases x with
  | none => exact c_memberOnN11 hW hS
  | some s => exact c_memberOn11 hW hS (hx s rfl)

set_option maxHeartbeats 2000000 in
theorem c_shas11 {h : am_H} {n : Nat} {S T : Nat → Nat} (hW : Wd h) (hS : SB 11 12 13 h n S T) {s : Nat} (hm : s < n) : am_C 0 m_X6_has [.ref 11, .int (nI s)] h (some (.int (nI 1)), h) := by
  obtain ⟨hn, h7, hA, hT⟩ := id hS
  refine q_iln dX6_has_0 rfl ?_
  refine n_if_lt (tgt := 22) dX6_has_1 rfl (by omega) ?_
  refine q_iln dX6_has_4 rfl ?_
  refine q_aln dX6_has_5 rfl ?_
  refine q_getI dX6_has_6 fl_X6_9 (ws_11 hW) rfl (by first | assumption | rfl) ?_
  refine f_ic_ge dX6_has_9 (tgt := 22) rfl (by exact nI_ge (by omega) (by omega)) ?_
  refine q_iln dX6_has_12 rfl ?_
  refine q_bp (v := nI 7) dX6_has_13 rfl ?_
  refine f_ic_ge dX6_has_15 (tgt := 22) rfl (by exact nI_ge (by omega) (by omega)) ?_
  refine q_ic (v := nI 1) dX6_has_18 rfl ?_
  refine am_x_goto (tgt := 23) dX6_has_19 rfl ?_
  first | refine q_zrn dX6_has_23 rfl (by first | omega | exact b2_le) ?_ | refine q_zr dX6_has_23 rfl (by first | exact Or.inl rfl | exact Or.inr rfl | assumption) ?_
  rfl

set_option maxHeartbeats 2000000 in
theorem c_leftOf11 {h : am_H} {n : Nat} {S T : Nat → Nat} (hW : Wd h) (hS : SB 11 12 13 h n S T) {g : Bool} {s : Nat} (hs : s < n) : am_C 0 m_X6_leftOf [.ref 11, .int (nI s), .int (nI (if g = true then 1 else 0))] h (some (.int (oN (lf n g s))), h) := by
  obtain ⟨hn, h7, hA, hT⟩ := id hS
  have hg := b2_bool g
  have e1 : 0 < s → lf n g s = some (s - 1) := fun z => by simp [lf, z]
  have e2 : ¬ 0 < s → g = true → lf n g s = some (n - 1) := fun z y => by simp [lf, z, y]
  have e3 : ¬ 0 < s → ¬ g = true → lf n g s = none := fun z y => by simp [lf, z, y]
  refine q_iln dX6_leftOf_0 rfl ?_
  first | refine n_if_gt 8 dX6_leftOf_1 rfl (by omega) (fun c1 => ?_) (fun c1 => ?_) | refine b_if_gt 8 dX6_leftOf_1 rfl (fun c1 => ?_) (fun c1 => ?_)
  · first
    | (exfalso; omega)
    | (refine q_iln dX6_leftOf_8 rfl ?_
       refine q_ic (v := nI 1) dX6_leftOf_9 rfl ?_
       first | refine q_sub dX6_leftOf_10 (by omega) ?_ | refine am_x_pu dX6_leftOf_10 rfl ?_
       refine am_x_goto (tgt := 20) dX6_leftOf_11 rfl ?_
       refine q_ir dX6_leftOf_20 rfl ?_
       (rw [e1 (by omega)]; rfl))
  · first
    | (exfalso; omega)
    | (refine q_iln dX6_leftOf_4 rfl ?_
       refine p_if_ne 14 dX6_leftOf_5 rfl (fun c5 => ?_) (fun c5 => ?_)
       · refine q_aln dX6_leftOf_14 rfl ?_
         refine q_getI dX6_leftOf_15 fl_X6_9 (ws_11 hW) rfl (by first | assumption | rfl) ?_
         refine q_ic (v := nI 1) dX6_leftOf_18 rfl ?_
         first | refine q_sub dX6_leftOf_19 (by omega) ?_ | refine am_x_pu dX6_leftOf_19 rfl ?_
         refine q_ir dX6_leftOf_20 rfl ?_
         (rw [e2 (by omega) c5]; rfl)
       · refine q_iln dX6_leftOf_8 rfl ?_
         refine q_ic (v := nI 1) dX6_leftOf_9 rfl ?_
         first | refine q_sub dX6_leftOf_10 (by omega) ?_ | refine am_x_pu dX6_leftOf_10 rfl ?_
         refine am_x_goto (tgt := 20) dX6_leftOf_11 rfl ?_
         refine q_ir dX6_leftOf_20 rfl ?_
         (rw [e3 (by omega) c5]; rw [show s = 0 by omega]; rfl))

set_option maxHeartbeats 2000000 in
theorem c_rightOf11 {h : am_H} {n : Nat} {S T : Nat → Nat} (hW : Wd h) (hS : SB 11 12 13 h n S T) {g : Bool} {s : Nat} (hs : s < n) : am_C 0 m_X6_rightOf [.ref 11, .int (nI s), .int (nI (if g = true then 1 else 0))] h (some (.int (oN (rt n g s))), h) := by
  obtain ⟨hn, h7, hA, hT⟩ := id hS
  have hg := b2_bool g
  have e1 : s + 1 < n → rt n g s = some (s + 1) := fun z => by simp [rt, z]
  have e2 : ¬ s + 1 < n → g = true → rt n g s = some 0 := fun z y => by simp [rt, z, y]
  have e3 : ¬ s + 1 < n → ¬ g = true → rt n g s = none := fun z y => by simp [rt, z, y]
  refine q_iln dX6_rightOf_0 rfl ?_
  refine q_aln dX6_rightOf_1 rfl ?_
  refine q_getI dX6_rightOf_2 fl_X6_9 (ws_11 hW) rfl (by first | assumption | rfl) ?_
  refine q_ic (v := nI 1) dX6_rightOf_5 rfl ?_
  first | refine q_sub dX6_rightOf_6 (by omega) ?_ | refine am_x_pu dX6_rightOf_6 rfl ?_
  first | refine n_ic_ge 14 dX6_rightOf_7 rfl (by omega) (by omega) (fun c7 => ?_) (fun c7 => ?_) | refine b_ic_ge 14 dX6_rightOf_7 rfl (fun c7 => ?_) (fun c7 => ?_)
  · first
    | (exfalso; omega)
    | (refine q_iln dX6_rightOf_14 rfl ?_
       refine p_if_eq 22 dX6_rightOf_15 rfl (fun c5 => ?_) (fun c5 => ?_)
       · refine q_ic (v := -1) dX6_rightOf_22 rfl ?_
         refine q_ir dX6_rightOf_23 rfl ?_
         (rw [e3 (by omega) c5]; rfl)
       · refine q_ic (v := nI 0) dX6_rightOf_18 rfl ?_
         refine am_x_goto (tgt := 23) dX6_rightOf_19 rfl ?_
         refine q_ir dX6_rightOf_23 rfl ?_
         (rw [e2 (by omega) c5]; rfl))
  · first
    | (exfalso; omega)
    | (refine q_iln dX6_rightOf_10 rfl ?_
       refine q_ic (v := nI 1) dX6_rightOf_11 rfl ?_
       first | refine q_add dX6_rightOf_12 ?_ | refine am_x_pu dX6_rightOf_12 rfl ?_
       refine q_ir dX6_rightOf_13 rfl ?_
       (rw [e1 (by omega)]; rfl))

set_option maxHeartbeats 2000000 in
theorem c_digits_lp11 {h : am_H} {n : Nat} {S T : Nat → Nat} (hW : Wd h) (hS : SB 11 12 13 h n S T)  : ∀ k j, j + k = n → am_Sem 0 m_X6_digits 4 [some (.ref 11), some (.int (nI (dg S j))), some (.int (nI j))] [] h (some (.int (nI (dg S n))), h) := by
  obtain ⟨hn, h7, hA, hT⟩ := id hS
  intro k
  induction k with
  | zero =>
    intro j hj
    have hjn : j = n := by omega
    subst hjn
    refine q_iln dX6_digits_4 rfl ?_
    refine q_aln dX6_digits_5 rfl ?_
    refine q_getI dX6_digits_6 fl_X6_9 (ws_11 hW) rfl (by first | assumption | rfl) ?_
    refine t_ic_ge 36 dX6_digits_9 rfl (by exact nI_le (by omega) (by omega)) ?_
    refine q_iln dX6_digits_36 rfl ?_
    refine q_ir dX6_digits_37 rfl ?_
    rfl
  | succ k ih =>
    intro j hj
    refine q_iln dX6_digits_4 rfl ?_
    refine q_aln dX6_digits_5 rfl ?_
    refine q_getI dX6_digits_6 fl_X6_9 (ws_11 hW) rfl (by first | assumption | rfl) ?_
    refine f_ic_ge dX6_digits_9 (tgt := 36) rfl (by exact nI_ge (by omega) (by omega)) ?_
    refine q_iln dX6_digits_12 rfl ?_
    refine q_bp (v := nI 7) dX6_digits_13 rfl ?_
    refine f_ic_ge dX6_digits_15 (tgt := 36) rfl (by exact nI_ge (by omega) (by omega)) ?_
    refine q_iln dX6_digits_18 rfl ?_
    refine q_bp (v := nI 10) dX6_digits_19 rfl ?_
    first | refine q_mul dX6_digits_21 ?_ | refine am_x_pu dX6_digits_21 rfl ?_
    refine q_aln dX6_digits_22 rfl ?_
    refine q_getR dX6_digits_23 fl_X6_15 (ws_11 hW) rfl (wp_11_1 hW) ?_
    refine q_iln dX6_digits_26 rfl ?_
    refine q_ald dX6_digits_27 (ws_12 hW) (by omega) (by omega) (hA _ (by omega)).1 ?_
    first | refine q_add dX6_digits_28 ?_ | refine am_x_pu dX6_digits_28 rfl ?_
    refine q_isn dX6_digits_29 (by decide) ?_
    refine q_inc dX6_digits_30 rfl (by decide) ?_
    refine am_x_goto (tgt := 4) dX6_digits_33 rfl ?_
    exact ih (j + 1) (by omega)

set_option maxHeartbeats 2000000 in
theorem c_digits11 {h : am_H} {n : Nat} {S T : Nat → Nat} (hW : Wd h) (hS : SB 11 12 13 h n S T)  : am_C 0 m_X6_digits [.ref 11] h (some (.int (nI (dg S n))), h) := by
  refine q_ic (v := nI 0) dX6_digits_0 rfl ?_
  refine q_isn dX6_digits_1 (by decide) ?_
  refine q_ic (v := nI 0) dX6_digits_2 rfl ?_
  refine q_isn dX6_digits_3 (by decide) ?_
  exact c_digits_lp11 hW hS n 0 (by omega)

set_option maxHeartbeats 2000000 in
theorem c_put11 {h : am_H} {n m s : Nat} (hW : Wd h) (hn : am_i h 11 0 = nI n) (h7 : n ≤ 7) (hm : m < n) (hs : s < n) : am_C 1 m_X6_put [.ref 11, .int (nI m), .int (nI s)] h (none, am_wI (am_wI h 12 s (nI m)) 13 m (nI s)) := by
  have hh : ∀ k, k < n → am_C 0 m_X6_has [.ref 11, .int (nI k)] h (some (.int (nI 1)), h) := by
    intro k hk
    refine q_iln dX6_has_0 rfl ?_
    refine n_if_lt (tgt := 22) dX6_has_1 rfl (by omega) ?_
    refine q_iln dX6_has_4 rfl ?_
    refine q_aln dX6_has_5 rfl ?_
    refine q_getI dX6_has_6 fl_X6_9 (ws_11 hW) rfl (by first | assumption | rfl) ?_
    refine f_ic_ge dX6_has_9 (tgt := 22) rfl (by exact nI_ge (by omega) (by omega)) ?_
    refine q_iln dX6_has_12 rfl ?_
    refine q_bp (v := nI 7) dX6_has_13 rfl ?_
    refine f_ic_ge dX6_has_15 (tgt := 22) rfl (by exact nI_ge (by omega) (by omega)) ?_
    refine q_ic (v := nI 1) dX6_has_18 rfl ?_
    refine am_x_goto (tgt := 23) dX6_has_19 rfl ?_
    first | refine q_zrn dX6_has_23 rfl (by first | omega | exact b2_le) ?_ | refine q_zr dX6_has_23 rfl (by first | exact Or.inl rfl | exact Or.inr rfl | assumption) ?_
    rfl
  refine q_aln dX6_put_0 rfl ?_
  refine q_iln dX6_put_1 rfl ?_
  refine q_V1 (N := m_X6_has) dX6_put_2 lk_X6_41 mV_X6_has (hh _ (by omega)) (by decide) (ws_11 hW) rfl (by decide) (Nat.le_of_ble_eq_true rfl) (Nat.le_of_ble_eq_true rfl) ?_
  refine f_if_eq dX6_put_5 (tgt := 30) rfl (by exact nI_ne0 (by omega) (by omega)) ?_
  refine q_aln dX6_put_8 rfl ?_
  refine q_iln dX6_put_9 rfl ?_
  refine q_V1 (N := m_X6_has) dX6_put_10 lk_X6_41 mV_X6_has (hh _ (by omega)) (by decide) (ws_11 hW) rfl (by decide) (Nat.le_of_ble_eq_true rfl) (Nat.le_of_ble_eq_true rfl) ?_
  refine f_if_eq dX6_put_13 (tgt := 30) rfl (by exact nI_ne0 (by omega) (by omega)) ?_
  refine q_aln dX6_put_16 rfl ?_
  refine q_getR dX6_put_17 fl_X6_15 (ws_11 hW) rfl (wp_11_1 hW) ?_
  refine q_iln dX6_put_20 rfl ?_
  refine q_iln dX6_put_21 rfl ?_
  refine q_ast dX6_put_22 (ws_12 hW) (by omega) (by omega) ?_
  refine q_aln dX6_put_23 rfl ?_
  refine q_getR dX6_put_24 fl_X6_19 (ws_11 hW) rfl (wp_11_2 hW) ?_
  refine q_iln dX6_put_27 rfl ?_
  refine q_iln dX6_put_28 rfl ?_
  refine q_ast dX6_put_29 (ws_13 hW) (by omega) (by omega) ?_
  refine q_vr dX6_put_30 rfl ?_
  rfl

set_option maxHeartbeats 2000000 in
theorem c_seatOf30 {h : am_H} {n : Nat} {S T : Nat → Nat} (hW : Wd h) (hS : SB 30 31 32 h n S T) {m : Nat} (hm : m < n) : am_C 0 m_X6_seatOf [.ref 30, .int (nI m)] h (some (.int (nI (T m))), h) := by
  obtain ⟨hn, h7, hA, hT⟩ := id hS
  refine q_iln dX6_seatOf_0 rfl ?_
  refine n_if_lt (tgt := 27) dX6_seatOf_1 rfl (by omega) ?_
  refine q_iln dX6_seatOf_4 rfl ?_
  refine q_aln dX6_seatOf_5 rfl ?_
  refine q_getI dX6_seatOf_6 fl_X6_9 (ws_30 hW) rfl (by first | assumption | rfl) ?_
  refine f_ic_ge dX6_seatOf_9 (tgt := 27) rfl (by exact nI_ge (by omega) (by omega)) ?_
  refine q_iln dX6_seatOf_12 rfl ?_
  refine q_bp (v := nI 7) dX6_seatOf_13 rfl ?_
  refine f_ic_ge dX6_seatOf_15 (tgt := 27) rfl (by exact nI_ge (by omega) (by omega)) ?_
  refine q_aln dX6_seatOf_18 rfl ?_
  refine q_getR dX6_seatOf_19 fl_X6_19 (ws_30 hW) rfl (wp_30_2 hW) ?_
  refine q_iln dX6_seatOf_22 rfl ?_
  refine q_ald dX6_seatOf_23 (ws_32 hW) (by omega) (by omega) (hT _ (by omega)).1 ?_
  refine am_x_goto (tgt := 28) dX6_seatOf_24 rfl ?_
  refine q_ir dX6_seatOf_28 rfl ?_
  rfl

set_option maxHeartbeats 2000000 in
theorem c_memberOn30 {h : am_H} {n : Nat} {S T : Nat → Nat} (hW : Wd h) (hS : SB 30 31 32 h n S T) {s : Nat} (hm : s < n) : am_C 0 m_X6_memberOn [.ref 30, .int (nI s)] h (some (.int (nI (S s))), h) := by
  obtain ⟨hn, h7, hA, hT⟩ := id hS
  refine q_iln dX6_memberOn_0 rfl ?_
  refine n_if_lt (tgt := 27) dX6_memberOn_1 rfl (by omega) ?_
  refine q_iln dX6_memberOn_4 rfl ?_
  refine q_aln dX6_memberOn_5 rfl ?_
  refine q_getI dX6_memberOn_6 fl_X6_9 (ws_30 hW) rfl (by first | assumption | rfl) ?_
  refine f_ic_ge dX6_memberOn_9 (tgt := 27) rfl (by exact nI_ge (by omega) (by omega)) ?_
  refine q_iln dX6_memberOn_12 rfl ?_
  refine q_bp (v := nI 7) dX6_memberOn_13 rfl ?_
  refine f_ic_ge dX6_memberOn_15 (tgt := 27) rfl (by exact nI_ge (by omega) (by omega)) ?_
  refine q_aln dX6_memberOn_18 rfl ?_
  refine q_getR dX6_memberOn_19 fl_X6_15 (ws_30 hW) rfl (wp_30_1 hW) ?_
  refine q_iln dX6_memberOn_22 rfl ?_
  refine q_ald dX6_memberOn_23 (ws_31 hW) (by omega) (by omega) (hA _ (by omega)).1 ?_
  refine am_x_goto (tgt := 28) dX6_memberOn_24 rfl ?_
  refine q_ir dX6_memberOn_28 rfl ?_
  rfl

set_option maxHeartbeats 2000000 in
theorem c_memberOnN30 {h : am_H} {n : Nat} {S T : Nat → Nat} (hW : Wd h) (hS : SB 30 31 32 h n S T)  : am_C 0 m_X6_memberOn [.ref 30, .int (-1)] h (some (.int (-1)), h) := by
  obtain ⟨hn, h7, hA, hT⟩ := id hS
  refine q_iln dX6_memberOn_0 rfl ?_
  refine t_if_lt 27 dX6_memberOn_1 rfl (by exact m1_neg) ?_
  refine q_ic (v := -1) dX6_memberOn_27 rfl ?_
  refine q_ir dX6_memberOn_28 rfl ?_
  rfl

set_option maxHeartbeats 2000000 in
theorem c_memberOnO30 {h : am_H} {n : Nat} {S T : Nat → Nat} (hW : Wd h) (hS : SB 30 31 32 h n S T) {x : Option Nat} (hx : ∀ s, x = some s → s < n) : am_C 0 m_X6_memberOn [.ref 30, .int (oN x)] h (some (.int (oN (x.map S))), h) := by
  cases x with
  | none => exact c_memberOnN30 hW hS
  | some s => exact c_memberOn30 hW hS (hx s rfl)

set_option maxHeartbeats 2000000 in
theorem c_shas30 {h : am_H} {n : Nat} {S T : Nat → Nat} (hW : Wd h) (hS : SB 30 31 32 h n S T) {s : Nat} (hm : s < n) : am_C 0 m_X6_has [.ref 30, .int (nI s)] h (some (.int (nI 1)), h) := by
  obtain ⟨hn, h7, hA, hT⟩ := id hS
  refine q_iln dX6_has_0 rfl ?_
  refine n_if_lt (tgt := 22) dX6_has_1 rfl (by omega) ?_
  refine q_iln dX6_has_4 rfl ?_
  refine q_aln dX6_has_5 rfl ?_
  refine q_getI dX6_has_6 fl_X6_9 (ws_30 hW) rfl (by first | assumption | rfl) ?_
  refine f_ic_ge dX6_has_9 (tgt := 22) rfl (by exact nI_ge (by omega) (by omega)) ?_
  refine q_iln dX6_has_12 rfl ?_
  refine q_bp (v := nI 7) dX6_has_13 rfl ?_
  refine f_ic_ge dX6_has_15 (tgt := 22) rfl (by exact nI_ge (by omega) (by omega)) ?_
  refine q_ic (v := nI 1) dX6_has_18 rfl ?_
  refine am_x_goto (tgt := 23) dX6_has_19 rfl ?_
  first | refine q_zrn dX6_has_23 rfl (by first | omega | exact b2_le) ?_ | refine q_zr dX6_has_23 rfl (by first | exact Or.inl rfl | exact Or.inr rfl | assumption) ?_
  rfl

set_option maxHeartbeats 2000000 in
theorem c_leftOf30 {h : am_H} {n : Nat} {S T : Nat → Nat} (hW : Wd h) (hS : SB 30 31 32 h n S T) {g : Bool} {s : Nat} (hs : s < n) : am_C 0 m_X6_leftOf [.ref 30, .int (nI s), .int (nI (if g = true then 1 else 0))] h (some (.int (oN (lf n g s))), h) := by
  obtain ⟨hn, h7, hA, hT⟩ := id hS
  have hg := b2_bool g
  have e1 : 0 < s → lf n g s = some (s - 1) := fun z => by simp [lf, z]
  have e2 : ¬ 0 < s → g = true → lf n g s = some (n - 1) := fun z y => by simp [lf, z, y]
  have e3 : ¬ 0 < s → ¬ g = true → lf n g s = none := fun z y => by simp [lf, z, y]
  refine q_iln dX6_leftOf_0 rfl ?_
  first | refine n_if_gt 8 dX6_leftOf_1 rfl (by omega) (fun c1 => ?_) (fun c1 => ?_) | refine b_if_gt 8 dX6_leftOf_1 rfl (fun c1 => ?_) (fun c1 => ?_)
  · first
    | (exfalso; omega)
    | (refine q_iln dX6_leftOf_8 rfl ?_
       refine q_ic (v := nI 1) dX6_leftOf_9 rfl ?_
       first | refine q_sub dX6_leftOf_10 (by omega) ?_ | refine am_x_pu dX6_leftOf_10 rfl ?_
       refine am_x_goto (tgt := 20) dX6_leftOf_11 rfl ?_
       refine q_ir dX6_leftOf_20 rfl ?_
       (rw [e1 (by omega)]; rfl))
  · first
    | (exfalso; omega)
    | (refine q_iln dX6_leftOf_4 rfl ?_
       refine p_if_ne 14 dX6_leftOf_5 rfl (fun c5 => ?_) (fun c5 => ?_)
       · refine q_aln dX6_leftOf_14 rfl ?_
         refine q_getI dX6_leftOf_15 fl_X6_9 (ws_30 hW) rfl (by first | assumption | rfl) ?_
         refine q_ic (v := nI 1) dX6_leftOf_18 rfl ?_
         first | refine q_sub dX6_leftOf_19 (by omega) ?_ | refine am_x_pu dX6_leftOf_19 rfl ?_
         refine q_ir dX6_leftOf_20 rfl ?_
         (rw [e2 (by omega) c5]; rfl)
       · refine q_iln dX6_leftOf_8 rfl ?_
         refine q_ic (v := nI 1) dX6_leftOf_9 rfl ?_
         first | refine q_sub dX6_leftOf_10 (by omega) ?_ | refine am_x_pu dX6_leftOf_10 rfl ?_
         refine am_x_goto (tgt := 20) dX6_leftOf_11 rfl ?_
         refine q_ir dX6_leftOf_20 rfl ?_
         (rw [e3 (by omega) c5]; rw [show s = 0 by omega]; rfl))

set_option maxHeartbeats 2000000 in
theorem c_rightOf30 {h : am_H} {n : Nat} {S T : Nat → Nat} (hW : Wd h) (hS : SB 30 31 32 h n S T) {g : Bool} {s : Nat} (hs : s < n) : am_C 0 m_X6_rightOf [.ref 30, .int (nI s), .int (nI (if g = true then 1 else 0))] h (some (.int (oN (rt n g s))), h) := by
  obtain ⟨hn, h7, hA, hT⟩ := id hS
  have hg := b2_bool g
  have e1 : s + 1 < n → rt n g s = some (s + 1) := fun z => by simp [rt, z]
  have e2 : ¬ s + 1 < n → g = true → rt n g s = some 0 := fun z y => by simp [rt, z, y]
  have e3 : ¬ s + 1 < n → ¬ g = true → rt n g s = none := fun z y => by simp [rt, z, y]
  refine q_iln dX6_rightOf_0 rfl ?_
  refine q_aln dX6_rightOf_1 rfl ?_
  refine q_getI dX6_rightOf_2 fl_X6_9 (ws_30 hW) rfl (by first | assumption | rfl) ?_
  refine q_ic (v := nI 1) dX6_rightOf_5 rfl ?_
  first | refine q_sub dX6_rightOf_6 (by omega) ?_ | refine am_x_pu dX6_rightOf_6 rfl ?_
  first | refine n_ic_ge 14 dX6_rightOf_7 rfl (by omega) (by omega) (fun c7 => ?_) (fun c7 => ?_) | refine b_ic_ge 14 dX6_rightOf_7 rfl (fun c7 => ?_) (fun c7 => ?_)
  · first
    | (exfalso; omega)
    | (refine q_iln dX6_rightOf_14 rfl ?_
       refine p_if_eq 22 dX6_rightOf_15 rfl (fun c5 => ?_) (fun c5 => ?_)
       · refine q_ic (v := -1) dX6_rightOf_22 rfl ?_
         refine q_ir dX6_rightOf_23 rfl ?_
         (rw [e3 (by omega) c5]; rfl)
       · refine q_ic (v := nI 0) dX6_rightOf_18 rfl ?_
         refine am_x_goto (tgt := 23) dX6_rightOf_19 rfl ?_
         refine q_ir dX6_rightOf_23 rfl ?_
         (rw [e2 (by omega) c5]; rfl))
  · first
    | (exfalso; omega)
    | (refine q_iln dX6_rightOf_10 rfl ?_
       refine q_ic (v := nI 1) dX6_rightOf_11 rfl ?_
       first | refine q_add dX6_rightOf_12 ?_ | refine am_x_pu dX6_rightOf_12 rfl ?_
       refine q_ir dX6_rightOf_13 rfl ?_
       (rw [e1 (by omega)]; rfl))

set_option maxHeartbeats 2000000 in
theorem c_digits_lp30 {h : am_H} {n : Nat} {S T : Nat → Nat} (hW : Wd h) (hS : SB 30 31 32 h n S T)  : ∀ k j, j + k = n → am_Sem 0 m_X6_digits 4 [some (.ref 30), some (.int (nI (dg S j))), some (.int (nI j))] [] h (some (.int (nI (dg S n))), h) := by
  obtain ⟨hn, h7, hA, hT⟩ := id hS
  intro k
  induction k with
  | zero =>
    intro j hj
    have hjn : j = n := by omega
    subst hjn
    refine q_iln dX6_digits_4 rfl ?_
    refine q_aln dX6_digits_5 rfl ?_
    refine q_getI dX6_digits_6 fl_X6_9 (ws_30 hW) rfl (by first | assumption | rfl) ?_
    refine t_ic_ge 36 dX6_digits_9 rfl (by exact nI_le (by omega) (by omega)) ?_
    refine q_iln dX6_digits_36 rfl ?_
    refine q_ir dX6_digits_37 rfl ?_
    rfl
  | succ k ih =>
    intro j hj
    refine q_iln dX6_digits_4 rfl ?_
    refine q_aln dX6_digits_5 rfl ?_
    refine q_getI dX6_digits_6 fl_X6_9 (ws_30 hW) rfl (by first | assumption | rfl) ?_
    refine f_ic_ge dX6_digits_9 (tgt := 36) rfl (by exact nI_ge (by omega) (by omega)) ?_
    refine q_iln dX6_digits_12 rfl ?_
    refine q_bp (v := nI 7) dX6_digits_13 rfl ?_
    refine f_ic_ge dX6_digits_15 (tgt := 36) rfl (by exact nI_ge (by omega) (by omega)) ?_
    refine q_iln dX6_digits_18 rfl ?_
    refine q_bp (v := nI 10) dX6_digits_19 rfl ?_
    first | refine q_mul dX6_digits_21 ?_ | refine am_x_pu dX6_digits_21 rfl ?_
    refine q_aln dX6_digits_22 rfl ?_
    refine q_getR dX6_digits_23 fl_X6_15 (ws_30 hW) rfl (wp_30_1 hW) ?_
    refine q_iln dX6_digits_26 rfl ?_
    refine q_ald dX6_digits_27 (ws_31 hW) (by omega) (by omega) (hA _ (by omega)).1 ?_
    first | refine q_add dX6_digits_28 ?_ | refine am_x_pu dX6_digits_28 rfl ?_
    refine q_isn dX6_digits_29 (by decide) ?_
    refine q_inc dX6_digits_30 rfl (by decide) ?_
    refine am_x_goto (tgt := 4) dX6_digits_33 rfl ?_
    exact ih (j + 1) (by omega)

set_option maxHeartbeats 2000000 in
theorem c_digits30 {h : am_H} {n : Nat} {S T : Nat → Nat} (hW : Wd h) (hS : SB 30 31 32 h n S T)  : am_C 0 m_X6_digits [.ref 30] h (some (.int (nI (dg S n))), h) := by
  refine q_ic (v := nI 0) dX6_digits_0 rfl ?_
  refine q_isn dX6_digits_1 (by decide) ?_
  refine q_ic (v := nI 0) dX6_digits_2 rfl ?_
  refine q_isn dX6_digits_3 (by decide) ?_
  exact c_digits_lp30 hW hS n 0 (by omega)

set_option maxHeartbeats 2000000 in
theorem c_put30 {h : am_H} {n m s : Nat} (hW : Wd h) (hn : am_i h 30 0 = nI n) (h7 : n ≤ 7) (hm : m < n) (hs : s < n) : am_C 1 m_X6_put [.ref 30, .int (nI m), .int (nI s)] h (none, am_wI (am_wI h 31 s (nI m)) 32 m (nI s)) := by
  have hh : ∀ k, k < n → am_C 0 m_X6_has [.ref 30, .int (nI k)] h (some (.int (nI 1)), h) := by
    intro k hk
    refine q_iln dX6_has_0 rfl ?_
    refine n_if_lt (tgt := 22) dX6_has_1 rfl (by omega) ?_
    refine q_iln dX6_has_4 rfl ?_
    refine q_aln dX6_has_5 rfl ?_
    refine q_getI dX6_has_6 fl_X6_9 (ws_30 hW) rfl (by first | assumption | rfl) ?_
    refine f_ic_ge dX6_has_9 (tgt := 22) rfl (by exact nI_ge (by omega) (by omega)) ?_
    refine q_iln dX6_has_12 rfl ?_
    refine q_bp (v := nI 7) dX6_has_13 rfl ?_
    refine f_ic_ge dX6_has_15 (tgt := 22) rfl (by exact nI_ge (by omega) (by omega)) ?_
    refine q_ic (v := nI 1) dX6_has_18 rfl ?_
    refine am_x_goto (tgt := 23) dX6_has_19 rfl ?_
    first | refine q_zrn dX6_has_23 rfl (by first | omega | exact b2_le) ?_ | refine q_zr dX6_has_23 rfl (by first | exact Or.inl rfl | exact Or.inr rfl | assumption) ?_
    rfl
  refine q_aln dX6_put_0 rfl ?_
  refine q_iln dX6_put_1 rfl ?_
  refine q_V1 (N := m_X6_has) dX6_put_2 lk_X6_41 mV_X6_has (hh _ (by omega)) (by decide) (ws_30 hW) rfl (by decide) (Nat.le_of_ble_eq_true rfl) (Nat.le_of_ble_eq_true rfl) ?_
  refine f_if_eq dX6_put_5 (tgt := 30) rfl (by exact nI_ne0 (by omega) (by omega)) ?_
  refine q_aln dX6_put_8 rfl ?_
  refine q_iln dX6_put_9 rfl ?_
  refine q_V1 (N := m_X6_has) dX6_put_10 lk_X6_41 mV_X6_has (hh _ (by omega)) (by decide) (ws_30 hW) rfl (by decide) (Nat.le_of_ble_eq_true rfl) (Nat.le_of_ble_eq_true rfl) ?_
  refine f_if_eq dX6_put_13 (tgt := 30) rfl (by exact nI_ne0 (by omega) (by omega)) ?_
  refine q_aln dX6_put_16 rfl ?_
  refine q_getR dX6_put_17 fl_X6_15 (ws_30 hW) rfl (wp_30_1 hW) ?_
  refine q_iln dX6_put_20 rfl ?_
  refine q_iln dX6_put_21 rfl ?_
  refine q_ast dX6_put_22 (ws_31 hW) (by omega) (by omega) ?_
  refine q_aln dX6_put_23 rfl ?_
  refine q_getR dX6_put_24 fl_X6_19 (ws_30 hW) rfl (wp_30_2 hW) ?_
  refine q_iln dX6_put_27 rfl ?_
  refine q_iln dX6_put_28 rfl ?_
  refine q_ast dX6_put_29 (ws_32 hW) (by omega) (by omega) ?_
  refine q_vr dX6_put_30 rfl ?_
  rfl

