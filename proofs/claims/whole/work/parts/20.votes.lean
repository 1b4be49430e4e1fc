set_option maxHeartbeats 2000000 in
theorem c_heardBits_lp {h : am_H} {n : Nat} {g : Bool} {F : Nat → Nat → Nat} (hW : Wd h) (hM : MB h n g F) {S T : Nat → Nat} (hS : SB 11 12 13 h n S T)  : ∀ k j, j + k = n → am_Sem 3 m_X10_heardBits 4 [some (.ref 16), some (.int (nI (bt (fun m => hrd n g F S T m) j))), some (.int (nI j))] [] h (some (.int (nI (bt (fun m => hrd n g F S T m) n))), h) := by
  obtain ⟨hn, hg, h7, hF, hB⟩ := id hM
  intro k
  induction k with
  | zero =>
    intro j hj
    have hjn : j = n := by omega
    subst hjn
    refine q_iln dX10_heardBits_4 rfl ?_
    refine q_aln dX10_heardBits_5 rfl ?_
    refine q_getR dX10_heardBits_6 fl_X10_21 (ws_16 hW) rfl (wp_16_1 hW) ?_
    refine q_getI dX10_heardBits_9 fl_X10_44 (ws_9 hW) rfl (by first | assumption | rfl) ?_
    refine t_ic_ge 42 dX10_heardBits_12 rfl (by exact nI_le (by omega) (by omega)) ?_
    refine q_iln dX10_heardBits_42 rfl ?_
    refine q_ir dX10_heardBits_43 rfl ?_
    rfl
  | succ k ih =>
    intro j hj
    have hb := hB j (by omega)
    refine q_iln dX10_heardBits_4 rfl ?_
    refine q_aln dX10_heardBits_5 rfl ?_
    refine q_getR dX10_heardBits_6 fl_X10_21 (ws_16 hW) rfl (wp_16_1 hW) ?_
    refine q_getI dX10_heardBits_9 fl_X10_44 (ws_9 hW) rfl (by first | assumption | rfl) ?_
    refine f_ic_ge dX10_heardBits_12 (tgt := 42) rfl (by exact nI_ge (by omega) (by omega)) ?_
    refine q_iln dX10_heardBits_15 rfl ?_
    refine q_aln dX10_heardBits_16 rfl ?_
    refine q_getR dX10_heardBits_17 fl_X10_9 (ws_16 hW) rfl (wp_16_0 hW) ?_
    refine q_iln dX10_heardBits_20 rfl ?_
    refine q_V1 (N := m_X8_isHeard) dX10_heardBits_21 lk_X10_49 mV_X8_isHeard (c_isHeard14 hW hM hS (by omega)) (by decide) (ws_14 hW) rfl (by decide) (Nat.le_of_ble_eq_true rfl) (Nat.le_of_ble_eq_true rfl) ?_
    first | refine p_if_eq 33 dX10_heardBits_24 rfl (fun c24 => ?_) (fun c24 => ?_) | refine n_if_eq 33 dX10_heardBits_24 rfl (by omega) (fun c24 => ?_) (fun c24 => ?_) | refine b_if_eq 33 dX10_heardBits_24 rfl (fun c24 => ?_) (fun c24 => ?_)
    · first
      | (exfalso; omega)
      | (refine q_ic (v := nI 0) dX10_heardBits_33 rfl ?_
         first | refine q_or dX10_heardBits_34 ?_ | refine am_x_pu dX10_heardBits_34 rfl ?_
         refine q_isn dX10_heardBits_35 (by decide) ?_
         refine q_inc dX10_heardBits_36 rfl (by decide) ?_
         refine am_x_goto (tgt := 4) dX10_heardBits_39 rfl ?_
         (have q := ih (j + 1) (by omega); first | (rw [bt_t (p := fun m => hrd n g F S T m) (k := j) c24] at q; exact q) | (rw [bt_f0 (p := fun m => hrd n g F S T m) (k := j) (Bool.eq_false_iff.mpr c24)] at q; exact q)))
    · first
      | (exfalso; omega)
      | (refine q_ic (v := nI 1) dX10_heardBits_27 rfl ?_
         refine q_iln dX10_heardBits_28 rfl ?_
         first | refine q_shl1 dX10_heardBits_29 (by omega) ?_ | refine am_x_pu dX10_heardBits_29 rfl ?_
         refine am_x_goto (tgt := 34) dX10_heardBits_30 rfl ?_
         first | refine q_or dX10_heardBits_34 ?_ | refine am_x_pu dX10_heardBits_34 rfl ?_
         refine q_isn dX10_heardBits_35 (by decide) ?_
         refine q_inc dX10_heardBits_36 rfl (by decide) ?_
         refine am_x_goto (tgt := 4) dX10_heardBits_39 rfl ?_
         (have q := ih (j + 1) (by omega); first | (rw [bt_t (p := fun m => hrd n g F S T m) (k := j) c24] at q; exact q) | (rw [bt_f0 (p := fun m => hrd n g F S T m) (k := j) (Bool.eq_false_iff.mpr c24)] at q; exact q)))
set_option maxHeartbeats 2000000 in
theorem c_heardBits {h : am_H} {n : Nat} {g : Bool} {F : Nat → Nat → Nat} (hW : Wd h) (hM : MB h n g F) {S T : Nat → Nat} (hS : SB 11 12 13 h n S T)  : am_C 3 m_X10_heardBits [.ref 16] h (some (.int (nI (bt (fun m => hrd n g F S T m) n))), h) := by
  refine q_ic (v := nI 0) dX10_heardBits_0 rfl ?_
  refine q_isn dX10_heardBits_1 (by decide) ?_
  refine q_ic (v := nI 0) dX10_heardBits_2 rfl ?_
  refine q_isn dX10_heardBits_3 (by decide) ?_
  exact c_heardBits_lp hW hM hS n 0 (by omega)

set_option maxHeartbeats 2000000 in
theorem c_yesBits_lp {h : am_H} {n : Nat} {g : Bool} {F : Nat → Nat → Nat} (hW : Wd h) (hM : MB h n g F) {S T : Nat → Nat} (hS : SB 11 12 13 h n S T)  : ∀ k j, j + k = n → am_Sem 1 m_X10_yesBits 4 [some (.ref 16), some (.int (nI (bt (fun m => decide (F 0 m = 1)) j))), some (.int (nI j))] [] h (some (.int (nI (bt (fun m => decide (F 0 m = 1)) n))), h) := by
  obtain ⟨hn, hg, h7, hF, hB⟩ := id hM
  intro k
  induction k with
  | zero =>
    intro j hj
    have hjn : j = n := by omega
    subst hjn
    refine q_iln dX10_yesBits_4 rfl ?_
    refine q_aln dX10_yesBits_5 rfl ?_
    refine q_getR dX10_yesBits_6 fl_X10_21 (ws_16 hW) rfl (wp_16_1 hW) ?_
    refine q_getI dX10_yesBits_9 fl_X10_44 (ws_9 hW) rfl (by first | assumption | rfl) ?_
    refine t_ic_ge 44 dX10_yesBits_12 rfl (by exact nI_le (by omega) (by omega)) ?_
    refine q_iln dX10_yesBits_44 rfl ?_
    refine q_ir dX10_yesBits_45 rfl ?_
    rfl
  | succ k ih =>
    intro j hj
    have hb := hB j (by omega)
    refine q_iln dX10_yesBits_4 rfl ?_
    refine q_aln dX10_yesBits_5 rfl ?_
    refine q_getR dX10_yesBits_6 fl_X10_21 (ws_16 hW) rfl (wp_16_1 hW) ?_
    refine q_getI dX10_yesBits_9 fl_X10_44 (ws_9 hW) rfl (by first | assumption | rfl) ?_
    refine f_ic_ge dX10_yesBits_12 (tgt := 44) rfl (by exact nI_ge (by omega) (by omega)) ?_
    refine q_iln dX10_yesBits_15 rfl ?_
    refine q_aln dX10_yesBits_16 rfl ?_
    refine q_getR dX10_yesBits_17 fl_X10_21 (ws_16 hW) rfl (wp_16_1 hW) ?_
    refine q_ic (v := nI 0) dX10_yesBits_20 rfl ?_
    refine q_iln dX10_yesBits_21 rfl ?_
    refine q_V2 (N := m_X5_fact) dX10_yesBits_22 lk_X10_53 mV_X5_fact (c_fact hW hM (by omega) (by omega)) (by decide) (ws_9 hW) rfl (by decide) (Nat.le_of_ble_eq_true rfl) (Nat.le_of_ble_eq_true rfl) ?_
    refine q_ic (v := nI 1) dX10_yesBits_25 rfl ?_
    first | refine n_ic_ne 35 dX10_yesBits_26 rfl (by omega) (by omega) (fun c26 => ?_) (fun c26 => ?_) | refine b_ic_ne 35 dX10_yesBits_26 rfl (fun c26 => ?_) (fun c26 => ?_)
    · first
      | (exfalso; omega)
      | (refine q_ic (v := nI 0) dX10_yesBits_35 rfl ?_
         first | refine q_or dX10_yesBits_36 ?_ | refine am_x_pu dX10_yesBits_36 rfl ?_
         refine q_isn dX10_yesBits_37 (by decide) ?_
         refine q_inc dX10_yesBits_38 rfl (by decide) ?_
         refine am_x_goto (tgt := 4) dX10_yesBits_41 rfl ?_
         (have q := ih (j + 1) (by omega); first | (rw [bt_t (p := fun m => decide (F 0 m = 1)) (k := j) (decide_eq_true c26)] at q; exact q) | (rw [bt_f0 (p := fun m => decide (F 0 m = 1)) (k := j) (decide_eq_false c26)] at q; exact q)))
    · first
      | (exfalso; omega)
      | (refine q_ic (v := nI 1) dX10_yesBits_29 rfl ?_
         refine q_iln dX10_yesBits_30 rfl ?_
         first | refine q_shl1 dX10_yesBits_31 (by omega) ?_ | refine am_x_pu dX10_yesBits_31 rfl ?_
         refine am_x_goto (tgt := 36) dX10_yesBits_32 rfl ?_
         first | refine q_or dX10_yesBits_36 ?_ | refine am_x_pu dX10_yesBits_36 rfl ?_
         refine q_isn dX10_yesBits_37 (by decide) ?_
         refine q_inc dX10_yesBits_38 rfl (by decide) ?_
         refine am_x_goto (tgt := 4) dX10_yesBits_41 rfl ?_
         (have q := ih (j + 1) (by omega); first | (rw [bt_t (p := fun m => decide (F 0 m = 1)) (k := j) (decide_eq_true c26)] at q; exact q) | (rw [bt_f0 (p := fun m => decide (F 0 m = 1)) (k := j) (decide_eq_false c26)] at q; exact q)))
set_option maxHeartbeats 2000000 in
theorem c_yesBits {h : am_H} {n : Nat} {g : Bool} {F : Nat → Nat → Nat} (hW : Wd h) (hM : MB h n g F) {S T : Nat → Nat} (hS : SB 11 12 13 h n S T)  : am_C 1 m_X10_yesBits [.ref 16] h (some (.int (nI (bt (fun m => decide (F 0 m = 1)) n))), h) := by
  refine q_ic (v := nI 0) dX10_yesBits_0 rfl ?_
  refine q_isn dX10_yesBits_1 (by decide) ?_
  refine q_ic (v := nI 0) dX10_yesBits_2 rfl ?_
  refine q_isn dX10_yesBits_3 (by decide) ?_
  exact c_yesBits_lp hW hM hS n 0 (by omega)
set_option maxHeartbeats 2000000 in
theorem c_heard {h : am_H} {n : Nat} {g : Bool} {F : Nat → Nat → Nat} (hW : Wd h) (hM : MB h n g F) {S T : Nat → Nat} (hS : SB 11 12 13 h n S T)  : am_C 4 m_X10_heard [.ref 16] h (some (.int (nI (ct (fun m => hrd n g F S T m) n))), h) := by
  have h7 := hM.2.2.1
  have h8 := bt_128 (fun m => hrd n g F S T m) h7
  refine q_aln dX10_heard_0 rfl ?_
  refine q_V0 (N := m_X10_heardBits) dX10_heard_1 lk_X10_57 mV_X10_heardBits (c_heardBits hW hM hS) (by decide) (ws_16 hW) rfl (by decide) (Nat.le_of_ble_eq_true rfl) (Nat.le_of_ble_eq_true rfl) ?_
  refine q_S1 (N := m_J6_bitCount_0f7a4) dX10_heard_4 lk_X10_61 mS_J6_bitCount_0f7a4 (c_bitCount (by omega)) (by decide) (Nat.le_of_ble_eq_true rfl) (Nat.le_of_ble_eq_true rfl) ?_
  refine q_ir dX10_heard_7 rfl ?_
  (rw [popc_bt _ h7])
set_option maxHeartbeats 2000000 in
theorem c_plainYes {h : am_H} {n : Nat} {g : Bool} {F : Nat → Nat → Nat} (hW : Wd h) (hM : MB h n g F) {S T : Nat → Nat} (hS : SB 11 12 13 h n S T)  : am_C 4 m_X10_plainYes [.ref 16] h (some (.int (nI (ct (fun m => hrd n g F S T m && decide (F 0 m = 1)) n))), h) := by
  have h7 := hM.2.2.1
  have h8 := bt_128 (fun m => hrd n g F S T m) h7
  refine q_aln dX10_plainYes_0 rfl ?_
  refine q_V0 (N := m_X10_heardBits) dX10_plainYes_1 lk_X10_57 mV_X10_heardBits (c_heardBits hW hM hS) (by decide) (ws_16 hW) rfl (by decide) (Nat.le_of_ble_eq_true rfl) (Nat.le_of_ble_eq_true rfl) ?_
  refine q_aln dX10_plainYes_4 rfl ?_
  refine q_V0 (N := m_X10_yesBits) dX10_plainYes_5 lk_X10_67 mV_X10_yesBits (c_yesBits hW hM hS) (by decide) (ws_16 hW) rfl (by decide) (Nat.le_of_ble_eq_true rfl) (Nat.le_of_ble_eq_true rfl) ?_
  first | refine q_and dX10_plainYes_8 ?_ | refine am_x_pu dX10_plainYes_8 rfl ?_
  refine q_S1 (N := m_J6_bitCount_0f7a4) dX10_plainYes_9 lk_X10_61 mS_J6_bitCount_0f7a4 (c_bitCount (and_128 (by omega))) (by decide) (Nat.le_of_ble_eq_true rfl) (Nat.le_of_ble_eq_true rfl) ?_
  refine q_ir dX10_plainYes_12 rfl ?_
  (rw [popc_and _ _ h7])
set_option maxHeartbeats 2000000 in
theorem c_passes {h : am_H} {a b : Nat} (ha : a < 1000) (hb : b < 1000) : am_C 0 m_X10_passes [.int (nI a), .int (nI b)] h (some (.int (nI (if b < a * 2 then 1 else 0))), h) := by
  refine q_iln dX10_passes_0 rfl ?_
  refine q_ic (v := nI 2) dX10_passes_1 rfl ?_
  first | refine q_mul dX10_passes_2 ?_ | refine am_x_pu dX10_passes_2 rfl ?_
  refine q_iln dX10_passes_3 rfl ?_
  first | refine n_ic_le 11 dX10_passes_4 rfl (by omega) (by omega) (fun c4 => ?_) (fun c4 => ?_) | refine b_ic_le 11 dX10_passes_4 rfl (fun c4 => ?_) (fun c4 => ?_)
  · first
    | (exfalso; omega)
    | (refine q_ic (v := nI 0) dX10_passes_11 rfl ?_
       first | refine q_zrn dX10_passes_12 rfl (by first | omega | exact b2_le) ?_ | refine q_zr dX10_passes_12 rfl (by first | exact Or.inl rfl | exact Or.inr rfl | assumption) ?_
       (apply o_nI; first | rw [if_pos (by omega)] | rw [if_neg (by omega)]))
  · first
    | (exfalso; omega)
    | (refine q_ic (v := nI 1) dX10_passes_7 rfl ?_
       refine am_x_goto (tgt := 12) dX10_passes_8 rfl ?_
       first | refine q_zrn dX10_passes_12 rfl (by first | omega | exact b2_le) ?_ | refine q_zr dX10_passes_12 rfl (by first | exact Or.inl rfl | exact Or.inr rfl | assumption) ?_
       (apply o_nI; first | rw [if_pos (by omega)] | rw [if_neg (by omega)]))
set_option maxHeartbeats 2000000 in
theorem c_hear_lp {h : am_H} {y : Nat} {pp : Nat → Nat} (hW : Wd h) (hy : y ≤ 100) : ∀ k hc (x3 x4 : Option Value), k ≤ 8 → Fr [17] h hc → (∀ i, i < 8 → am_l hc 17 i = lN (if k ≤ i then hrP y pp i else pp i)) → am_E 0 m_X10_hear 8 [some (.ref 16), some (.int (nI y)), some (.int (dk k)), x3, x4] [] hc (fun v h2 => v = none ∧ Fr [17] h h2 ∧ ∀ i, i < 8 → am_l h2 17 i = lN (hrP y pp i)) := by
  intro k
  induction k with
  | zero =>
    intro hc x3 x4 hk hfr hc1
    have hW := hfr.Wd hW
    refine Eq_iln dX10_hear_8 rfl ?_
    refine Et_if_lt 58 dX10_hear_9 rfl (by exact m1_neg) ?_
    refine Eq_vr dX10_hear_58 rfl ?_
    exact ⟨rfl, hfr, fun i hi => by rw [hc1 i hi, if_pos (by omega)]⟩
  | succ k ih =>
    intro hc x3 x4 hk hfr hc1
    have hW := hfr.Wd hW
    show am_E 0 m_X10_hear 8 [some (.ref 16), some (.int (nI y)), some (.int (nI k)), x3, x4] [] hc _
    refine Eq_iln dX10_hear_8 rfl ?_
    refine En_if_lt (tgt := 58) dX10_hear_9 rfl (by omega) ?_
    refine Eq_iln dX10_hear_12 rfl ?_
    first | refine En_if_le 30 dX10_hear_13 rfl (by omega) (fun c13 => ?_) (fun c13 => ?_) | refine Eb_if_le 30 dX10_hear_13 rfl (fun c13 => ?_) (fun c13 => ?_)
    · first
      | (exfalso; omega)
      | (refine Eq_lc (v := lN 0) dX10_hear_30 rfl ?_
         refine Eq_lsn dX10_hear_31 (by decide) ?_
         refine Eq_aln dX10_hear_32 rfl ?_
         refine Eq_getR dX10_hear_33 fl_X10_22 (ws_16 hW) rfl (wp_16_2 hW) ?_
         refine Eq_iln dX10_hear_36 rfl ?_
         refine Eq_aln dX10_hear_37 rfl ?_
         refine Eq_getR dX10_hear_38 fl_X10_22 (ws_16 hW) rfl (wp_16_2 hW) ?_
         refine Eq_iln dX10_hear_41 rfl ?_
         refine Eq_lld dX10_hear_42 (ws_17 hW) (by omega) (by omega) (hc1 _ (by omega)) ?_
         refine Eq_bp (v := nI 100) dX10_hear_43 rfl ?_
         refine Eq_iln dX10_hear_45 rfl ?_
         first | refine Eq_sub dX10_hear_46 (by omega) ?_ | refine Eam_x_pu dX10_hear_46 rfl ?_
         first | refine Eq_i2l dX10_hear_47 (by omega) ?_ | refine Eam_x_pu dX10_hear_47 rfl ?_
         first | refine Eq_lmul dX10_hear_48 ?_ | refine Eam_x_pu dX10_hear_48 rfl ?_
         refine Eq_lln dX10_hear_49 rfl ?_
         first | refine Eq_ladd dX10_hear_50 ?_ | refine Eam_x_pu dX10_hear_50 rfl ?_
         refine Eq_lst dX10_hear_51 (ws_17 hW) (by omega) (by omega) ?_
         refine Eq_dk dX10_hear_52 rfl (by decide) ?_
         refine Eam_x_goto (tgt := 8) dX10_hear_55 rfl ?_
         (refine ih _ _ _ (by omega) (hfr.tr (Fr.wL (by decide))) (fun i hi => ?_); rw [wL_eq, hc1 i hi]; refine hr_step ?_; first | (rw [if_neg (show ¬ k + 1 ≤ k by omega), if_neg (show ¬ k + 1 ≤ k - 1 by omega)]; simp only [hrP]; rw [if_pos (show 0 < k by omega)]) | (rw [if_neg (show ¬ k + 1 ≤ k by omega)]; simp [hrP]; omega)))
    · first
      | (exfalso; omega)
      | (refine Eq_aln dX10_hear_16 rfl ?_
         refine Eq_getR dX10_hear_17 fl_X10_22 (ws_16 hW) rfl (wp_16_2 hW) ?_
         refine Eq_iln dX10_hear_20 rfl ?_
         refine Eq_ic (v := nI 1) dX10_hear_21 rfl ?_
         first | refine Eq_sub dX10_hear_22 (by omega) ?_ | refine Eam_x_pu dX10_hear_22 rfl ?_
         refine Eq_lld dX10_hear_23 (ws_17 hW) (by omega) (by omega) (hc1 _ (by omega)) ?_
         refine Eq_iln dX10_hear_24 rfl ?_
         first | refine Eq_i2l dX10_hear_25 (by omega) ?_ | refine Eam_x_pu dX10_hear_25 rfl ?_
         first | refine Eq_lmul dX10_hear_26 ?_ | refine Eam_x_pu dX10_hear_26 rfl ?_
         refine Eam_x_goto (tgt := 31) dX10_hear_27 rfl ?_
         refine Eq_lsn dX10_hear_31 (by decide) ?_
         refine Eq_aln dX10_hear_32 rfl ?_
         refine Eq_getR dX10_hear_33 fl_X10_22 (ws_16 hW) rfl (wp_16_2 hW) ?_
         refine Eq_iln dX10_hear_36 rfl ?_
         refine Eq_aln dX10_hear_37 rfl ?_
         refine Eq_getR dX10_hear_38 fl_X10_22 (ws_16 hW) rfl (wp_16_2 hW) ?_
         refine Eq_iln dX10_hear_41 rfl ?_
         refine Eq_lld dX10_hear_42 (ws_17 hW) (by omega) (by omega) (hc1 _ (by omega)) ?_
         refine Eq_bp (v := nI 100) dX10_hear_43 rfl ?_
         refine Eq_iln dX10_hear_45 rfl ?_
         first | refine Eq_sub dX10_hear_46 (by omega) ?_ | refine Eam_x_pu dX10_hear_46 rfl ?_
         first | refine Eq_i2l dX10_hear_47 (by omega) ?_ | refine Eam_x_pu dX10_hear_47 rfl ?_
         first | refine Eq_lmul dX10_hear_48 ?_ | refine Eam_x_pu dX10_hear_48 rfl ?_
         refine Eq_lln dX10_hear_49 rfl ?_
         first | refine Eq_ladd dX10_hear_50 ?_ | refine Eam_x_pu dX10_hear_50 rfl ?_
         refine Eq_lst dX10_hear_51 (ws_17 hW) (by omega) (by omega) ?_
         refine Eq_dk dX10_hear_52 rfl (by decide) ?_
         refine Eam_x_goto (tgt := 8) dX10_hear_55 rfl ?_
         (refine ih _ _ _ (by omega) (hfr.tr (Fr.wL (by decide))) (fun i hi => ?_); rw [wL_eq, hc1 i hi]; refine hr_step ?_; first | (rw [if_neg (show ¬ k + 1 ≤ k by omega), if_neg (show ¬ k + 1 ≤ k - 1 by omega)]; simp only [hrP]; rw [if_pos (show 0 < k by omega)]) | (rw [if_neg (show ¬ k + 1 ≤ k by omega)]; simp [hrP]; omega)))
set_option maxHeartbeats 2000000 in
theorem c_hear {h : am_H} {y : Nat} {pp : Nat → Nat} (hW : Wd h) (hy : y ≤ 100) (hp : ∀ i, i < 8 → am_l h 17 i = lN (pp i)) : am_D 0 m_X10_hear [.ref 16, .int (nI y)] h (fun v h2 => v = none ∧ Fr [17] h h2 ∧ ∀ i, i < 8 → am_l h2 17 i = lN (hrP y pp i)) := by
  refine Eq_aln dX10_hear_0 rfl ?_
  refine Eq_getR dX10_hear_1 fl_X10_22 (ws_16 hW) rfl (wp_16_2 hW) ?_
  refine Eam_x_alen dX10_hear_4 (ws_17 hW) (by decide) ?_
  refine Eq_ic (v := nI 1) dX10_hear_5 rfl ?_
  first | refine Eq_sub dX10_hear_6 (by omega) ?_ | refine Eam_x_pu dX10_hear_6 rfl ?_
  refine Eq_isn dX10_hear_7 (by decide) ?_
  exact c_hear_lp hW hy 8 h _ _ (by omega) Fr.rf (fun i hi => by rw [hp i hi, if_neg (by omega)])
