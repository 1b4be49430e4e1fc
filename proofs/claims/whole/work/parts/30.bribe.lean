set_option maxHeartbeats 2000000 in
theorem c_costOf_lp {h : am_H} {n : Nat} {g : Bool} {F : Nat → Nat → Nat} (hW : Wd h) (hM : MB h n g F) {b : Nat} (hb : b < 128) : ∀ k j, j + k = n → am_Sem 1 m_X10_costOf 4 [some (.ref 16), some (.int (nI b)), some (.int (nI (cst n F b j))), some (.int (nI j))] [] h (some (.int (nI (cst n F b n))), h) := by
  obtain ⟨hn, hg, h7, hF, hB⟩ := id hM
  intro k
  induction k with
  | zero =>
    intro j hj
    have hjn : j = n := by omega
    subst hjn
    refine q_iln dX10_costOf_4 rfl ?_
    refine q_aln dX10_costOf_5 rfl ?_
    refine q_getR dX10_costOf_6 fl_X10_21 (ws_16 hW) rfl (wp_16_1 hW) ?_
    refine q_getI dX10_costOf_9 fl_X10_44 (ws_9 hW) rfl (by first | assumption | rfl) ?_
    refine t_ic_ge 46 dX10_costOf_12 rfl (by exact nI_le (by omega) (by omega)) ?_
    refine q_iln dX10_costOf_46 rfl ?_
    refine q_ir dX10_costOf_47 rfl ?_
    rfl
  | succ k ih =>
    intro j hj
    have q := ih (j + 1) (by omega)
    simp only [cst, sm] at q
    by_cases hbj : b.testBit j = true
    · rw [if_pos hbj] at q
      refine q_iln dX10_costOf_4 rfl ?_
      refine q_aln dX10_costOf_5 rfl ?_
      refine q_getR dX10_costOf_6 fl_X10_21 (ws_16 hW) rfl (wp_16_1 hW) ?_
      refine q_getI dX10_costOf_9 fl_X10_44 (ws_9 hW) rfl (by first | assumption | rfl) ?_
      refine f_ic_ge dX10_costOf_12 (tgt := 46) rfl (by exact nI_ge (by omega) (by omega)) ?_
      refine q_iln dX10_costOf_15 rfl ?_
      refine q_iln dX10_costOf_16 rfl ?_
      refine q_iln dX10_costOf_17 rfl ?_
      first | refine q_shr dX10_costOf_18 (by omega) (by omega) ?_ | refine am_x_pu dX10_costOf_18 rfl ?_
      refine q_ic (v := nI 1) dX10_costOf_19 rfl ?_
      first | refine q_and dX10_costOf_20 ?_ | refine am_x_pu dX10_costOf_20 rfl ?_
      refine f_if_eq dX10_costOf_21 (tgt := 37) rfl (by rw [bit_and, if_pos hbj]; decide +kernel) ?_
      refine q_aln dX10_costOf_24 rfl ?_
      refine q_getR dX10_costOf_25 fl_X10_21 (ws_16 hW) rfl (wp_16_1 hW) ?_
      refine q_bp (v := nI 6) dX10_costOf_28 rfl ?_
      refine q_iln dX10_costOf_30 rfl ?_
      refine q_V2 (N := m_X5_fact) dX10_costOf_31 lk_X10_53 mV_X5_fact (c_fact hW hM (by omega) (by omega)) (by decide) (ws_9 hW) rfl (by decide) (Nat.le_of_ble_eq_true rfl) (Nat.le_of_ble_eq_true rfl) ?_
      refine am_x_goto (tgt := 38) dX10_costOf_34 rfl ?_
      first | refine q_add dX10_costOf_38 ?_ | refine am_x_pu dX10_costOf_38 rfl ?_
      refine q_isn dX10_costOf_39 (by decide) ?_
      refine q_inc dX10_costOf_40 rfl (by decide) ?_
      refine am_x_goto (tgt := 4) dX10_costOf_43 rfl ?_
      exact q
    · rw [if_neg hbj] at q
      refine q_iln dX10_costOf_4 rfl ?_
      refine q_aln dX10_costOf_5 rfl ?_
      refine q_getR dX10_costOf_6 fl_X10_21 (ws_16 hW) rfl (wp_16_1 hW) ?_
      refine q_getI dX10_costOf_9 fl_X10_44 (ws_9 hW) rfl (by first | assumption | rfl) ?_
      refine f_ic_ge dX10_costOf_12 (tgt := 46) rfl (by exact nI_ge (by omega) (by omega)) ?_
      refine q_iln dX10_costOf_15 rfl ?_
      refine q_iln dX10_costOf_16 rfl ?_
      refine q_iln dX10_costOf_17 rfl ?_
      first | refine q_shr dX10_costOf_18 (by omega) (by omega) ?_ | refine am_x_pu dX10_costOf_18 rfl ?_
      refine q_ic (v := nI 1) dX10_costOf_19 rfl ?_
      first | refine q_and dX10_costOf_20 ?_ | refine am_x_pu dX10_costOf_20 rfl ?_
      refine t_if_eq 37 dX10_costOf_21 rfl (by rw [bit_and, if_neg hbj]; rfl) ?_
      refine q_ic (v := nI 0) dX10_costOf_37 rfl ?_
      first | refine q_add dX10_costOf_38 ?_ | refine am_x_pu dX10_costOf_38 rfl ?_
      refine q_isn dX10_costOf_39 (by decide) ?_
      refine q_inc dX10_costOf_40 rfl (by decide) ?_
      refine am_x_goto (tgt := 4) dX10_costOf_43 rfl ?_
      exact q
set_option maxHeartbeats 2000000 in
theorem c_costOf {h : am_H} {n : Nat} {g : Bool} {F : Nat → Nat → Nat} (hW : Wd h) (hM : MB h n g F) {b : Nat} (hb : b < 128) : am_C 1 m_X10_costOf [.ref 16, .int (nI b)] h (some (.int (nI (cst n F b n))), h) := by
  refine q_ic (v := nI 0) dX10_costOf_0 rfl ?_
  refine q_isn dX10_costOf_1 (by decide) ?_
  refine q_ic (v := nI 0) dX10_costOf_2 rfl ?_
  refine q_isn dX10_costOf_3 (by decide) ?_
  exact c_costOf_lp hW hM hb n 0 (by omega)
abbrev opn (n : Nat) (F : Nat → Nat → Nat) : Nat := bt (fun m => decide (F 3 m ≠ 1)) n &&& (127 ^^^ bt (fun m => decide (F 0 m = 1)) n)
theorem opn_lt {n : Nat} {F : Nat → Nat → Nat} (h : n ≤ 7) : opn n F < 128 := and_128 (bt_128 _ h)
set_option maxHeartbeats 2000000 in
theorem c_cheapest_lp {h : am_H} {n : Nat} {g : Bool} {F : Nat → Nat → Nat} (hW : Wd h) (hM : MB h n g F) {S T : Nat → Nat} (hS : SB 11 12 13 h n S T)  : ∀ k j (x8 x9 : Option Value), j + k = 2 ^ n → am_Sem 4 m_X10_cheapest 37 [some (.ref 16), some (.int (nI (bt (fun m => hrd n g F S T m) n))), some (.int (nI (bt (fun m => decide (F 0 m = 1)) n))), some (.int (nI (opn n F))), some (.int (nI (ct (fun m => hrd n g F S T m) n))), some (.int (oN ((bb n g F S T j).map Prod.fst))), some (.int (nI (bbv (bb n g F S T j)))), some (.int (nI j)), x8, x9] [] h (some (.int (oN ((bb n g F S T (2 ^ n)).map Prod.fst))), h) := by
  obtain ⟨hn, hg, h7, hF, hB⟩ := id hM
  have p2 := p2_128 h7
  have a2 : ct (fun m => hrd n g F S T m) n ≤ n := ct_le _ n
  intro k
  induction k with
  | zero =>
    intro j x8 x9 hj
    have hjn : j = 2 ^ n := by omega
    subst hjn
    refine q_il dX10_cheapest_37 rfl ?_
    refine q_ic (v := nI 1) dX10_cheapest_39 rfl ?_
    refine q_aln dX10_cheapest_40 rfl ?_
    refine q_getR dX10_cheapest_41 fl_X10_21 (ws_16 hW) rfl (wp_16_1 hW) ?_
    refine q_getI dX10_cheapest_44 fl_X10_44 (ws_9 hW) rfl (by first | assumption | rfl) ?_
    first | refine q_shl1 dX10_cheapest_47 (by omega) ?_ | refine am_x_pu dX10_cheapest_47 rfl ?_
    refine t_ic_ge 124 dX10_cheapest_48 rfl (by exact nI_le (by omega) (by omega)) ?_
    refine q_il dX10_cheapest_124 rfl ?_
    refine q_ir dX10_cheapest_126 rfl ?_
    rfl
  | succ k ih =>
    intro j x8 x9 hj
    have q := fun x8 x9 => ih (j + 1) x8 x9 (by omega)
    have a3 : ct (fun m => hrd n g F S T m && (decide (F 0 m = 1) || j.testBit m)) n ≤ n := ct_le _ n
    have a4 := cst_le (b := j) (fun i m hi hm => (hF i m hi hm).2) n (Nat.le_refl n)
    have hci := can_iff (F := F) (b := j) h7 (fun m hm => (hB m hm).1) (by omega)
    by_cases hcan : (j &&& (127 ^^^ opn n F)) = 0
    · by_cases hpas : ct (fun m => hrd n g F S T m) n < (ct (fun m => hrd n g F S T m && (decide (F 0 m = 1) || j.testBit m)) n) * 2
      · have hok : okb n g F S T j = true := by
          show (alB (can1 F j) n && decide (ct (fun m => hrd n g F S T m) n < 2 * ct (fun m => hrd n g F S T m && (decide (F 0 m = 1) || j.testBit m)) n)) = true
          rw [hci.mp hcan, decide_eq_true (by omega)]; rfl
        cases hq : bb n g F S T j with
        | none =>
          refine q_il dX10_cheapest_37 rfl ?_
          refine q_ic (v := nI 1) dX10_cheapest_39 rfl ?_
          refine q_aln dX10_cheapest_40 rfl ?_
          refine q_getR dX10_cheapest_41 fl_X10_21 (ws_16 hW) rfl (wp_16_1 hW) ?_
          refine q_getI dX10_cheapest_44 fl_X10_44 (ws_9 hW) rfl (by first | assumption | rfl) ?_
          first | refine q_shl1 dX10_cheapest_47 (by omega) ?_ | refine am_x_pu dX10_cheapest_47 rfl ?_
          refine f_ic_ge dX10_cheapest_48 (tgt := 124) rfl (by exact nI_ge (by omega) (by omega)) ?_
          refine q_il dX10_cheapest_51 rfl ?_
          refine q_iln dX10_cheapest_53 rfl ?_
          refine q_ic (v := -1) dX10_cheapest_54 rfl ?_
          refine am_x_pu dX10_cheapest_55 rfl ?_
          refine am_x_pu dX10_cheapest_56 rfl ?_
          rw [and_not _ (by omega) _ (opn_lt h7)]
          refine f_if_ne dX10_cheapest_57 (tgt := 64) rfl (by rw [hcan]; rfl) ?_
          refine q_ic (v := nI 1) dX10_cheapest_60 rfl ?_
          refine am_x_goto (tgt := 65) dX10_cheapest_61 rfl ?_
          refine q_is dX10_cheapest_65 (by decide) ?_
          refine q_il dX10_cheapest_67 rfl ?_
          refine f_if_eq dX10_cheapest_69 (tgt := 118) rfl (by decide +kernel) ?_
          refine q_iln dX10_cheapest_72 rfl ?_
          refine q_iln dX10_cheapest_73 rfl ?_
          refine q_il dX10_cheapest_74 rfl ?_
          first | refine q_or dX10_cheapest_76 ?_ | refine am_x_pu dX10_cheapest_76 rfl ?_
          first | refine q_and dX10_cheapest_77 ?_ | refine am_x_pu dX10_cheapest_77 rfl ?_
          refine q_S1 (N := m_J6_bitCount_0f7a4) dX10_cheapest_78 lk_X10_61 mS_J6_bitCount_0f7a4 ((by have z := c_bitCount (h := h) (b := bt (fun m => hrd n g F S T m) n &&& (bt (fun m => decide (F 0 m = 1)) n ||| j)) (and_128 (bt_128 _ h7)); rw [yb_pop h7] at z; exact z)) (by decide) (Nat.le_of_ble_eq_true rfl) (Nat.le_of_ble_eq_true rfl) ?_
          refine q_il dX10_cheapest_81 rfl ?_
          refine q_S2 (N := m_X10_passes) dX10_cheapest_83 lk_X10_83 mS_X10_passes (c_passes (Nat.lt_of_le_of_lt a3 (by omega)) (by omega)) (by decide) (Nat.le_of_ble_eq_true rfl) (Nat.le_of_ble_eq_true rfl) ?_
          refine f_if_eq dX10_cheapest_86 (tgt := 118) rfl (by rw [if_pos hpas]; decide +kernel) ?_
          refine q_aln dX10_cheapest_89 rfl ?_
          refine q_il dX10_cheapest_90 rfl ?_
          refine q_V1 (N := m_X10_costOf) dX10_cheapest_92 lk_X10_100 mV_X10_costOf (c_costOf hW hM (by omega)) (by decide) (ws_16 hW) rfl (by decide) (Nat.le_of_ble_eq_true rfl) (Nat.le_of_ble_eq_true rfl) ?_
          refine q_is dX10_cheapest_95 (by decide) ?_
          refine q_il dX10_cheapest_97 rfl ?_
          refine q_ic (v := -1) dX10_cheapest_99 rfl ?_
          refine t_ic_eq 110 dX10_cheapest_100 rfl (by rfl) ?_
          refine q_il dX10_cheapest_110 rfl ?_
          refine q_is dX10_cheapest_112 (by decide) ?_
          refine q_il dX10_cheapest_114 rfl ?_
          refine q_is dX10_cheapest_116 (by decide) ?_
          refine q_inc dX10_cheapest_118 rfl (by decide) ?_
          refine am_x_goto (tgt := 37) dX10_cheapest_121 rfl ?_
          (simp only [bb_n hok hq] at q; exact q _ _)
        | some p =>
          have hpl := bb_lt j p hq
          have a5 := cst_le (b := p.1) (fun i m hi hm => (hF i m hi hm).2) n (Nat.le_refl n)
          by_cases hl : cst n F j n < p.2
          · refine q_il dX10_cheapest_37 rfl ?_
            refine q_ic (v := nI 1) dX10_cheapest_39 rfl ?_
            refine q_aln dX10_cheapest_40 rfl ?_
            refine q_getR dX10_cheapest_41 fl_X10_21 (ws_16 hW) rfl (wp_16_1 hW) ?_
            refine q_getI dX10_cheapest_44 fl_X10_44 (ws_9 hW) rfl (by first | assumption | rfl) ?_
            first | refine q_shl1 dX10_cheapest_47 (by omega) ?_ | refine am_x_pu dX10_cheapest_47 rfl ?_
            refine f_ic_ge dX10_cheapest_48 (tgt := 124) rfl (by exact nI_ge (by omega) (by omega)) ?_
            refine q_il dX10_cheapest_51 rfl ?_
            refine q_iln dX10_cheapest_53 rfl ?_
            refine q_ic (v := -1) dX10_cheapest_54 rfl ?_
            refine am_x_pu dX10_cheapest_55 rfl ?_
            refine am_x_pu dX10_cheapest_56 rfl ?_
            rw [and_not _ (by omega) _ (opn_lt h7)]
            refine f_if_ne dX10_cheapest_57 (tgt := 64) rfl (by rw [hcan]; rfl) ?_
            refine q_ic (v := nI 1) dX10_cheapest_60 rfl ?_
            refine am_x_goto (tgt := 65) dX10_cheapest_61 rfl ?_
            refine q_is dX10_cheapest_65 (by decide) ?_
            refine q_il dX10_cheapest_67 rfl ?_
            refine f_if_eq dX10_cheapest_69 (tgt := 118) rfl (by decide +kernel) ?_
            refine q_iln dX10_cheapest_72 rfl ?_
            refine q_iln dX10_cheapest_73 rfl ?_
            refine q_il dX10_cheapest_74 rfl ?_
            first | refine q_or dX10_cheapest_76 ?_ | refine am_x_pu dX10_cheapest_76 rfl ?_
            first | refine q_and dX10_cheapest_77 ?_ | refine am_x_pu dX10_cheapest_77 rfl ?_
            refine q_S1 (N := m_J6_bitCount_0f7a4) dX10_cheapest_78 lk_X10_61 mS_J6_bitCount_0f7a4 ((by have z := c_bitCount (h := h) (b := bt (fun m => hrd n g F S T m) n &&& (bt (fun m => decide (F 0 m = 1)) n ||| j)) (and_128 (bt_128 _ h7)); rw [yb_pop h7] at z; exact z)) (by decide) (Nat.le_of_ble_eq_true rfl) (Nat.le_of_ble_eq_true rfl) ?_
            refine q_il dX10_cheapest_81 rfl ?_
            refine q_S2 (N := m_X10_passes) dX10_cheapest_83 lk_X10_83 mS_X10_passes (c_passes (Nat.lt_of_le_of_lt a3 (by omega)) (by omega)) (by decide) (Nat.le_of_ble_eq_true rfl) (Nat.le_of_ble_eq_true rfl) ?_
            refine f_if_eq dX10_cheapest_86 (tgt := 118) rfl (by rw [if_pos hpas]; decide +kernel) ?_
            refine q_aln dX10_cheapest_89 rfl ?_
            refine q_il dX10_cheapest_90 rfl ?_
            refine q_V1 (N := m_X10_costOf) dX10_cheapest_92 lk_X10_100 mV_X10_costOf (c_costOf hW hM (by omega)) (by decide) (ws_16 hW) rfl (by decide) (Nat.le_of_ble_eq_true rfl) (Nat.le_of_ble_eq_true rfl) ?_
            refine q_is dX10_cheapest_95 (by decide) ?_
            refine q_il dX10_cheapest_97 rfl ?_
            refine q_ic (v := -1) dX10_cheapest_99 rfl ?_
            refine f_ic_eq dX10_cheapest_100 (tgt := 110) rfl (by exact nI_m1 (by omega)) ?_
            refine q_il dX10_cheapest_103 rfl ?_
            refine q_il dX10_cheapest_105 rfl ?_
            refine f_ic_ge dX10_cheapest_107 (tgt := 118) rfl (by exact nI_ge (by exact hl) (show p.2 < 2 ^ 31 by omega)) ?_
            refine q_il dX10_cheapest_110 rfl ?_
            refine q_is dX10_cheapest_112 (by decide) ?_
            refine q_il dX10_cheapest_114 rfl ?_
            refine q_is dX10_cheapest_116 (by decide) ?_
            refine q_inc dX10_cheapest_118 rfl (by decide) ?_
            refine am_x_goto (tgt := 37) dX10_cheapest_121 rfl ?_
            (simp only [bb_l hok hq hl] at q; exact q _ _)
          · refine q_il dX10_cheapest_37 rfl ?_
            refine q_ic (v := nI 1) dX10_cheapest_39 rfl ?_
            refine q_aln dX10_cheapest_40 rfl ?_
            refine q_getR dX10_cheapest_41 fl_X10_21 (ws_16 hW) rfl (wp_16_1 hW) ?_
            refine q_getI dX10_cheapest_44 fl_X10_44 (ws_9 hW) rfl (by first | assumption | rfl) ?_
            first | refine q_shl1 dX10_cheapest_47 (by omega) ?_ | refine am_x_pu dX10_cheapest_47 rfl ?_
            refine f_ic_ge dX10_cheapest_48 (tgt := 124) rfl (by exact nI_ge (by omega) (by omega)) ?_
            refine q_il dX10_cheapest_51 rfl ?_
            refine q_iln dX10_cheapest_53 rfl ?_
            refine q_ic (v := -1) dX10_cheapest_54 rfl ?_
            refine am_x_pu dX10_cheapest_55 rfl ?_
            refine am_x_pu dX10_cheapest_56 rfl ?_
            rw [and_not _ (by omega) _ (opn_lt h7)]
            refine f_if_ne dX10_cheapest_57 (tgt := 64) rfl (by rw [hcan]; rfl) ?_
            refine q_ic (v := nI 1) dX10_cheapest_60 rfl ?_
            refine am_x_goto (tgt := 65) dX10_cheapest_61 rfl ?_
            refine q_is dX10_cheapest_65 (by decide) ?_
            refine q_il dX10_cheapest_67 rfl ?_
            refine f_if_eq dX10_cheapest_69 (tgt := 118) rfl (by decide +kernel) ?_
            refine q_iln dX10_cheapest_72 rfl ?_
            refine q_iln dX10_cheapest_73 rfl ?_
            refine q_il dX10_cheapest_74 rfl ?_
            first | refine q_or dX10_cheapest_76 ?_ | refine am_x_pu dX10_cheapest_76 rfl ?_
            first | refine q_and dX10_cheapest_77 ?_ | refine am_x_pu dX10_cheapest_77 rfl ?_
            refine q_S1 (N := m_J6_bitCount_0f7a4) dX10_cheapest_78 lk_X10_61 mS_J6_bitCount_0f7a4 ((by have z := c_bitCount (h := h) (b := bt (fun m => hrd n g F S T m) n &&& (bt (fun m => decide (F 0 m = 1)) n ||| j)) (and_128 (bt_128 _ h7)); rw [yb_pop h7] at z; exact z)) (by decide) (Nat.le_of_ble_eq_true rfl) (Nat.le_of_ble_eq_true rfl) ?_
            refine q_il dX10_cheapest_81 rfl ?_
            refine q_S2 (N := m_X10_passes) dX10_cheapest_83 lk_X10_83 mS_X10_passes (c_passes (Nat.lt_of_le_of_lt a3 (by omega)) (by omega)) (by decide) (Nat.le_of_ble_eq_true rfl) (Nat.le_of_ble_eq_true rfl) ?_
            refine f_if_eq dX10_cheapest_86 (tgt := 118) rfl (by rw [if_pos hpas]; decide +kernel) ?_
            refine q_aln dX10_cheapest_89 rfl ?_
            refine q_il dX10_cheapest_90 rfl ?_
            refine q_V1 (N := m_X10_costOf) dX10_cheapest_92 lk_X10_100 mV_X10_costOf (c_costOf hW hM (by omega)) (by decide) (ws_16 hW) rfl (by decide) (Nat.le_of_ble_eq_true rfl) (Nat.le_of_ble_eq_true rfl) ?_
            refine q_is dX10_cheapest_95 (by decide) ?_
            refine q_il dX10_cheapest_97 rfl ?_
            refine q_ic (v := -1) dX10_cheapest_99 rfl ?_
            refine f_ic_eq dX10_cheapest_100 (tgt := 110) rfl (by exact nI_m1 (by omega)) ?_
            refine q_il dX10_cheapest_103 rfl ?_
            refine q_il dX10_cheapest_105 rfl ?_
            refine t_ic_ge 118 dX10_cheapest_107 rfl (by exact nI_le (show p.2 ≤ cst n F j n by omega) (by omega)) ?_
            refine q_inc dX10_cheapest_118 rfl (by decide) ?_
            refine am_x_goto (tgt := 37) dX10_cheapest_121 rfl ?_
            (simp only [bb_g hok hq hl] at q; exact q _ _)
      · have hok : ¬ okb n g F S T j = true := by
          show ¬ (alB (can1 F j) n && decide (ct (fun m => hrd n g F S T m) n < 2 * ct (fun m => hrd n g F S T m && (decide (F 0 m = 1) || j.testBit m)) n)) = true
          rw [decide_eq_false (by omega), Bool.and_false]; decide
        refine q_il dX10_cheapest_37 rfl ?_
        refine q_ic (v := nI 1) dX10_cheapest_39 rfl ?_
        refine q_aln dX10_cheapest_40 rfl ?_
        refine q_getR dX10_cheapest_41 fl_X10_21 (ws_16 hW) rfl (wp_16_1 hW) ?_
        refine q_getI dX10_cheapest_44 fl_X10_44 (ws_9 hW) rfl (by first | assumption | rfl) ?_
        first | refine q_shl1 dX10_cheapest_47 (by omega) ?_ | refine am_x_pu dX10_cheapest_47 rfl ?_
        refine f_ic_ge dX10_cheapest_48 (tgt := 124) rfl (by exact nI_ge (by omega) (by omega)) ?_
        refine q_il dX10_cheapest_51 rfl ?_
        refine q_iln dX10_cheapest_53 rfl ?_
        refine q_ic (v := -1) dX10_cheapest_54 rfl ?_
        refine am_x_pu dX10_cheapest_55 rfl ?_
        refine am_x_pu dX10_cheapest_56 rfl ?_
        rw [and_not _ (by omega) _ (opn_lt h7)]
        refine f_if_ne dX10_cheapest_57 (tgt := 64) rfl (by rw [hcan]; rfl) ?_
        refine q_ic (v := nI 1) dX10_cheapest_60 rfl ?_
        refine am_x_goto (tgt := 65) dX10_cheapest_61 rfl ?_
        refine q_is dX10_cheapest_65 (by decide) ?_
        refine q_il dX10_cheapest_67 rfl ?_
        refine f_if_eq dX10_cheapest_69 (tgt := 118) rfl (by decide +kernel) ?_
        refine q_iln dX10_cheapest_72 rfl ?_
        refine q_iln dX10_cheapest_73 rfl ?_
        refine q_il dX10_cheapest_74 rfl ?_
        first | refine q_or dX10_cheapest_76 ?_ | refine am_x_pu dX10_cheapest_76 rfl ?_
        first | refine q_and dX10_cheapest_77 ?_ | refine am_x_pu dX10_cheapest_77 rfl ?_
        refine q_S1 (N := m_J6_bitCount_0f7a4) dX10_cheapest_78 lk_X10_61 mS_J6_bitCount_0f7a4 ((by have z := c_bitCount (h := h) (b := bt (fun m => hrd n g F S T m) n &&& (bt (fun m => decide (F 0 m = 1)) n ||| j)) (and_128 (bt_128 _ h7)); rw [yb_pop h7] at z; exact z)) (by decide) (Nat.le_of_ble_eq_true rfl) (Nat.le_of_ble_eq_true rfl) ?_
        refine q_il dX10_cheapest_81 rfl ?_
        refine q_S2 (N := m_X10_passes) dX10_cheapest_83 lk_X10_83 mS_X10_passes (c_passes (Nat.lt_of_le_of_lt a3 (by omega)) (by omega)) (by decide) (Nat.le_of_ble_eq_true rfl) (Nat.le_of_ble_eq_true rfl) ?_
        refine t_if_eq 118 dX10_cheapest_86 rfl (by rw [if_neg hpas]; rfl) ?_
        refine q_inc dX10_cheapest_118 rfl (by decide) ?_
        refine am_x_goto (tgt := 37) dX10_cheapest_121 rfl ?_
        (rw [bb_o hok] at q; exact q _ _)
    · have hok : ¬ okb n g F S T j = true := by
        show ¬ (alB (can1 F j) n && _) = true
        rw [Bool.eq_false_iff.mpr (fun z => hcan (hci.mpr z)), Bool.false_and]; decide
      have hlt := x127_lt (a := j) (b := opn n F) (by omega)
      refine q_il dX10_cheapest_37 rfl ?_
      refine q_ic (v := nI 1) dX10_cheapest_39 rfl ?_
      refine q_aln dX10_cheapest_40 rfl ?_
      refine q_getR dX10_cheapest_41 fl_X10_21 (ws_16 hW) rfl (wp_16_1 hW) ?_
      refine q_getI dX10_cheapest_44 fl_X10_44 (ws_9 hW) rfl (by first | assumption | rfl) ?_
      first | refine q_shl1 dX10_cheapest_47 (by omega) ?_ | refine am_x_pu dX10_cheapest_47 rfl ?_
      refine f_ic_ge dX10_cheapest_48 (tgt := 124) rfl (by exact nI_ge (by omega) (by omega)) ?_
      refine q_il dX10_cheapest_51 rfl ?_
      refine q_iln dX10_cheapest_53 rfl ?_
      refine q_ic (v := -1) dX10_cheapest_54 rfl ?_
      refine am_x_pu dX10_cheapest_55 rfl ?_
      refine am_x_pu dX10_cheapest_56 rfl ?_
      rw [and_not _ (by omega) _ (opn_lt h7)]
      refine t_if_ne 64 dX10_cheapest_57 rfl (by exact nI_ne0 (by omega) (by omega)) ?_
      refine q_ic (v := nI 0) dX10_cheapest_64 rfl ?_
      refine q_is dX10_cheapest_65 (by decide) ?_
      refine q_il dX10_cheapest_67 rfl ?_
      refine t_if_eq 118 dX10_cheapest_69 rfl (by rfl) ?_
      refine q_inc dX10_cheapest_118 rfl (by decide) ?_
      refine am_x_goto (tgt := 37) dX10_cheapest_121 rfl ?_
      (rw [bb_o hok] at q; exact q _ _)
set_option maxHeartbeats 2000000 in
theorem c_cheapest {h : am_H} {n : Nat} {g : Bool} {F : Nat → Nat → Nat} (hW : Wd h) (hM : MB h n g F) {S T : Nat → Nat} (hS : SB 11 12 13 h n S T)  : am_C 4 m_X10_cheapest [.ref 16] h (some (.int (oN ((bb n g F S T (2 ^ n)).map Prod.fst))), h) := by
  have h7 := hM.2.2.1
  have h8 := bt_128 (fun m => hrd n g F S T m) h7
  refine q_aln dX10_cheapest_0 rfl ?_
  refine q_V0 (N := m_X10_heardBits) dX10_cheapest_1 lk_X10_57 mV_X10_heardBits (c_heardBits hW hM hS) (by decide) (ws_16 hW) rfl (by decide) (Nat.le_of_ble_eq_true rfl) (Nat.le_of_ble_eq_true rfl) ?_
  refine q_isn dX10_cheapest_4 (by decide) ?_
  refine q_aln dX10_cheapest_5 rfl ?_
  refine q_V0 (N := m_X10_yesBits) dX10_cheapest_6 lk_X10_67 mV_X10_yesBits (c_yesBits hW hM hS) (by decide) (ws_16 hW) rfl (by decide) (Nat.le_of_ble_eq_true rfl) (Nat.le_of_ble_eq_true rfl) ?_
  refine q_isn dX10_cheapest_9 (by decide) ?_
  refine q_aln dX10_cheapest_10 rfl ?_
  refine q_getR dX10_cheapest_11 fl_X10_21 (ws_16 hW) rfl (wp_16_1 hW) ?_
  refine q_V0 (N := m_X5_living) dX10_cheapest_14 lk_X10_97 mV_X5_living (c_living hW hM) (by decide) (ws_9 hW) rfl (by decide) (Nat.le_of_ble_eq_true rfl) (Nat.le_of_ble_eq_true rfl) ?_
  refine q_iln dX10_cheapest_17 rfl ?_
  refine q_ic (v := -1) dX10_cheapest_18 rfl ?_
  refine am_x_pu dX10_cheapest_19 rfl ?_
  refine am_x_pu dX10_cheapest_20 rfl ?_
  rw [and_not _ (bt_128 _ h7) _ (bt_128 _ h7)]
  refine q_isn dX10_cheapest_21 (by decide) ?_
  refine q_iln dX10_cheapest_22 rfl ?_
  refine q_S1 (N := m_J6_bitCount_0f7a4) dX10_cheapest_23 lk_X10_61 mS_J6_bitCount_0f7a4 ((by have z := c_bitCount (h := h) h8; rw [popc_bt _ h7] at z; exact z)) (by decide) (Nat.le_of_ble_eq_true rfl) (Nat.le_of_ble_eq_true rfl) ?_
  refine q_is dX10_cheapest_26 (by decide) ?_
  refine q_ic (v := -1) dX10_cheapest_28 rfl ?_
  refine q_is dX10_cheapest_29 (by decide) ?_
  refine q_ic (v := nI 0) dX10_cheapest_31 rfl ?_
  refine q_is dX10_cheapest_32 (by decide) ?_
  refine q_ic (v := nI 0) dX10_cheapest_34 rfl ?_
  refine q_is dX10_cheapest_35 (by decide) ?_
  exact c_cheapest_lp hW hM hS (2 ^ n) 0 _ _ (by omega)
