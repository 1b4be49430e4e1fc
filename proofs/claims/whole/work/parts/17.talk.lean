set_option maxHeartbeats 2000000 in
theorem c_mouthOf_lp14 {h : am_H} {n : Nat} {g : Bool} {F : Nat → Nat → Nat} (hW : Wd h) (hM : MB h n g F) {S T : Nat → Nat} (hS : SB 11 12 13 h n S T)  : ∀ k j m s (x : Option Value), j + k = n → s < n → am_Sem 1 m_X8_mouthOf 24 [some (.ref 14), some (.int (nI m)), some (.int (nI s)), some (.int (nI j)), x] [] h (some (.int (oN (mo n g F S k s))), h) := by
  obtain ⟨hn, hg, h7, hF, hB⟩ := id hM
  intro k
  induction k with
  | zero =>
    intro j m s x hj hs
    refine q_iln dX8_mouthOf_24 rfl ?_
    refine q_aln dX8_mouthOf_25 rfl ?_
    refine q_getR dX8_mouthOf_26 fl_X8_9 (ws_14 hW) rfl (wp_14_0 hW) ?_
    refine q_getI dX8_mouthOf_29 fl_X8_35 (ws_9 hW) rfl (by first | assumption | rfl) ?_
    refine t_ic_ge 89 dX8_mouthOf_32 rfl (by exact nI_le (by omega) (by omega)) ?_
    refine q_ic (v := -1) dX8_mouthOf_89 rfl ?_
    refine q_ir dX8_mouthOf_90 rfl ?_
    rfl
  | succ k ih =>
    intro j m s x hj hs
    cases hl : lf n g s with
    | none =>
      rw [mo_n hl]
      refine q_iln dX8_mouthOf_24 rfl ?_
      refine q_aln dX8_mouthOf_25 rfl ?_
      refine q_getR dX8_mouthOf_26 fl_X8_9 (ws_14 hW) rfl (wp_14_0 hW) ?_
      refine q_getI dX8_mouthOf_29 fl_X8_35 (ws_9 hW) rfl (by first | assumption | rfl) ?_
      refine f_ic_ge dX8_mouthOf_32 (tgt := 89) rfl (by exact nI_ge (by omega) (by omega)) ?_
      refine q_aln dX8_mouthOf_35 rfl ?_
      refine q_getR dX8_mouthOf_36 fl_X8_15 (ws_14 hW) rfl (wp_14_1 hW) ?_
      refine q_iln dX8_mouthOf_39 rfl ?_
      refine q_aln dX8_mouthOf_40 rfl ?_
      refine q_getR dX8_mouthOf_41 fl_X8_9 (ws_14 hW) rfl (wp_14_0 hW) ?_
      refine q_getI dX8_mouthOf_44 fl_X8_39 (ws_9 hW) rfl (by first | assumption | rfl) ?_
      refine q_V2 (N := m_X6_leftOf) dX8_mouthOf_47 lk_X8_43 mV_X6_leftOf ((by have q := c_leftOf11 hW hS (g := g) (s := s) hs; rw [hl] at q; exact q)) (by decide) (ws_11 hW) rfl (by decide) (Nat.le_of_ble_eq_true rfl) (Nat.le_of_ble_eq_true rfl) ?_
      refine q_isn dX8_mouthOf_50 (by decide) ?_
      refine q_iln dX8_mouthOf_51 rfl ?_
      refine q_ic (v := -1) dX8_mouthOf_52 rfl ?_
      refine f_ic_ne dX8_mouthOf_53 (tgt := 58) rfl (by rfl) ?_
      refine q_ic (v := -1) dX8_mouthOf_56 rfl ?_
      refine q_ir dX8_mouthOf_57 rfl ?_
      rfl
    | some t =>
      have ht := lf_lt hs hl
      have hSt := (hS.2.2.1 t ht).2.1
      refine q_iln dX8_mouthOf_24 rfl ?_
      refine q_aln dX8_mouthOf_25 rfl ?_
      refine q_getR dX8_mouthOf_26 fl_X8_9 (ws_14 hW) rfl (wp_14_0 hW) ?_
      refine q_getI dX8_mouthOf_29 fl_X8_35 (ws_9 hW) rfl (by first | assumption | rfl) ?_
      refine f_ic_ge dX8_mouthOf_32 (tgt := 89) rfl (by exact nI_ge (by omega) (by omega)) ?_
      refine q_aln dX8_mouthOf_35 rfl ?_
      refine q_getR dX8_mouthOf_36 fl_X8_15 (ws_14 hW) rfl (wp_14_1 hW) ?_
      refine q_iln dX8_mouthOf_39 rfl ?_
      refine q_aln dX8_mouthOf_40 rfl ?_
      refine q_getR dX8_mouthOf_41 fl_X8_9 (ws_14 hW) rfl (wp_14_0 hW) ?_
      refine q_getI dX8_mouthOf_44 fl_X8_39 (ws_9 hW) rfl (by first | assumption | rfl) ?_
      refine q_V2 (N := m_X6_leftOf) dX8_mouthOf_47 lk_X8_43 mV_X6_leftOf ((by have q := c_leftOf11 hW hS (g := g) (s := s) hs; rw [hl] at q; exact q)) (by decide) (ws_11 hW) rfl (by decide) (Nat.le_of_ble_eq_true rfl) (Nat.le_of_ble_eq_true rfl) ?_
      refine q_isn dX8_mouthOf_50 (by decide) ?_
      refine q_iln dX8_mouthOf_51 rfl ?_
      refine q_ic (v := -1) dX8_mouthOf_52 rfl ?_
      refine t_ic_ne 58 dX8_mouthOf_53 rfl (by exact nI_m1 (by omega)) ?_
      refine q_aln dX8_mouthOf_58 rfl ?_
      refine q_getR dX8_mouthOf_59 fl_X8_15 (ws_14 hW) rfl (wp_14_1 hW) ?_
      refine q_iln dX8_mouthOf_62 rfl ?_
      refine q_V1 (N := m_X6_memberOn) dX8_mouthOf_63 lk_X8_47 mV_X6_memberOn (c_memberOn11 hW hS (by omega)) (by decide) (ws_11 hW) rfl (by decide) (Nat.le_of_ble_eq_true rfl) (Nat.le_of_ble_eq_true rfl) ?_
      refine q_is dX8_mouthOf_66 (by decide) ?_
      refine q_aln dX8_mouthOf_68 rfl ?_
      refine q_getR dX8_mouthOf_69 fl_X8_9 (ws_14 hW) rfl (wp_14_0 hW) ?_
      refine q_il dX8_mouthOf_72 rfl ?_
      refine q_V1 (N := m_X5_lives) dX8_mouthOf_74 lk_X8_23 mV_X5_lives (c_lives hW hM (by omega)) (by decide) (ws_9 hW) rfl (by decide) (Nat.le_of_ble_eq_true rfl) (Nat.le_of_ble_eq_true rfl) ?_
      first | refine p_if_eq 83 dX8_mouthOf_77 rfl (fun c77 => ?_) (fun c77 => ?_) | refine n_if_eq 83 dX8_mouthOf_77 rfl (by omega) (fun c77 => ?_) (fun c77 => ?_) | refine b_if_eq 83 dX8_mouthOf_77 rfl (fun c77 => ?_) (fun c77 => ?_)
      · first
        | (exfalso; omega)
        | (refine q_inc dX8_mouthOf_83 rfl (by decide) ?_
           refine am_x_goto (tgt := 24) dX8_mouthOf_86 rfl ?_
           (rw [mo_o hl c77]; exact ih (j + 1) m t _ (by omega) ht))
      · first
        | (exfalso; omega)
        | (refine q_il dX8_mouthOf_80 rfl ?_
           refine q_ir dX8_mouthOf_82 rfl ?_
           (rw [mo_y hl c77]; rfl))
set_option maxHeartbeats 2000000 in
theorem c_mouthOf14 {h : am_H} {n : Nat} {g : Bool} {F : Nat → Nat → Nat} (hW : Wd h) (hM : MB h n g F) {S T : Nat → Nat} (hS : SB 11 12 13 h n S T) {m : Nat} (hm : m < n) : am_C 1 m_X8_mouthOf [.ref 14, .int (nI m)] h (some (.int (oN (mth n g F S T m))), h) := by
  obtain ⟨hn, hg, h7, hF, hB⟩ := id hM
  have hTm := (hS.2.2.2 m hm).2.1
  refine q_aln dX8_mouthOf_0 rfl ?_
  refine q_getR dX8_mouthOf_1 fl_X8_9 (ws_14 hW) rfl (wp_14_0 hW) ?_
  refine q_iln dX8_mouthOf_4 rfl ?_
  refine q_V1 (N := m_X5_lives) dX8_mouthOf_5 lk_X8_23 mV_X5_lives (c_lives hW hM (by omega)) (by decide) (ws_9 hW) rfl (by decide) (Nat.le_of_ble_eq_true rfl) (Nat.le_of_ble_eq_true rfl) ?_
  first | refine p_if_ne 13 dX8_mouthOf_8 rfl (fun c8 => ?_) (fun c8 => ?_) | refine n_if_ne 13 dX8_mouthOf_8 rfl (by omega) (fun c8 => ?_) (fun c8 => ?_) | refine b_if_ne 13 dX8_mouthOf_8 rfl (fun c8 => ?_) (fun c8 => ?_)
  · first
    | (exfalso; omega)
    | (refine q_aln dX8_mouthOf_13 rfl ?_
       refine q_getR dX8_mouthOf_14 fl_X8_15 (ws_14 hW) rfl (wp_14_1 hW) ?_
       refine q_iln dX8_mouthOf_17 rfl ?_
       refine q_V1 (N := m_X6_seatOf) dX8_mouthOf_18 lk_X8_29 mV_X6_seatOf (c_seatOf11 hW hS (by omega)) (by decide) (ws_11 hW) rfl (by decide) (Nat.le_of_ble_eq_true rfl) (Nat.le_of_ble_eq_true rfl) ?_
       refine q_isn dX8_mouthOf_21 (by decide) ?_
       refine q_ic (v := nI 1) dX8_mouthOf_22 rfl ?_
       refine q_isn dX8_mouthOf_23 (by decide) ?_
       (rw [mth_y c8]; exact c_mouthOf_lp14 hW hM hS (n - 1) 1 m (T m) _ (by omega) hTm))
  · first
    | (exfalso; omega)
    | (refine q_ic (v := -1) dX8_mouthOf_11 rfl ?_
       refine q_ir dX8_mouthOf_12 rfl ?_
       (rw [mth_n c8]; rfl))
set_option maxHeartbeats 2000000 in
theorem c_isHeard14 {h : am_H} {n : Nat} {g : Bool} {F : Nat → Nat → Nat} (hW : Wd h) (hM : MB h n g F) {S T : Nat → Nat} (hS : SB 11 12 13 h n S T) {m : Nat} (hm : m < n) : am_C 2 m_X8_isHeard [.ref 14, .int (nI m)] h (some (.int (nI (if hrd n g F S T m = true then 1 else 0))), h) := by
  have h7 := hM.2.2.1
  cases hq : mth n g F S T m with
  | none =>
    refine q_aln dX8_isHeard_0 rfl ?_
    refine q_iln dX8_isHeard_1 rfl ?_
    refine q_V1 (N := m_X8_mouthOf) dX8_isHeard_2 lk_X8_50 mV_X8_mouthOf ((by have q := c_mouthOf14 hW hM hS hm; rw [hq] at q; exact q)) (by decide) (ws_14 hW) rfl (by decide) (Nat.le_of_ble_eq_true rfl) (Nat.le_of_ble_eq_true rfl) ?_
    refine q_isn dX8_isHeard_5 (by decide) ?_
    refine q_iln dX8_isHeard_6 rfl ?_
    refine q_ic (v := -1) dX8_isHeard_7 rfl ?_
    refine t_ic_eq 27 dX8_isHeard_8 rfl (by rfl) ?_
    refine q_ic (v := nI 0) dX8_isHeard_27 rfl ?_
    first | refine q_zrn dX8_isHeard_28 rfl (by first | omega | exact b2_le) ?_ | refine q_zr dX8_isHeard_28 rfl (by first | exact Or.inl rfl | exact Or.inr rfl | assumption) ?_
    (apply o_nI; simp [hrd_n hq])
  | some q =>
    have hqn := mth_lt hS.S hS.T hm hq
    refine q_aln dX8_isHeard_0 rfl ?_
    refine q_iln dX8_isHeard_1 rfl ?_
    refine q_V1 (N := m_X8_mouthOf) dX8_isHeard_2 lk_X8_50 mV_X8_mouthOf ((by have z := c_mouthOf14 hW hM hS hm; rw [hq] at z; exact z)) (by decide) (ws_14 hW) rfl (by decide) (Nat.le_of_ble_eq_true rfl) (Nat.le_of_ble_eq_true rfl) ?_
    refine q_isn dX8_isHeard_5 (by decide) ?_
    refine q_iln dX8_isHeard_6 rfl ?_
    refine q_ic (v := -1) dX8_isHeard_7 rfl ?_
    refine f_ic_eq dX8_isHeard_8 (tgt := 27) rfl (by exact nI_m1 (by omega)) ?_
    refine q_aln dX8_isHeard_11 rfl ?_
    refine q_getR dX8_isHeard_12 fl_X8_9 (ws_14 hW) rfl (wp_14_0 hW) ?_
    refine q_iln dX8_isHeard_15 rfl ?_
    refine q_iln dX8_isHeard_16 rfl ?_
    refine q_V2 (N := m_X5_swallows) dX8_isHeard_17 lk_X8_53 mV_X5_swallows (c_swallows hW hM (by omega) (by omega)) (by decide) (ws_9 hW) rfl (by decide) (Nat.le_of_ble_eq_true rfl) (Nat.le_of_ble_eq_true rfl) ?_
    first | refine p_if_ne 27 dX8_isHeard_20 rfl (fun c20 => ?_) (fun c20 => ?_) | refine n_if_ne 27 dX8_isHeard_20 rfl (by omega) (fun c20 => ?_) (fun c20 => ?_) | refine b_if_ne 27 dX8_isHeard_20 rfl (fun c20 => ?_) (fun c20 => ?_)
    · first
      | (exfalso; omega)
      | (refine q_ic (v := nI 0) dX8_isHeard_27 rfl ?_
         first | refine q_zrn dX8_isHeard_28 rfl (by first | omega | exact b2_le) ?_ | refine q_zr dX8_isHeard_28 rfl (by first | exact Or.inl rfl | exact Or.inr rfl | assumption) ?_
         (apply o_nI; simp [hrd_s hq, c20]))
    · first
      | (exfalso; omega)
      | (refine q_ic (v := nI 1) dX8_isHeard_23 rfl ?_
         refine am_x_goto (tgt := 28) dX8_isHeard_24 rfl ?_
         first | refine q_zrn dX8_isHeard_28 rfl (by first | omega | exact b2_le) ?_ | refine q_zr dX8_isHeard_28 rfl (by first | exact Or.inl rfl | exact Or.inr rfl | assumption) ?_
         (apply o_nI; simp [hrd_s hq, c20]))
set_option maxHeartbeats 2000000 in
theorem c_slipOf14 {h : am_H} {n : Nat} {g : Bool} {F : Nat → Nat → Nat} (hW : Wd h) (hM : MB h n g F) {S T : Nat → Nat} (hS : SB 11 12 13 h n S T) {q : Nat} (hq : q < n) : am_C 1 m_X8_slipOf [.ref 14, .int (nI q)] h (some (.int (nI (slp F q))), h) := by
  have h7 := hM.2.2.1
  have hb := hM.2.2.2.2 q hq
  refine q_aln dX8_slipOf_0 rfl ?_
  refine q_getR dX8_slipOf_1 fl_X8_9 (ws_14 hW) rfl (wp_14_0 hW) ?_
  refine q_ic (v := nI 3) dX8_slipOf_4 rfl ?_
  refine q_iln dX8_slipOf_5 rfl ?_
  refine q_V2 (N := m_X5_fact) dX8_slipOf_6 lk_X8_57 mV_X5_fact (c_fact hW hM (by omega) (by omega)) (by decide) (ws_9 hW) rfl (by decide) (Nat.le_of_ble_eq_true rfl) (Nat.le_of_ble_eq_true rfl) ?_
  refine q_ic (v := nI 2) dX8_slipOf_9 rfl ?_
  first | refine n_ic_ne 17 dX8_slipOf_10 rfl (by omega) (by omega) (fun c10 => ?_) (fun c10 => ?_) | refine b_ic_ne 17 dX8_slipOf_10 rfl (fun c10 => ?_) (fun c10 => ?_)
  · first
    | (exfalso; omega)
    | (refine q_aln dX8_slipOf_17 rfl ?_
       refine q_getR dX8_slipOf_18 fl_X8_9 (ws_14 hW) rfl (wp_14_0 hW) ?_
       refine q_ic (v := nI 2) dX8_slipOf_21 rfl ?_
       refine q_iln dX8_slipOf_22 rfl ?_
       refine q_V2 (N := m_X5_fact) dX8_slipOf_23 lk_X8_57 mV_X5_fact (c_fact hW hM (by omega) (by omega)) (by decide) (ws_9 hW) rfl (by decide) (Nat.le_of_ble_eq_true rfl) (Nat.le_of_ble_eq_true rfl) ?_
       refine q_ir dX8_slipOf_26 rfl ?_
       (apply o_nI; simp [slp, c10]))
  · first
    | (exfalso; omega)
    | (refine q_ic (v := nI 0) dX8_slipOf_13 rfl ?_
       refine am_x_goto (tgt := 26) dX8_slipOf_14 rfl ?_
       refine q_ir dX8_slipOf_26 rfl ?_
       (apply o_nI; simp [slp, c10]))
set_option maxHeartbeats 2000000 in
theorem c_mouthOf_lp33 {h : am_H} {n : Nat} {g : Bool} {F : Nat → Nat → Nat} (hW : Wd h) (hM : MB h n g F) {S T : Nat → Nat} (hS : SB 30 31 32 h n S T)  : ∀ k j m s (x : Option Value), j + k = n → s < n → am_Sem 1 m_X8_mouthOf 24 [some (.ref 33), some (.int (nI m)), some (.int (nI s)), some (.int (nI j)), x] [] h (some (.int (oN (mo n g F S k s))), h) := by
  obtain ⟨hn, hg, h7, hF, hB⟩ := id hM
  intro k
  induction k with
  | zero =>
    intro j m s x hj hs
    refine q_iln dX8_mouthOf_24 rfl ?_
    refine q_aln dX8_mouthOf_25 rfl ?_
    refine q_getR dX8_mouthOf_26 fl_X8_9 (ws_33 hW) rfl (wp_33_0 hW) ?_
    refine q_getI dX8_mouthOf_29 fl_X8_35 (ws_9 hW) rfl (by first | assumption | rfl) ?_
    refine t_ic_ge 89 dX8_mouthOf_32 rfl (by exact nI_le (by omega) (by omega)) ?_
    refine q_ic (v := -1) dX8_mouthOf_89 rfl ?_
    refine q_ir dX8_mouthOf_90 rfl ?_
    rfl
  | succ k ih =>
    intro j m s x hj hs
    cases hl : lf n g s with
    | none =>
      rw [mo_n hl]
      refine q_iln dX8_mouthOf_24 rfl ?_
      refine q_aln dX8_mouthOf_25 rfl ?_
      refine q_getR dX8_mouthOf_26 fl_X8_9 (ws_33 hW) rfl (wp_33_0 hW) ?_
      refine q_getI dX8_mouthOf_29 fl_X8_35 (ws_9 hW) rfl (by first | assumption | rfl) ?_
      refine f_ic_ge dX8_mouthOf_32 (tgt := 89) rfl (by exact nI_ge (by omega) (by omega)) ?_
      refine q_aln dX8_mouthOf_35 rfl ?_
      refine q_getR dX8_mouthOf_36 fl_X8_15 (ws_33 hW) rfl (wp_33_1 hW) ?_
      refine q_iln dX8_mouthOf_39 rfl ?_
      refine q_aln dX8_mouthOf_40 rfl ?_
      refine q_getR dX8_mouthOf_41 fl_X8_9 (ws_33 hW) rfl (wp_33_0 hW) ?_
      refine q_getI dX8_mouthOf_44 fl_X8_39 (ws_9 hW) rfl (by first | assumption | rfl) ?_
      refine q_V2 (N := m_X6_leftOf) dX8_mouthOf_47 lk_X8_43 mV_X6_leftOf ((by have q := c_leftOf30 hW hS (g := g) (s := s) hs; rw [hl] at q; exact q)) (by decide) (ws_30 hW) rfl (by decide) (Nat.le_of_ble_eq_true rfl) (Nat.le_of_ble_eq_true rfl) ?_
      refine q_isn dX8_mouthOf_50 (by decide) ?_
      refine q_iln dX8_mouthOf_51 rfl ?_
      refine q_ic (v := -1) dX8_mouthOf_52 rfl ?_
      refine f_ic_ne dX8_mouthOf_53 (tgt := 58) rfl (by rfl) ?_
      refine q_ic (v := -1) dX8_mouthOf_56 rfl ?_
      refine q_ir dX8_mouthOf_57 rfl ?_
      rfl
    | some t =>
      have ht := lf_lt hs hl
      have hSt := (hS.2.2.1 t ht).2.1
      refine q_iln dX8_mouthOf_24 rfl ?_
      refine q_aln dX8_mouthOf_25 rfl ?_
      refine q_getR dX8_mouthOf_26 fl_X8_9 (ws_33 hW) rfl (wp_33_0 hW) ?_
      refine q_getI dX8_mouthOf_29 fl_X8_35 (ws_9 hW) rfl (by first | assumption | rfl) ?_
      refine f_ic_ge dX8_mouthOf_32 (tgt := 89) rfl (by exact nI_ge (by omega) (by omega)) ?_
      refine q_aln dX8_mouthOf_35 rfl ?_
      refine q_getR dX8_mouthOf_36 fl_X8_15 (ws_33 hW) rfl (wp_33_1 hW) ?_
      refine q_iln dX8_mouthOf_39 rfl ?_
      refine q_aln dX8_mouthOf_40 rfl ?_
      refine q_getR dX8_mouthOf_41 fl_X8_9 (ws_33 hW) rfl (wp_33_0 hW) ?_
      refine q_getI dX8_mouthOf_44 fl_X8_39 (ws_9 hW) rfl (by first | assumption | rfl) ?_
      refine q_V2 (N := m_X6_leftOf) dX8_mouthOf_47 lk_X8_43 mV_X6_leftOf ((by have q := c_leftOf30 hW hS (g := g) (s := s) hs; rw [hl] at q; exact q)) (by decide) (ws_30 hW) rfl (by decide) (Nat.le_of_ble_eq_true rfl) (Nat.le_of_ble_eq_true rfl) ?_
      refine q_isn dX8_mouthOf_50 (by decide) ?_
      refine q_iln dX8_mouthOf_51 rfl ?_
      refine q_ic (v := -1) dX8_mouthOf_52 rfl ?_
      refine t_ic_ne 58 dX8_mouthOf_53 rfl (by exact nI_m1 (by omega)) ?_
      refine q_aln dX8_mouthOf_58 rfl ?_
      refine q_getR dX8_mouthOf_59 fl_X8_15 (ws_33 hW) rfl (wp_33_1 hW) ?_
      refine q_iln dX8_mouthOf_62 rfl ?_
      refine q_V1 (N := m_X6_memberOn) dX8_mouthOf_63 lk_X8_47 mV_X6_memberOn (c_memberOn30 hW hS (by omega)) (by decide) (ws_30 hW) rfl (by decide) (Nat.le_of_ble_eq_true rfl) (Nat.le_of_ble_eq_true rfl) ?_
      refine q_is dX8_mouthOf_66 (by decide) ?_
      refine q_aln dX8_mouthOf_68 rfl ?_
      refine q_getR dX8_mouthOf_69 fl_X8_9 (ws_33 hW) rfl (wp_33_0 hW) ?_
      refine q_il dX8_mouthOf_72 rfl ?_
      refine q_V1 (N := m_X5_lives) dX8_mouthOf_74 lk_X8_23 mV_X5_lives (c_lives hW hM (by omega)) (by decide) (ws_9 hW) rfl (by decide) (Nat.le_of_ble_eq_true rfl) (Nat.le_of_ble_eq_true rfl) ?_
      first | refine p_if_eq 83 dX8_mouthOf_77 rfl (fun c77 => ?_) (fun c77 => ?_) | refine n_if_eq 83 dX8_mouthOf_77 rfl (by omega) (fun c77 => ?_) (fun c77 => ?_) | refine b_if_eq 83 dX8_mouthOf_77 rfl (fun c77 => ?_) (fun c77 => ?_)
      · first
        | (exfalso; omega)
        | (refine q_inc dX8_mouthOf_83 rfl (by decide) ?_
           refine am_x_goto (tgt := 24) dX8_mouthOf_86 rfl ?_
           (rw [mo_o hl c77]; exact ih (j + 1) m t _ (by omega) ht))
      · first
        | (exfalso; omega)
        | (refine q_il dX8_mouthOf_80 rfl ?_
           refine q_ir dX8_mouthOf_82 rfl ?_
           (rw [mo_y hl c77]; rfl))
set_option maxHeartbeats 2000000 in
theorem c_mouthOf33 {h : am_H} {n : Nat} {g : Bool} {F : Nat → Nat → Nat} (hW : Wd h) (hM : MB h n g F) {S T : Nat → Nat} (hS : SB 30 31 32 h n S T) {m : Nat} (hm : m < n) : am_C 1 m_X8_mouthOf [.ref 33, .int (nI m)] h (some (.int (oN (mth n g F S T m))), h) := by
  obtain ⟨hn, hg, h7, hF, hB⟩ := id hM
  have hTm := (hS.2.2.2 m hm).2.1
  refine q_aln dX8_mouthOf_0 rfl ?_
  refine q_getR dX8_mouthOf_1 fl_X8_9 (ws_33 hW) rfl (wp_33_0 hW) ?_
  refine q_iln dX8_mouthOf_4 rfl ?_
  refine q_V1 (N := m_X5_lives) dX8_mouthOf_5 lk_X8_23 mV_X5_lives (c_lives hW hM (by omega)) (by decide) (ws_9 hW) rfl (by decide) (Nat.le_of_ble_eq_true rfl) (Nat.le_of_ble_eq_true rfl) ?_
  first | refine p_if_ne 13 dX8_mouthOf_8 rfl (fun c8 => ?_) (fun c8 => ?_) | refine n_if_ne 13 dX8_mouthOf_8 rfl (by omega) (fun c8 => ?_) (fun c8 => ?_) | refine b_if_ne 13 dX8_mouthOf_8 rfl (fun c8 => ?_) (fun c8 => ?_)
  · first
    | (exfalso; omega)
    | (refine q_aln dX8_mouthOf_13 rfl ?_
       refine q_getR dX8_mouthOf_14 fl_X8_15 (ws_33 hW) rfl (wp_33_1 hW) ?_
       refine q_iln dX8_mouthOf_17 rfl ?_
       refine q_V1 (N := m_X6_seatOf) dX8_mouthOf_18 lk_X8_29 mV_X6_seatOf (c_seatOf30 hW hS (by omega)) (by decide) (ws_30 hW) rfl (by decide) (Nat.le_of_ble_eq_true rfl) (Nat.le_of_ble_eq_true rfl) ?_
       refine q_isn dX8_mouthOf_21 (by decide) ?_
       refine q_ic (v := nI 1) dX8_mouthOf_22 rfl ?_
       refine q_isn dX8_mouthOf_23 (by decide) ?_
       (rw [mth_y c8]; exact c_mouthOf_lp33 hW hM hS (n - 1) 1 m (T m) _ (by omega) hTm))
  · first
    | (exfalso; omega)
    | (refine q_ic (v := -1) dX8_mouthOf_11 rfl ?_
       refine q_ir dX8_mouthOf_12 rfl ?_
       (rw [mth_n c8]; rfl))
set_option maxHeartbeats 2000000 in
theorem c_isHeard33 {h : am_H} {n : Nat} {g : Bool} {F : Nat → Nat → Nat} (hW : Wd h) (hM : MB h n g F) {S T : Nat → Nat} (hS : SB 30 31 32 h n S T) {m : Nat} (hm : m < n) : am_C 2 m_X8_isHeard [.ref 33, .int (nI m)] h (some (.int (nI (if hrd n g F S T m = true then 1 else 0))), h) := by
  have h7 := hM.2.2.1
  cases hq : mth n g F S T m with
  | none =>
    refine q_aln dX8_isHeard_0 rfl ?_
    refine q_iln dX8_isHeard_1 rfl ?_
    refine q_V1 (N := m_X8_mouthOf) dX8_isHeard_2 lk_X8_50 mV_X8_mouthOf ((by have q := c_mouthOf33 hW hM hS hm; rw [hq] at q; exact q)) (by decide) (ws_33 hW) rfl (by decide) (Nat.le_of_ble_eq_true rfl) (Nat.le_of_ble_eq_true rfl) ?_
    refine q_isn dX8_isHeard_5 (by decide) ?_
    refine q_iln dX8_isHeard_6 rfl ?_
    refine q_ic (v := -1) dX8_isHeard_7 rfl ?_
    refine t_ic_eq 27 dX8_isHeard_8 rfl (by rfl) ?_
    refine q_ic (v := nI 0) dX8_isHeard_27 rfl ?_
    first | refine q_zrn dX8_isHeard_28 rfl (by first | omega | exact b2_le) ?_ | refine q_zr dX8_isHeard_28 rfl (by first | exact Or.inl rfl | exact Or.inr rfl | assumption) ?_
    (apply o_nI; simp [hrd_n hq])
  | some q =>
    have hqn := mth_lt hS.S hS.T hm hq
    refine q_aln dX8_isHeard_0 rfl ?_
    refine q_iln dX8_isHeard_1 rfl ?_
    refine q_V1 (N := m_X8_mouthOf) dX8_isHeard_2 lk_X8_50 mV_X8_mouthOf ((by have z := c_mouthOf33 hW hM hS hm; rw [hq] at z; exact z)) (by decide) (ws_33 hW) rfl (by decide) (Nat.le_of_ble_eq_true rfl) (Nat.le_of_ble_eq_true rfl) ?_
    refine q_isn dX8_isHeard_5 (by decide) ?_
    refine q_iln dX8_isHeard_6 rfl ?_
    refine q_ic (v := -1) dX8_isHeard_7 rfl ?_
    refine f_ic_eq dX8_isHeard_8 (tgt := 27) rfl (by exact nI_m1 (by omega)) ?_
    refine q_aln dX8_isHeard_11 rfl ?_
    refine q_getR dX8_isHeard_12 fl_X8_9 (ws_33 hW) rfl (wp_33_0 hW) ?_
    refine q_iln dX8_isHeard_15 rfl ?_
    refine q_iln dX8_isHeard_16 rfl ?_
    refine q_V2 (N := m_X5_swallows) dX8_isHeard_17 lk_X8_53 mV_X5_swallows (c_swallows hW hM (by omega) (by omega)) (by decide) (ws_9 hW) rfl (by decide) (Nat.le_of_ble_eq_true rfl) (Nat.le_of_ble_eq_true rfl) ?_
    first | refine p_if_ne 27 dX8_isHeard_20 rfl (fun c20 => ?_) (fun c20 => ?_) | refine n_if_ne 27 dX8_isHeard_20 rfl (by omega) (fun c20 => ?_) (fun c20 => ?_) | refine b_if_ne 27 dX8_isHeard_20 rfl (fun c20 => ?_) (fun c20 => ?_)
    · first
      | (exfalso; omega)
      | (refine q_ic (v := nI 0) dX8_isHeard_27 rfl ?_
         first | refine q_zrn dX8_isHeard_28 rfl (by first | omega | exact b2_le) ?_ | refine q_zr dX8_isHeard_28 rfl (by first | exact Or.inl rfl | exact Or.inr rfl | assumption) ?_
         (apply o_nI; simp [hrd_s hq, c20]))
    · first
      | (exfalso; omega)
      | (refine q_ic (v := nI 1) dX8_isHeard_23 rfl ?_
         refine am_x_goto (tgt := 28) dX8_isHeard_24 rfl ?_
         first | refine q_zrn dX8_isHeard_28 rfl (by first | omega | exact b2_le) ?_ | refine q_zr dX8_isHeard_28 rfl (by first | exact Or.inl rfl | exact Or.inr rfl | assumption) ?_
         (apply o_nI; simp [hrd_s hq, c20]))
set_option maxHeartbeats 2000000 in
theorem c_slipOf33 {h : am_H} {n : Nat} {g : Bool} {F : Nat → Nat → Nat} (hW : Wd h) (hM : MB h n g F) {S T : Nat → Nat} (hS : SB 30 31 32 h n S T) {q : Nat} (hq : q < n) : am_C 1 m_X8_slipOf [.ref 33, .int (nI q)] h (some (.int (nI (slp F q))), h) := by
  have h7 := hM.2.2.1
  have hb := hM.2.2.2.2 q hq
  refine q_aln dX8_slipOf_0 rfl ?_
  refine q_getR dX8_slipOf_1 fl_X8_9 (ws_33 hW) rfl (wp_33_0 hW) ?_
  refine q_ic (v := nI 3) dX8_slipOf_4 rfl ?_
  refine q_iln dX8_slipOf_5 rfl ?_
  refine q_V2 (N := m_X5_fact) dX8_slipOf_6 lk_X8_57 mV_X5_fact (c_fact hW hM (by omega) (by omega)) (by decide) (ws_9 hW) rfl (by decide) (Nat.le_of_ble_eq_true rfl) (Nat.le_of_ble_eq_true rfl) ?_
  refine q_ic (v := nI 2) dX8_slipOf_9 rfl ?_
  first | refine n_ic_ne 17 dX8_slipOf_10 rfl (by omega) (by omega) (fun c10 => ?_) (fun c10 => ?_) | refine b_ic_ne 17 dX8_slipOf_10 rfl (fun c10 => ?_) (fun c10 => ?_)
  · first
    | (exfalso; omega)
    | (refine q_aln dX8_slipOf_17 rfl ?_
       refine q_getR dX8_slipOf_18 fl_X8_9 (ws_33 hW) rfl (wp_33_0 hW) ?_
       refine q_ic (v := nI 2) dX8_slipOf_21 rfl ?_
       refine q_iln dX8_slipOf_22 rfl ?_
       refine q_V2 (N := m_X5_fact) dX8_slipOf_23 lk_X8_57 mV_X5_fact (c_fact hW hM (by omega) (by omega)) (by decide) (ws_9 hW) rfl (by decide) (Nat.le_of_ble_eq_true rfl) (Nat.le_of_ble_eq_true rfl) ?_
       refine q_ir dX8_slipOf_26 rfl ?_
       (apply o_nI; simp [slp, c10]))
  · first
    | (exfalso; omega)
    | (refine q_ic (v := nI 0) dX8_slipOf_13 rfl ?_
       refine am_x_goto (tgt := 26) dX8_slipOf_14 rfl ?_
       refine q_ir dX8_slipOf_26 rfl ?_
       (apply o_nI; simp [slp, c10]))
