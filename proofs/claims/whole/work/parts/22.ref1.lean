set_option maxHeartbeats 2000000 in
theorem r_of {h : am_H} {n : Nat} {g : Bool} {F : Nat → Nat → Nat} {S T : Nat → Nat} (hW : Wd h) (hR : RB h n g F S T) {m i : Nat} (hm : m < n) (hi : i < 7) : am_C 0 m_X12_of [.ref 50, .int (nI m), .int (nI i)] h (some (.int (nI (F i m))), h) := by
  obtain ⟨hn, hg, h7, hF, hB, hS, hT⟩ := id hR
  refine q_aln dX12_of_0 rfl ?_
  refine q_getR dX12_of_1 fl_X12_43 (ws_50 hW) rfl (wp_50_20 hW) ?_
  refine q_bp (v := nI 7) dX12_of_4 rfl ?_
  refine q_iln dX12_of_6 rfl ?_
  first | refine q_mul dX12_of_7 ?_ | refine am_x_pu dX12_of_7 rfl ?_
  refine q_iln dX12_of_8 rfl ?_
  first | refine q_add dX12_of_9 ?_ | refine am_x_pu dX12_of_9 rfl ?_
  refine q_ald dX12_of_10 (ws_62 hW) (by omega) (by omega) (hF _ _ (by omega) (by omega)).1 ?_
  refine q_ir dX12_of_11 rfl ?_
  rfl
set_option maxHeartbeats 2000000 in
theorem r_seatOf_lp {h : am_H} {n : Nat} {g : Bool} {F : Nat → Nat → Nat} {S T : Nat → Nat} (hW : Wd h) (hR : RB h n g F S T) {m : Nat} (hm : m < n) : ∀ k j, j + k = n → am_Sem 0 m_X12_seatOf 4 [some (.ref 50), some (.int (nI m)), some (.int (oN (if T m < j then some (T m) else none))), some (.int (nI j))] [] h (some (.int (nI (T m))), h) := by
  obtain ⟨hn, hg, h7, hF, hB, hS, hT⟩ := id hR
  have hTm := hT m hm
  intro k
  induction k with
  | zero =>
    intro j hj
    rw [if_pos (show T m < j by omega)]
    refine q_iln dX12_seatOf_4 rfl ?_
    refine q_aln dX12_seatOf_5 rfl ?_
    refine q_getI dX12_seatOf_6 fl_X12_252 (ws_50 hW) rfl (by first | assumption | rfl) ?_
    refine t_ic_ge 34 dX12_seatOf_9 rfl (by exact nI_le (by omega) (by omega)) ?_
    refine q_iln dX12_seatOf_34 rfl ?_
    refine q_ir dX12_seatOf_35 rfl ?_
    rfl
  | succ k ih =>
    intro j hj
    have hSj := hS j (by omega)
    have ih := ih (j + 1) (by omega)
    by_cases hc : S j = m
    · have hTj : T m = j := by rw [← hc]; exact hSj.2.2
      rw [show (if T m < j + 1 then some (T m) else none) = some j by rw [if_pos (by omega), hTj]] at ih
      refine q_iln dX12_seatOf_4 rfl ?_
      refine q_aln dX12_seatOf_5 rfl ?_
      refine q_getI dX12_seatOf_6 fl_X12_252 (ws_50 hW) rfl (by first | assumption | rfl) ?_
      refine f_ic_ge dX12_seatOf_9 (tgt := 34) rfl (by exact nI_ge (by omega) (by omega)) ?_
      refine q_aln dX12_seatOf_12 rfl ?_
      refine q_getR dX12_seatOf_13 fl_X12_46 (ws_50 hW) rfl (wp_50_23 hW) ?_
      refine q_iln dX12_seatOf_16 rfl ?_
      refine q_ald dX12_seatOf_17 (ws_63 hW) (by omega) (by omega) hSj.1 ?_
      refine q_iln dX12_seatOf_18 rfl ?_
      refine f_ic_ne dX12_seatOf_19 (tgt := 26) rfl (by rw [hc]) ?_
      refine q_iln dX12_seatOf_22 rfl ?_
      refine am_x_goto (tgt := 27) dX12_seatOf_23 rfl ?_
      refine q_isn dX12_seatOf_27 (by decide) ?_
      refine q_inc dX12_seatOf_28 rfl (by decide) ?_
      refine am_x_goto (tgt := 4) dX12_seatOf_31 rfl ?_
      exact ih
    · have hTj : T m ≠ j := fun z => hc (by rw [← z]; exact hTm.2)
      rw [show (if T m < j + 1 then some (T m) else none) = (if T m < j then some (T m) else none) by (by_cases z : T m < j; rw [if_pos z, if_pos (by omega)]; rw [if_neg z, if_neg (by omega)])] at ih
      refine q_iln dX12_seatOf_4 rfl ?_
      refine q_aln dX12_seatOf_5 rfl ?_
      refine q_getI dX12_seatOf_6 fl_X12_252 (ws_50 hW) rfl (by first | assumption | rfl) ?_
      refine f_ic_ge dX12_seatOf_9 (tgt := 34) rfl (by exact nI_ge (by omega) (by omega)) ?_
      refine q_aln dX12_seatOf_12 rfl ?_
      refine q_getR dX12_seatOf_13 fl_X12_46 (ws_50 hW) rfl (wp_50_23 hW) ?_
      refine q_iln dX12_seatOf_16 rfl ?_
      refine q_ald dX12_seatOf_17 (ws_63 hW) (by omega) (by omega) hSj.1 ?_
      refine q_iln dX12_seatOf_18 rfl ?_
      refine t_ic_ne 26 dX12_seatOf_19 rfl (by exact fun z => hc ((nI_eq (by omega) (by omega)).mp z)) ?_
      refine q_iln dX12_seatOf_26 rfl ?_
      refine q_isn dX12_seatOf_27 (by decide) ?_
      refine q_inc dX12_seatOf_28 rfl (by decide) ?_
      refine am_x_goto (tgt := 4) dX12_seatOf_31 rfl ?_
      exact ih
set_option maxHeartbeats 2000000 in
theorem r_seatOf {h : am_H} {n : Nat} {g : Bool} {F : Nat → Nat → Nat} {S T : Nat → Nat} (hW : Wd h) (hR : RB h n g F S T) {m : Nat} (hm : m < n) : am_C 0 m_X12_seatOf [.ref 50, .int (nI m)] h (some (.int (nI (T m))), h) := by
  have h7 := hR.2.2.1
  refine q_ic (v := -1) dX12_seatOf_0 rfl ?_
  refine q_isn dX12_seatOf_1 (by decide) ?_
  refine q_ic (v := nI 0) dX12_seatOf_2 rfl ?_
  refine q_isn dX12_seatOf_3 (by decide) ?_
  (have q := r_seatOf_lp hW hR hm n 0 (by omega); rw [if_neg (by omega)] at q; exact q)
set_option maxHeartbeats 2000000 in
theorem r_leftOf {h : am_H} {n : Nat} {g : Bool} {F : Nat → Nat → Nat} {S T : Nat → Nat} (hW : Wd h) (hR : RB h n g F S T) {s : Nat} (hs : s < n) : am_C 0 m_X12_leftOf [.ref 50, .int (nI s)] h (some (.int (oN (lf n g s))), h) := by
  obtain ⟨hn, hg, h7, hF, hB, hS, hT⟩ := id hR
  have e1 : 0 < s → lf n g s = some (s - 1) := fun z => by simp [lf, z]
  have e2 : ¬ 0 < s → g = true → lf n g s = some (n - 1) := fun z y => by simp [lf, z, y]
  have e3 : ¬ 0 < s → ¬ g = true → lf n g s = none := fun z y => by simp [lf, z, y]
  refine q_iln dX12_leftOf_0 rfl ?_
  first | refine n_if_le 10 dX12_leftOf_1 rfl (by omega) (fun c1 => ?_) (fun c1 => ?_) | refine b_if_le 10 dX12_leftOf_1 rfl (fun c1 => ?_) (fun c1 => ?_)
  · first
    | (exfalso; omega)
    | (refine q_aln dX12_leftOf_10 rfl ?_
       refine q_getI dX12_leftOf_11 fl_X12_255 (ws_50 hW) rfl (by first | assumption | rfl) ?_
       refine p_if_eq 26 dX12_leftOf_14 rfl (fun c5 => ?_) (fun c5 => ?_)
       · refine q_ic (v := -1) dX12_leftOf_26 rfl ?_
         refine q_ir dX12_leftOf_27 rfl ?_
         (rw [e3 (by omega) c5]; rfl)
       · refine q_aln dX12_leftOf_17 rfl ?_
         refine q_getI dX12_leftOf_18 fl_X12_252 (ws_50 hW) rfl (by first | assumption | rfl) ?_
         refine q_ic (v := nI 1) dX12_leftOf_21 rfl ?_
         first | refine q_sub dX12_leftOf_22 (by omega) ?_ | refine am_x_pu dX12_leftOf_22 rfl ?_
         refine am_x_goto (tgt := 27) dX12_leftOf_23 rfl ?_
         refine q_ir dX12_leftOf_27 rfl ?_
         (rw [e2 (by omega) c5]; rfl))
  · first
    | (exfalso; omega)
    | (refine q_iln dX12_leftOf_4 rfl ?_
       refine q_ic (v := nI 1) dX12_leftOf_5 rfl ?_
       first | refine q_sub dX12_leftOf_6 (by omega) ?_ | refine am_x_pu dX12_leftOf_6 rfl ?_
       refine am_x_goto (tgt := 27) dX12_leftOf_7 rfl ?_
       refine q_ir dX12_leftOf_27 rfl ?_
       (rw [e1 (by omega)]; rfl))
set_option maxHeartbeats 2000000 in
theorem r_mouthOf_lp {h : am_H} {n : Nat} {g : Bool} {F : Nat → Nat → Nat} {S T : Nat → Nat} (hW : Wd h) (hR : RB h n g F S T) {m : Nat} (hm : m < n) : ∀ k i s, i + k + 1 = n → St n g (T m) i s → s < n → am_Sem 1 m_X12_mouthOf 22 [some (.ref 50), some (.int (nI m)), some (.int (oN (lf n g s)))] [] h (some (.int (oN (mo n g F S k s))), h) := by
  obtain ⟨hn, hg, h7, hF, hB, hS, hT⟩ := id hR
  have hTm := hT m hm
  intro k
  induction k with
  | zero =>
    intro i s hi hst hs
    cases hl : lf n g s with
    | none =>
      refine q_iln dX12_mouthOf_22 rfl ?_
      refine q_ic (v := -1) dX12_mouthOf_23 rfl ?_
      refine t_ic_eq 68 dX12_mouthOf_24 rfl (by rfl) ?_
      refine q_ic (v := -1) dX12_mouthOf_68 rfl ?_
      refine q_ir dX12_mouthOf_69 rfl ?_
      rfl
    | some t =>
      have h1 := St_next hTm.1 (by omega) hst hl
      rw [show i + 1 = n by omega] at h1
      have h2 := St_eq hTm.1 h1
      have h3 : S t = m := by rw [h2]; exact hTm.2
      have hSt := hS t (by omega)
      refine q_iln dX12_mouthOf_22 rfl ?_
      refine q_ic (v := -1) dX12_mouthOf_23 rfl ?_
      refine f_ic_eq dX12_mouthOf_24 (tgt := 68) rfl (by exact nI_m1 (by omega)) ?_
      refine q_aln dX12_mouthOf_27 rfl ?_
      refine q_getR dX12_mouthOf_28 fl_X12_46 (ws_50 hW) rfl (wp_50_23 hW) ?_
      refine q_iln dX12_mouthOf_31 rfl ?_
      refine q_ald dX12_mouthOf_32 (ws_63 hW) (by omega) (by omega) hSt.1 ?_
      refine q_iln dX12_mouthOf_33 rfl ?_
      refine t_ic_eq 68 dX12_mouthOf_34 rfl (by rw [h3]) ?_
      refine q_ic (v := -1) dX12_mouthOf_68 rfl ?_
      refine q_ir dX12_mouthOf_69 rfl ?_
      rfl
  | succ k ih =>
    intro i s hi hst hs
    cases hl : lf n g s with
    | none =>
      rw [mo_n hl]
      refine q_iln dX12_mouthOf_22 rfl ?_
      refine q_ic (v := -1) dX12_mouthOf_23 rfl ?_
      refine t_ic_eq 68 dX12_mouthOf_24 rfl (by rfl) ?_
      refine q_ic (v := -1) dX12_mouthOf_68 rfl ?_
      refine q_ir dX12_mouthOf_69 rfl ?_
      rfl
    | some t =>
      have ht := lf_lt hs hl
      have h1 := St_next hTm.1 (by omega) hst hl
      have h2 := St_ne (by omega) (by omega) h1
      have hSt := hS t ht
      have hb := hB (S t) hSt.2.1
      have h3 : S t ≠ m := fun z => h2 (by rw [← z]; exact hSt.2.2.symm)
      refine q_iln dX12_mouthOf_22 rfl ?_
      refine q_ic (v := -1) dX12_mouthOf_23 rfl ?_
      refine f_ic_eq dX12_mouthOf_24 (tgt := 68) rfl (by exact nI_m1 (by omega)) ?_
      refine q_aln dX12_mouthOf_27 rfl ?_
      refine q_getR dX12_mouthOf_28 fl_X12_46 (ws_50 hW) rfl (wp_50_23 hW) ?_
      refine q_iln dX12_mouthOf_31 rfl ?_
      refine q_ald dX12_mouthOf_32 (ws_63 hW) (by omega) (by omega) hSt.1 ?_
      refine q_iln dX12_mouthOf_33 rfl ?_
      refine f_ic_eq dX12_mouthOf_34 (tgt := 68) rfl (by exact fun z => h3 ((nI_eq (by omega) (by omega)).mp z)) ?_
      refine q_aln dX12_mouthOf_37 rfl ?_
      refine q_aln dX12_mouthOf_38 rfl ?_
      refine q_getR dX12_mouthOf_39 fl_X12_46 (ws_50 hW) rfl (wp_50_23 hW) ?_
      refine q_iln dX12_mouthOf_42 rfl ?_
      refine q_ald dX12_mouthOf_43 (ws_63 hW) (by omega) (by omega) hSt.1 ?_
      refine q_ic (v := nI 3) dX12_mouthOf_44 rfl ?_
      refine q_V2 (N := m_X12_of) dX12_mouthOf_45 lk_X12_258 mV_X12_of (r_of hW hR (by omega) (by omega)) (by decide) (ws_50 hW) rfl (by decide) (Nat.le_of_ble_eq_true rfl) (Nat.le_of_ble_eq_true rfl) ?_
      refine q_ic (v := nI 1) dX12_mouthOf_48 rfl ?_
      first | refine n_ic_eq 59 dX12_mouthOf_49 rfl (by omega) (by omega) (fun c49 => ?_) (fun c49 => ?_) | refine b_ic_eq 59 dX12_mouthOf_49 rfl (fun c49 => ?_) (fun c49 => ?_)
      · first
        | (exfalso; omega)
        | (refine q_aln dX12_mouthOf_59 rfl ?_
           refine q_iln dX12_mouthOf_60 rfl ?_
           refine q_V1 (N := m_X12_leftOf) dX12_mouthOf_61 lk_X12_279 mV_X12_leftOf (r_leftOf hW hR (by omega)) (by decide) (ws_50 hW) rfl (by decide) (Nat.le_of_ble_eq_true rfl) (Nat.le_of_ble_eq_true rfl) ?_
           refine q_isn dX12_mouthOf_64 (by decide) ?_
           refine am_x_goto (tgt := 22) dX12_mouthOf_65 rfl ?_
           (rw [mo_o hl (by omega)]; exact ih (i + 1) t (by omega) h1 ht))
      · first
        | (exfalso; omega)
        | (refine q_aln dX12_mouthOf_52 rfl ?_
           refine q_getR dX12_mouthOf_53 fl_X12_46 (ws_50 hW) rfl (wp_50_23 hW) ?_
           refine q_iln dX12_mouthOf_56 rfl ?_
           refine q_ald dX12_mouthOf_57 (ws_63 hW) (by omega) (by omega) hSt.1 ?_
           refine q_ir dX12_mouthOf_58 rfl ?_
           (rw [mo_y hl (by omega)]; rfl))
set_option maxHeartbeats 2000000 in
theorem r_mouthOf {h : am_H} {n : Nat} {g : Bool} {F : Nat → Nat → Nat} {S T : Nat → Nat} (hW : Wd h) (hR : RB h n g F S T) {m : Nat} (hm : m < n) : am_C 1 m_X12_mouthOf [.ref 50, .int (nI m)] h (some (.int (oN (mth n g F S T m))), h) := by
  obtain ⟨hn, hg, h7, hF, hB, hS, hT⟩ := id hR
  have hTm := hT m hm
  have hb := hB m hm
  refine q_aln dX12_mouthOf_0 rfl ?_
  refine q_iln dX12_mouthOf_1 rfl ?_
  refine q_ic (v := nI 3) dX12_mouthOf_2 rfl ?_
  refine q_V2 (N := m_X12_of) dX12_mouthOf_3 lk_X12_258 mV_X12_of (r_of hW hR (by omega) (by omega)) (by decide) (ws_50 hW) rfl (by decide) (Nat.le_of_ble_eq_true rfl) (Nat.le_of_ble_eq_true rfl) ?_
  refine q_ic (v := nI 1) dX12_mouthOf_6 rfl ?_
  first | refine n_ic_ne 12 dX12_mouthOf_7 rfl (by omega) (by omega) (fun c7 => ?_) (fun c7 => ?_) | refine b_ic_ne 12 dX12_mouthOf_7 rfl (fun c7 => ?_) (fun c7 => ?_)
  · first
    | (exfalso; omega)
    | (refine q_aln dX12_mouthOf_12 rfl ?_
       refine q_aln dX12_mouthOf_13 rfl ?_
       refine q_iln dX12_mouthOf_14 rfl ?_
       refine q_V1 (N := m_X12_seatOf) dX12_mouthOf_15 lk_X12_276 mV_X12_seatOf (r_seatOf hW hR (by omega)) (by decide) (ws_50 hW) rfl (by decide) (Nat.le_of_ble_eq_true rfl) (Nat.le_of_ble_eq_true rfl) ?_
       refine q_V1 (N := m_X12_leftOf) dX12_mouthOf_18 lk_X12_279 mV_X12_leftOf (r_leftOf hW hR (by omega)) (by decide) (ws_50 hW) rfl (by decide) (Nat.le_of_ble_eq_true rfl) (Nat.le_of_ble_eq_true rfl) ?_
       refine q_isn dX12_mouthOf_21 (by decide) ?_
       (rw [mth_y (by omega)]; exact r_mouthOf_lp hW hR hm (n - 1) 0 (T m) (by omega) (Or.inl ⟨by omega, by omega⟩) hTm.1))
  · first
    | (exfalso; omega)
    | (refine q_ic (v := -1) dX12_mouthOf_10 rfl ?_
       refine q_ir dX12_mouthOf_11 rfl ?_
       (rw [mth_n (by omega)]; rfl))
set_option maxHeartbeats 2000000 in
theorem r_isSwallowed {h : am_H} {n : Nat} {g : Bool} {F : Nat → Nat → Nat} {S T : Nat → Nat} (hW : Wd h) (hR : RB h n g F S T) {m q : Nat} (hm : m < n) (hq : q < n) : am_C 1 m_X12_isSwallowed [.ref 50, .int (nI m), .int (nI q)] h (some (.int (nI (if swl F q m then 1 else 0))), h) := by
  obtain ⟨hn, hg, h7, hF, hB, hS, hT⟩ := id hR
  have hb := hB q hq
  refine q_aln dX12_isSwallowed_0 rfl ?_
  refine q_iln dX12_isSwallowed_1 rfl ?_
  refine q_ic (v := nI 3) dX12_isSwallowed_2 rfl ?_
  refine q_V2 (N := m_X12_of) dX12_isSwallowed_3 lk_X12_258 mV_X12_of (r_of hW hR (by omega) (by omega)) (by decide) (ws_50 hW) rfl (by decide) (Nat.le_of_ble_eq_true rfl) (Nat.le_of_ble_eq_true rfl) ?_
  refine q_ic (v := nI 3) dX12_isSwallowed_6 rfl ?_
  first | refine n_ic_eq 20 dX12_isSwallowed_7 rfl (by omega) (by omega) (fun c7 => ?_) (fun c7 => ?_) | refine b_ic_eq 20 dX12_isSwallowed_7 rfl (fun c7 => ?_) (fun c7 => ?_)
  · first
    | (exfalso; omega)
    | (refine q_ic (v := nI 1) dX12_isSwallowed_20 rfl ?_
       refine am_x_goto (tgt := 25) dX12_isSwallowed_21 rfl ?_
       first | refine q_zrn dX12_isSwallowed_25 rfl (by first | omega | exact b2_le) ?_ | refine q_zr dX12_isSwallowed_25 rfl (by first | exact Or.inl rfl | exact Or.inr rfl | assumption) ?_
       (apply o_nI; simp_all [swl]))
  · first
    | (exfalso; omega)
    | (refine q_aln dX12_isSwallowed_10 rfl ?_
       refine q_iln dX12_isSwallowed_11 rfl ?_
       refine q_ic (v := nI 4) dX12_isSwallowed_12 rfl ?_
       refine q_V2 (N := m_X12_of) dX12_isSwallowed_13 lk_X12_258 mV_X12_of (r_of hW hR (by omega) (by omega)) (by decide) (ws_50 hW) rfl (by decide) (Nat.le_of_ble_eq_true rfl) (Nat.le_of_ble_eq_true rfl) ?_
       refine q_iln dX12_isSwallowed_16 rfl ?_
       first | refine n_ic_ne 24 dX12_isSwallowed_17 rfl (by omega) (by omega) (fun c17 => ?_) (fun c17 => ?_) | refine b_ic_ne 24 dX12_isSwallowed_17 rfl (fun c17 => ?_) (fun c17 => ?_)
       · first
         | (exfalso; omega)
         | (refine q_ic (v := nI 0) dX12_isSwallowed_24 rfl ?_
            first | refine q_zrn dX12_isSwallowed_25 rfl (by first | omega | exact b2_le) ?_ | refine q_zr dX12_isSwallowed_25 rfl (by first | exact Or.inl rfl | exact Or.inr rfl | assumption) ?_
            (apply o_nI; simp_all [swl]))
       · first
         | (exfalso; omega)
         | (refine q_ic (v := nI 1) dX12_isSwallowed_20 rfl ?_
            refine am_x_goto (tgt := 25) dX12_isSwallowed_21 rfl ?_
            first | refine q_zrn dX12_isSwallowed_25 rfl (by first | omega | exact b2_le) ?_ | refine q_zr dX12_isSwallowed_25 rfl (by first | exact Or.inl rfl | exact Or.inr rfl | assumption) ?_
            (apply o_nI; simp_all [swl])))
set_option maxHeartbeats 2000000 in
theorem r_isHeard {h : am_H} {n : Nat} {g : Bool} {F : Nat → Nat → Nat} {S T : Nat → Nat} (hW : Wd h) (hR : RB h n g F S T) {m : Nat} (hm : m < n) : am_C 2 m_X12_isHeard [.ref 50, .int (nI m)] h (some (.int (nI (if hrd n g F S T m = true then 1 else 0))), h) := by
  have h7 := hR.2.2.1
  cases hq : mth n g F S T m with
  | none =>
    refine q_aln dX12_isHeard_0 rfl ?_
    refine q_iln dX12_isHeard_1 rfl ?_
    refine q_V1 (N := m_X12_mouthOf) dX12_isHeard_2 lk_X12_282 mV_X12_mouthOf ((by have q := r_mouthOf hW hR hm; rw [hq] at q; exact q)) (by decide) (ws_50 hW) rfl (by decide) (Nat.le_of_ble_eq_true rfl) (Nat.le_of_ble_eq_true rfl) ?_
    refine q_isn dX12_isHeard_5 (by decide) ?_
    refine q_iln dX12_isHeard_6 rfl ?_
    refine q_ic (v := -1) dX12_isHeard_7 rfl ?_
    refine t_ic_eq 24 dX12_isHeard_8 rfl (by rfl) ?_
    refine q_ic (v := nI 0) dX12_isHeard_24 rfl ?_
    first | refine q_zrn dX12_isHeard_25 rfl (by first | omega | exact b2_le) ?_ | refine q_zr dX12_isHeard_25 rfl (by first | exact Or.inl rfl | exact Or.inr rfl | assumption) ?_
    (apply o_nI; simp [hrd_n hq])
  | some q =>
    have hqn := mth_lt hR.S hR.T hm hq
    refine q_aln dX12_isHeard_0 rfl ?_
    refine q_iln dX12_isHeard_1 rfl ?_
    refine q_V1 (N := m_X12_mouthOf) dX12_isHeard_2 lk_X12_282 mV_X12_mouthOf ((by have z := r_mouthOf hW hR hm; rw [hq] at z; exact z)) (by decide) (ws_50 hW) rfl (by decide) (Nat.le_of_ble_eq_true rfl) (Nat.le_of_ble_eq_true rfl) ?_
    refine q_isn dX12_isHeard_5 (by decide) ?_
    refine q_iln dX12_isHeard_6 rfl ?_
    refine q_ic (v := -1) dX12_isHeard_7 rfl ?_
    refine f_ic_eq dX12_isHeard_8 (tgt := 24) rfl (by exact nI_m1 (by omega)) ?_
    refine q_aln dX12_isHeard_11 rfl ?_
    refine q_iln dX12_isHeard_12 rfl ?_
    refine q_iln dX12_isHeard_13 rfl ?_
    refine q_V2 (N := m_X12_isSwallowed) dX12_isHeard_14 lk_X12_285 mV_X12_isSwallowed (r_isSwallowed hW hR (by omega) (by omega)) (by decide) (ws_50 hW) rfl (by decide) (Nat.le_of_ble_eq_true rfl) (Nat.le_of_ble_eq_true rfl) ?_
    first | refine p_if_ne 24 dX12_isHeard_17 rfl (fun c17 => ?_) (fun c17 => ?_) | refine n_if_ne 24 dX12_isHeard_17 rfl (by omega) (fun c17 => ?_) (fun c17 => ?_) | refine b_if_ne 24 dX12_isHeard_17 rfl (fun c17 => ?_) (fun c17 => ?_)
    · first
      | (exfalso; omega)
      | (refine q_ic (v := nI 0) dX12_isHeard_24 rfl ?_
         first | refine q_zrn dX12_isHeard_25 rfl (by first | omega | exact b2_le) ?_ | refine q_zr dX12_isHeard_25 rfl (by first | exact Or.inl rfl | exact Or.inr rfl | assumption) ?_
         (apply o_nI; simp [hrd_s hq, c17]))
    · first
      | (exfalso; omega)
      | (refine q_ic (v := nI 1) dX12_isHeard_20 rfl ?_
         refine am_x_goto (tgt := 25) dX12_isHeard_21 rfl ?_
         first | refine q_zrn dX12_isHeard_25 rfl (by first | omega | exact b2_le) ?_ | refine q_zr dX12_isHeard_25 rfl (by first | exact Or.inl rfl | exact Or.inr rfl | assumption) ?_
         (apply o_nI; simp [hrd_s hq, c17]))
set_option maxHeartbeats 2000000 in
theorem r_errorOf {h : am_H} {n : Nat} {g : Bool} {F : Nat → Nat → Nat} {S T : Nat → Nat} (hW : Wd h) (hR : RB h n g F S T) {q : Nat} (hq : q < n) : am_C 1 m_X12_errorOf [.ref 50, .int (nI q)] h (some (.int (nI (slp F q))), h) := by
  obtain ⟨hn, hg, h7, hF, hB, hS, hT⟩ := id hR
  have hb := hB q hq
  refine q_aln dX12_errorOf_0 rfl ?_
  refine q_iln dX12_errorOf_1 rfl ?_
  refine q_ic (v := nI 3) dX12_errorOf_2 rfl ?_
  refine q_V2 (N := m_X12_of) dX12_errorOf_3 lk_X12_258 mV_X12_of (r_of hW hR (by omega) (by omega)) (by decide) (ws_50 hW) rfl (by decide) (Nat.le_of_ble_eq_true rfl) (Nat.le_of_ble_eq_true rfl) ?_
  refine q_ic (v := nI 2) dX12_errorOf_6 rfl ?_
  first | refine n_ic_ne 14 dX12_errorOf_7 rfl (by omega) (by omega) (fun c7 => ?_) (fun c7 => ?_) | refine b_ic_ne 14 dX12_errorOf_7 rfl (fun c7 => ?_) (fun c7 => ?_)
  · first
    | (exfalso; omega)
    | (refine q_aln dX12_errorOf_14 rfl ?_
       refine q_iln dX12_errorOf_15 rfl ?_
       refine q_ic (v := nI 2) dX12_errorOf_16 rfl ?_
       refine q_V2 (N := m_X12_of) dX12_errorOf_17 lk_X12_258 mV_X12_of (r_of hW hR (by omega) (by omega)) (by decide) (ws_50 hW) rfl (by decide) (Nat.le_of_ble_eq_true rfl) (Nat.le_of_ble_eq_true rfl) ?_
       refine q_ir dX12_errorOf_20 rfl ?_
       (apply o_nI; simp [slp, c7]))
  · first
    | (exfalso; omega)
    | (refine q_ic (v := nI 0) dX12_errorOf_10 rfl ?_
       refine am_x_goto (tgt := 20) dX12_errorOf_11 rfl ?_
       refine q_ir dX12_errorOf_20 rfl ?_
       (apply o_nI; simp [slp, c7]))
set_option maxHeartbeats 2000000 in
theorem r_heardMany_lp {h : am_H} {n : Nat} {g : Bool} {F : Nat → Nat → Nat} {S T : Nat → Nat} (hW : Wd h) (hR : RB h n g F S T)  : ∀ k j, j + k = n → am_Sem 3 m_X12_heardMany 4 [some (.ref 50), some (.int (nI (ct (fun m => hrd n g F S T m) j))), some (.int (nI j))] [] h (some (.int (nI (ct (fun m => hrd n g F S T m) n))), h) := by
  obtain ⟨hn, hg, h7, hF, hB, hS, hT⟩ := id hR
  intro k
  induction k with
  | zero =>
    intro j hj
    have hjn : j = n := by omega
    subst hjn
    refine q_iln dX12_heardMany_4 rfl ?_
    refine q_aln dX12_heardMany_5 rfl ?_
    refine q_getI dX12_heardMany_6 fl_X12_252 (ws_50 hW) rfl (by first | assumption | rfl) ?_
    refine t_ic_ge 34 dX12_heardMany_9 rfl (by exact nI_le (by omega) (by omega)) ?_
    refine q_iln dX12_heardMany_34 rfl ?_
    refine q_ir dX12_heardMany_35 rfl ?_
    rfl
  | succ k ih =>
    intro j hj
    refine q_iln dX12_heardMany_4 rfl ?_
    refine q_aln dX12_heardMany_5 rfl ?_
    refine q_getI dX12_heardMany_6 fl_X12_252 (ws_50 hW) rfl (by first | assumption | rfl) ?_
    refine f_ic_ge dX12_heardMany_9 (tgt := 34) rfl (by exact nI_ge (by omega) (by omega)) ?_
    refine q_iln dX12_heardMany_12 rfl ?_
    refine q_aln dX12_heardMany_13 rfl ?_
    refine q_iln dX12_heardMany_14 rfl ?_
    refine q_V1 (N := m_X12_isHeard) dX12_heardMany_15 lk_X12_291 mV_X12_isHeard (r_isHeard hW hR (by omega)) (by decide) (ws_50 hW) rfl (by decide) (Nat.le_of_ble_eq_true rfl) (Nat.le_of_ble_eq_true rfl) ?_
    first | refine p_if_eq 25 dX12_heardMany_18 rfl (fun c18 => ?_) (fun c18 => ?_) | refine n_if_eq 25 dX12_heardMany_18 rfl (by omega) (fun c18 => ?_) (fun c18 => ?_) | refine b_if_eq 25 dX12_heardMany_18 rfl (fun c18 => ?_) (fun c18 => ?_)
    · first
      | (exfalso; omega)
      | (refine q_ic (v := nI 0) dX12_heardMany_25 rfl ?_
         first | refine q_add dX12_heardMany_26 ?_ | refine am_x_pu dX12_heardMany_26 rfl ?_
         refine q_isn dX12_heardMany_27 (by decide) ?_
         refine q_inc dX12_heardMany_28 rfl (by decide) ?_
         refine am_x_goto (tgt := 4) dX12_heardMany_31 rfl ?_
         (have q := ih (j + 1) (by omega); first | (rw [ct_t (p := fun m => hrd n g F S T m) (k := j) c18] at q; exact q) | (rw [ct_f (p := fun m => hrd n g F S T m) (k := j) c18] at q; exact q)))
    · first
      | (exfalso; omega)
      | (refine q_ic (v := nI 1) dX12_heardMany_21 rfl ?_
         refine am_x_goto (tgt := 26) dX12_heardMany_22 rfl ?_
         first | refine q_add dX12_heardMany_26 ?_ | refine am_x_pu dX12_heardMany_26 rfl ?_
         refine q_isn dX12_heardMany_27 (by decide) ?_
         refine q_inc dX12_heardMany_28 rfl (by decide) ?_
         refine am_x_goto (tgt := 4) dX12_heardMany_31 rfl ?_
         (have q := ih (j + 1) (by omega); first | (rw [ct_t (p := fun m => hrd n g F S T m) (k := j) c18] at q; exact q) | (rw [ct_f (p := fun m => hrd n g F S T m) (k := j) c18] at q; exact q)))
set_option maxHeartbeats 2000000 in
theorem r_heardMany {h : am_H} {n : Nat} {g : Bool} {F : Nat → Nat → Nat} {S T : Nat → Nat} (hW : Wd h) (hR : RB h n g F S T)  : am_C 3 m_X12_heardMany [.ref 50] h (some (.int (nI (ct (fun m => hrd n g F S T m) n))), h) := by
  refine q_ic (v := nI 0) dX12_heardMany_0 rfl ?_
  refine q_isn dX12_heardMany_1 (by decide) ?_
  refine q_ic (v := nI 0) dX12_heardMany_2 rfl ?_
  refine q_isn dX12_heardMany_3 (by decide) ?_
  exact r_heardMany_lp hW hR n 0 (by omega)
set_option maxHeartbeats 2000000 in
theorem r_has {h : am_H} {b k : Nat} (hb : b < 2 ^ 31) (hk : k < 32) : am_C 0 m_X12_has [.int (nI b), .int (nI k)] h (some (.int (nI (if b.testBit k = true then 1 else 0))), h) := by
  refine q_iln dX12_has_0 rfl ?_
  refine q_iln dX12_has_1 rfl ?_
  first | refine q_shr dX12_has_2 (by omega) (by omega) ?_ | refine am_x_pu dX12_has_2 rfl ?_
  refine q_ic (v := nI 1) dX12_has_3 rfl ?_
  first | refine q_and dX12_has_4 ?_ | refine am_x_pu dX12_has_4 rfl ?_
  rw [bit_and]
  by_cases hbk : b.testBit k = true
  · rw [if_pos hbk]
    refine q_ic (v := nI 1) dX12_has_5 rfl ?_
    refine f_ic_ne dX12_has_6 (tgt := 13) rfl (by rfl) ?_
    refine q_ic (v := nI 1) dX12_has_9 rfl ?_
    refine am_x_goto (tgt := 14) dX12_has_10 rfl ?_
    first | refine q_zrn dX12_has_14 rfl (by first | omega | exact b2_le) ?_ | refine q_zr dX12_has_14 rfl (by first | exact Or.inl rfl | exact Or.inr rfl | assumption) ?_
    rfl
  · rw [if_neg hbk]
    refine q_ic (v := nI 1) dX12_has_5 rfl ?_
    refine t_ic_ne 13 dX12_has_6 rfl (by decide +kernel) ?_
    refine q_ic (v := nI 0) dX12_has_13 rfl ?_
    first | refine q_zrn dX12_has_14 rfl (by first | omega | exact b2_le) ?_ | refine q_zr dX12_has_14 rfl (by first | exact Or.inl rfl | exact Or.inr rfl | assumption) ?_
    rfl
set_option maxHeartbeats 2000000 in
theorem r_yesMany_lp {h : am_H} {n : Nat} {g : Bool} {F : Nat → Nat → Nat} {S T : Nat → Nat} (hW : Wd h) (hR : RB h n g F S T) {b : Nat} (hb : b < 128) : ∀ k j, j + k = n → am_Sem 3 m_X12_yesMany 4 [some (.ref 50), some (.int (nI b)), some (.int (nI (ct (fun m => hrd n g F S T m && (decide (F 0 m = 1) || b.testBit m)) j))), some (.int (nI j))] [] h (some (.int (nI (ct (fun m => hrd n g F S T m && (decide (F 0 m = 1) || b.testBit m)) n))), h) := by
  obtain ⟨hn, hg, h7, hF, hB, hS, hT⟩ := id hR
  intro k
  induction k with
  | zero =>
    intro j hj
    have hjn : j = n := by omega
    subst hjn
    refine q_iln dX12_yesMany_4 rfl ?_
    refine q_aln dX12_yesMany_5 rfl ?_
    refine q_getI dX12_yesMany_6 fl_X12_252 (ws_50 hW) rfl (by first | assumption | rfl) ?_
    refine t_ic_ge 52 dX12_yesMany_9 rfl (by exact nI_le (by omega) (by omega)) ?_
    refine q_iln dX12_yesMany_52 rfl ?_
    refine q_ir dX12_yesMany_53 rfl ?_
    rfl
  | succ k ih =>
    intro j hj
    have hbb := hB j (by omega)
    refine q_iln dX12_yesMany_4 rfl ?_
    refine q_aln dX12_yesMany_5 rfl ?_
    refine q_getI dX12_yesMany_6 fl_X12_252 (ws_50 hW) rfl (by first | assumption | rfl) ?_
    refine f_ic_ge dX12_yesMany_9 (tgt := 52) rfl (by exact nI_ge (by omega) (by omega)) ?_
    refine q_iln dX12_yesMany_12 rfl ?_
    refine q_aln dX12_yesMany_13 rfl ?_
    refine q_iln dX12_yesMany_14 rfl ?_
    refine q_V1 (N := m_X12_isHeard) dX12_yesMany_15 lk_X12_291 mV_X12_isHeard (r_isHeard hW hR (by omega)) (by decide) (ws_50 hW) rfl (by decide) (Nat.le_of_ble_eq_true rfl) (Nat.le_of_ble_eq_true rfl) ?_
    first | refine p_if_eq 43 dX12_yesMany_18 rfl (fun c18 => ?_) (fun c18 => ?_) | refine n_if_eq 43 dX12_yesMany_18 rfl (by omega) (fun c18 => ?_) (fun c18 => ?_) | refine b_if_eq 43 dX12_yesMany_18 rfl (fun c18 => ?_) (fun c18 => ?_)
    · first
      | (exfalso; omega)
      | (refine q_ic (v := nI 0) dX12_yesMany_43 rfl ?_
         first | refine q_add dX12_yesMany_44 ?_ | refine am_x_pu dX12_yesMany_44 rfl ?_
         refine q_isn dX12_yesMany_45 (by decide) ?_
         refine q_inc dX12_yesMany_46 rfl (by decide) ?_
         refine am_x_goto (tgt := 4) dX12_yesMany_49 rfl ?_
         (have q := ih (j + 1) (by omega); first | (rw [ct_t (p := fun m => hrd n g F S T m && (decide (F 0 m = 1) || b.testBit m)) (k := j) (by simp_all)] at q; exact q) | (rw [ct_f (p := fun m => hrd n g F S T m && (decide (F 0 m = 1) || b.testBit m)) (k := j) (by simp_all)] at q; exact q)))
    · first
      | (exfalso; omega)
      | (refine q_aln dX12_yesMany_21 rfl ?_
         refine q_iln dX12_yesMany_22 rfl ?_
         refine q_ic (v := nI 0) dX12_yesMany_23 rfl ?_
         refine q_V2 (N := m_X12_of) dX12_yesMany_24 lk_X12_258 mV_X12_of (r_of hW hR (by omega) (by omega)) (by decide) (ws_50 hW) rfl (by decide) (Nat.le_of_ble_eq_true rfl) (Nat.le_of_ble_eq_true rfl) ?_
         refine q_ic (v := nI 1) dX12_yesMany_27 rfl ?_
         first | refine n_ic_eq 39 dX12_yesMany_28 rfl (by omega) (by omega) (fun c28 => ?_) (fun c28 => ?_) | refine b_ic_eq 39 dX12_yesMany_28 rfl (fun c28 => ?_) (fun c28 => ?_)
         · first
           | (exfalso; omega)
           | (refine q_ic (v := nI 1) dX12_yesMany_39 rfl ?_
              refine am_x_goto (tgt := 44) dX12_yesMany_40 rfl ?_
              first | refine q_add dX12_yesMany_44 ?_ | refine am_x_pu dX12_yesMany_44 rfl ?_
              refine q_isn dX12_yesMany_45 (by decide) ?_
              refine q_inc dX12_yesMany_46 rfl (by decide) ?_
              refine am_x_goto (tgt := 4) dX12_yesMany_49 rfl ?_
              (have q := ih (j + 1) (by omega); first | (rw [ct_t (p := fun m => hrd n g F S T m && (decide (F 0 m = 1) || b.testBit m)) (k := j) (by simp_all)] at q; exact q) | (rw [ct_f (p := fun m => hrd n g F S T m && (decide (F 0 m = 1) || b.testBit m)) (k := j) (by simp_all)] at q; exact q)))
         · first
           | (exfalso; omega)
           | (refine q_iln dX12_yesMany_31 rfl ?_
              refine q_iln dX12_yesMany_32 rfl ?_
              refine q_S2 (N := m_X12_has) dX12_yesMany_33 lk_X12_228 mS_X12_has (r_has (by omega) (by omega)) (by decide) (Nat.le_of_ble_eq_true rfl) (Nat.le_of_ble_eq_true rfl) ?_
              first | refine p_if_eq 43 dX12_yesMany_36 rfl (fun c36 => ?_) (fun c36 => ?_) | refine n_if_eq 43 dX12_yesMany_36 rfl (by omega) (fun c36 => ?_) (fun c36 => ?_) | refine b_if_eq 43 dX12_yesMany_36 rfl (fun c36 => ?_) (fun c36 => ?_)
              · first
                | (exfalso; omega)
                | (refine q_ic (v := nI 0) dX12_yesMany_43 rfl ?_
                   first | refine q_add dX12_yesMany_44 ?_ | refine am_x_pu dX12_yesMany_44 rfl ?_
                   refine q_isn dX12_yesMany_45 (by decide) ?_
                   refine q_inc dX12_yesMany_46 rfl (by decide) ?_
                   refine am_x_goto (tgt := 4) dX12_yesMany_49 rfl ?_
                   (have q := ih (j + 1) (by omega); first | (rw [ct_t (p := fun m => hrd n g F S T m && (decide (F 0 m = 1) || b.testBit m)) (k := j) (by simp_all)] at q; exact q) | (rw [ct_f (p := fun m => hrd n g F S T m && (decide (F 0 m = 1) || b.testBit m)) (k := j) (by simp_all)] at q; exact q)))
              · first
                | (exfalso; omega)
                | (refine q_ic (v := nI 1) dX12_yesMany_39 rfl ?_
                   refine am_x_goto (tgt := 44) dX12_yesMany_40 rfl ?_
                   first | refine q_add dX12_yesMany_44 ?_ | refine am_x_pu dX12_yesMany_44 rfl ?_
                   refine q_isn dX12_yesMany_45 (by decide) ?_
                   refine q_inc dX12_yesMany_46 rfl (by decide) ?_
                   refine am_x_goto (tgt := 4) dX12_yesMany_49 rfl ?_
                   (have q := ih (j + 1) (by omega); first | (rw [ct_t (p := fun m => hrd n g F S T m && (decide (F 0 m = 1) || b.testBit m)) (k := j) (by simp_all)] at q; exact q) | (rw [ct_f (p := fun m => hrd n g F S T m && (decide (F 0 m = 1) || b.testBit m)) (k := j) (by simp_all)] at q; exact q)))))
set_option maxHeartbeats 2000000 in
theorem r_yesMany {h : am_H} {n : Nat} {g : Bool} {F : Nat → Nat → Nat} {S T : Nat → Nat} (hW : Wd h) (hR : RB h n g F S T) {b : Nat} (hb : b < 128) : am_C 3 m_X12_yesMany [.ref 50, .int (nI b)] h (some (.int (nI (ct (fun m => hrd n g F S T m && (decide (F 0 m = 1) || b.testBit m)) n))), h) := by
  refine q_ic (v := nI 0) dX12_yesMany_0 rfl ?_
  refine q_isn dX12_yesMany_1 (by decide) ?_
  refine q_ic (v := nI 0) dX12_yesMany_2 rfl ?_
  refine q_isn dX12_yesMany_3 (by decide) ?_
  exact r_yesMany_lp hW hR hb n 0 (by omega)
set_option maxHeartbeats 2000000 in
theorem r_digits_lp {h : am_H} {n : Nat} {g : Bool} {F : Nat → Nat → Nat} {S T : Nat → Nat} (hW : Wd h) (hR : RB h n g F S T)  : ∀ k j, j + k = n → am_Sem 0 m_X12_digits 4 [some (.ref 50), some (.int (nI (dg S j))), some (.int (nI j))] [] h (some (.int (nI (dg S n))), h) := by
  obtain ⟨hn, hg, h7, hF, hB, hS, hT⟩ := id hR
  intro k
  induction k with
  | zero =>
    intro j hj
    have hjn : j = n := by omega
    subst hjn
    refine q_iln dX12_digits_4 rfl ?_
    refine q_aln dX12_digits_5 rfl ?_
    refine q_getI dX12_digits_6 fl_X12_252 (ws_50 hW) rfl (by first | assumption | rfl) ?_
    refine t_ic_ge 30 dX12_digits_9 rfl (by exact nI_le (by omega) (by omega)) ?_
    refine q_iln dX12_digits_30 rfl ?_
    refine q_ir dX12_digits_31 rfl ?_
    rfl
  | succ k ih =>
    intro j hj
    refine q_iln dX12_digits_4 rfl ?_
    refine q_aln dX12_digits_5 rfl ?_
    refine q_getI dX12_digits_6 fl_X12_252 (ws_50 hW) rfl (by first | assumption | rfl) ?_
    refine f_ic_ge dX12_digits_9 (tgt := 30) rfl (by exact nI_ge (by omega) (by omega)) ?_
    refine q_bp (v := nI 10) dX12_digits_12 rfl ?_
    refine q_iln dX12_digits_14 rfl ?_
    first | refine q_mul dX12_digits_15 ?_ | refine am_x_pu dX12_digits_15 rfl ?_
    refine q_aln dX12_digits_16 rfl ?_
    refine q_getR dX12_digits_17 fl_X12_46 (ws_50 hW) rfl (wp_50_23 hW) ?_
    refine q_iln dX12_digits_20 rfl ?_
    refine q_ald dX12_digits_21 (ws_63 hW) (by omega) (by omega) (hS _ (by omega)).1 ?_
    first | refine q_add dX12_digits_22 ?_ | refine am_x_pu dX12_digits_22 rfl ?_
    refine q_isn dX12_digits_23 (by decide) ?_
    refine q_inc dX12_digits_24 rfl (by decide) ?_
    refine am_x_goto (tgt := 4) dX12_digits_27 rfl ?_
    (have q := ih (j + 1) (by omega); rw [show dg S (j + 1) = 10 * dg S j + S j by simp only [dg]; omega] at q; exact q)
set_option maxHeartbeats 2000000 in
theorem r_digits {h : am_H} {n : Nat} {g : Bool} {F : Nat → Nat → Nat} {S T : Nat → Nat} (hW : Wd h) (hR : RB h n g F S T)  : am_C 0 m_X12_digits [.ref 50] h (some (.int (nI (dg S n))), h) := by
  refine q_ic (v := nI 0) dX12_digits_0 rfl ?_
  refine q_isn dX12_digits_1 (by decide) ?_
  refine q_ic (v := nI 0) dX12_digits_2 rfl ?_
  refine q_isn dX12_digits_3 (by decide) ?_
  exact r_digits_lp hW hR n 0 (by omega)
