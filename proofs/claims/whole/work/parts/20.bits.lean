set_option maxHeartbeats 2000000 in
theorem c_bitCount {h : am_H} {b : Nat} (hb : b < 128) : am_C 0 m_J6_bitCount_0f7a4 [.int (nI b)] h (some (.int (nI (popc b))), h) := by
  refine q_iln dJ6_bitCount_0f7a4_0 rfl ?_
  refine q_iln dJ6_bitCount_0f7a4_1 rfl ?_
  refine q_ic (v := nI 1) dJ6_bitCount_0f7a4_2 rfl ?_
  refine am_x_pu dJ6_bitCount_0f7a4_3 rfl ?_
  refine am_x_ldcw dJ6_bitCount_0f7a4_4 kc_J6_265 ?_
  refine am_x_pu dJ6_bitCount_0f7a4_7 rfl ?_
  refine am_x_pu dJ6_bitCount_0f7a4_8 rfl ?_
  refine q_isn dJ6_bitCount_0f7a4_9 (by decide) ?_
  refine q_iln dJ6_bitCount_0f7a4_10 rfl ?_
  refine am_x_ldcw dJ6_bitCount_0f7a4_11 kc_J6_266 ?_
  refine am_x_pu dJ6_bitCount_0f7a4_14 rfl ?_
  refine q_iln dJ6_bitCount_0f7a4_15 rfl ?_
  refine q_ic (v := nI 2) dJ6_bitCount_0f7a4_16 rfl ?_
  refine am_x_pu dJ6_bitCount_0f7a4_17 rfl ?_
  refine am_x_ldcw dJ6_bitCount_0f7a4_18 kc_J6_266 ?_
  refine am_x_pu dJ6_bitCount_0f7a4_21 rfl ?_
  refine am_x_pu dJ6_bitCount_0f7a4_22 rfl ?_
  refine q_isn dJ6_bitCount_0f7a4_23 (by decide) ?_
  refine q_iln dJ6_bitCount_0f7a4_24 rfl ?_
  refine q_iln dJ6_bitCount_0f7a4_25 rfl ?_
  refine q_ic (v := nI 4) dJ6_bitCount_0f7a4_26 rfl ?_
  refine am_x_pu dJ6_bitCount_0f7a4_27 rfl ?_
  refine am_x_pu dJ6_bitCount_0f7a4_28 rfl ?_
  refine am_x_ldcw dJ6_bitCount_0f7a4_29 kc_J6_267 ?_
  refine am_x_pu dJ6_bitCount_0f7a4_32 rfl ?_
  refine q_isn dJ6_bitCount_0f7a4_33 (by decide) ?_
  refine q_iln dJ6_bitCount_0f7a4_34 rfl ?_
  refine q_iln dJ6_bitCount_0f7a4_35 rfl ?_
  refine q_bp (v := nI 8) dJ6_bitCount_0f7a4_36 rfl ?_
  refine am_x_pu dJ6_bitCount_0f7a4_38 rfl ?_
  refine am_x_pu dJ6_bitCount_0f7a4_39 rfl ?_
  refine q_isn dJ6_bitCount_0f7a4_40 (by decide) ?_
  refine q_iln dJ6_bitCount_0f7a4_41 rfl ?_
  refine q_iln dJ6_bitCount_0f7a4_42 rfl ?_
  refine q_bp (v := nI 16) dJ6_bitCount_0f7a4_43 rfl ?_
  refine am_x_pu dJ6_bitCount_0f7a4_45 rfl ?_
  refine am_x_pu dJ6_bitCount_0f7a4_46 rfl ?_
  refine q_isn dJ6_bitCount_0f7a4_47 (by decide) ?_
  refine q_iln dJ6_bitCount_0f7a4_48 rfl ?_
  refine q_bp (v := nI 63) dJ6_bitCount_0f7a4_49 rfl ?_
  refine am_x_pu dJ6_bitCount_0f7a4_51 rfl ?_
  refine q_ir dJ6_bitCount_0f7a4_52 rfl ?_
  (apply o_int; clear h; revert b; decide +kernel)
