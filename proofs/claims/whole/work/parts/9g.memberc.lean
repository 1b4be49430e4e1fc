/-! member: where it answers -/
def mbV (n : Nat) (g : Bool) (F : Nat → Nat → Nat) (S T : Nat → Nat) (k j : Nat) : Int32 := if j = 7 then nI (T k) else if j = 8 then oN (mth n g F S T k) else if j = 9 then nI (if hrd n g F S T k = true then 1 else 0) else nI (F j k)
theorem mbV_7 {n : Nat} {g : Bool} {F : Nat → Nat → Nat} {S T : Nat → Nat} {k j : Nat} (hj : j < 7) : mbV n g F S T k j = nI (F j k) := by unfold mbV; rw [if_neg (by omega), if_neg (by omega), if_neg (by omega)]
abbrev m_L_member : am_M := (yL_member, cL_member, 5, some .int)
set_option maxHeartbeats 2000000 in
theorem c_memberY {h : am_H} {n : Nat} {g : Bool} {F : Nat → Nat → Nat} (hW : Wd h) (hM : MB h n g F) {S T : Nat → Nat} (hS : SB 11 12 13 h n S T) {k j : Nat} (hk : k < n) (hj : j < 10) : am_C 3 m_X11_member [.ref 0, .int (nI k), .int (nI j)] h (some (.int (mbV n g F S T k j)), h) := by
  obtain ⟨hn, hg, h7, hF, hB⟩ := id hM
  refine q_aln dX11_member_0 rfl ?_
  refine q_getR dX11_member_1 fl_X11_48 (ws_0 hW) rfl (wp_0_6 hW) ?_
  refine q_iln dX11_member_4 rfl ?_
  refine q_V1 (N := m_X5_has) dX11_member_5 lk_X11_165 mV_X5_has (c_has hW hM hk) (by decide) (ws_9 hW) rfl (by decide) (Nat.le_of_ble_eq_true rfl) (Nat.le_of_ble_eq_true rfl) ?_
  refine f_if_eq dX11_member_8 (tgt := 21) rfl (by exact zf1) ?_
  refine q_iln dX11_member_11 rfl ?_
  refine f_if_lt dX11_member_12 (tgt := 21) rfl (by show ¬ nI j < nI 0; exact nI_nlt (by omega) (by omega)) ?_
  refine q_iln dX11_member_15 rfl ?_
  refine q_bp (v := nI 9) dX11_member_16 rfl ?_
  refine t_ic_le 29 dX11_member_18 rfl (by exact nI_le (by omega) (by omega)) ?_
  refine q_iln dX11_member_29 rfl ?_
  rcases (show j < 7 ∨ j = 7 ∨ j = 8 ∨ j = 9 by omega) with h7j | rfl | rfl | rfl
  · rw [mbV_7 h7j]
    have ej : (nI j).toInt = (j : Int) := nI_toInt (by omega)
    refine am_x_tOut (tgt := 91) dX11_member_30 (by rw [ej]; omega) rfl ?_
    refine q_aln dX11_member_91 rfl ?_
    refine q_getR dX11_member_92 fl_X11_48 (ws_0 hW) rfl (wp_0_6 hW) ?_
    refine q_iln dX11_member_95 rfl ?_
    refine q_iln dX11_member_96 rfl ?_
    refine q_V2 (N := m_X5_fact) dX11_member_97 lk_X11_180 mV_X5_fact (c_fact hW hM h7j hk) (by decide) (ws_9 hW) rfl (by decide) (Nat.le_of_ble_eq_true rfl) (Nat.le_of_ble_eq_true rfl) ?_
    refine q_ir dX11_member_100 rfl ?_
    rfl
  · refine am_x_tIn (tgt := 56) dX11_member_30 (by decide +kernel) (by decide +kernel) rfl rfl ?_
    refine q_aln dX11_member_56 rfl ?_
    refine q_getR dX11_member_57 fl_X11_55 (ws_0 hW) rfl (wp_0_7 hW) ?_
    refine q_iln dX11_member_60 rfl ?_
    refine q_V1 (N := m_X6_seatOf) dX11_member_61 lk_X11_171 mV_X6_seatOf (c_seatOf11 hW hS hk) (by decide) (ws_11 hW) rfl (by decide) (Nat.le_of_ble_eq_true rfl) (Nat.le_of_ble_eq_true rfl) ?_
    refine q_ir dX11_member_64 rfl ?_
    rfl
  · refine am_x_tIn (tgt := 65) dX11_member_30 (by decide +kernel) (by decide +kernel) rfl rfl ?_
    refine q_aln dX11_member_65 rfl ?_
    refine q_getR dX11_member_66 fl_X11_64 (ws_0 hW) rfl (wp_0_8 hW) ?_
    refine q_iln dX11_member_69 rfl ?_
    refine q_V1 (N := m_X8_mouthOf) dX11_member_70 lk_X11_174 mV_X8_mouthOf (c_mouthOf14 hW hM hS hk) (by decide) (ws_14 hW) rfl (by decide) (Nat.le_of_ble_eq_true rfl) (Nat.le_of_ble_eq_true rfl) ?_
    refine q_ir dX11_member_73 rfl ?_
    rfl
  · refine am_x_tIn (tgt := 74) dX11_member_30 (by decide +kernel) (by decide +kernel) rfl rfl ?_
    by_cases hh : hrd n g F S T k = true
    · have e : mbV n g F S T k 9 = nI 1 := by unfold mbV; rw [if_neg (by decide), if_neg (by decide), if_pos rfl, if_pos hh]
      rw [e]
      refine q_aln dX11_member_74 rfl ?_
      refine q_getR dX11_member_75 fl_X11_64 (ws_0 hW) rfl (wp_0_8 hW) ?_
      refine q_iln dX11_member_78 rfl ?_
      refine q_V1 (N := m_X8_isHeard) dX11_member_79 lk_X11_177 mV_X8_isHeard (c_isHeard14 hW hM hS hk) (by decide) (ws_14 hW) rfl (by decide) (Nat.le_of_ble_eq_true rfl) (Nat.le_of_ble_eq_true rfl) ?_
      refine f_if_eq dX11_member_82 (tgt := 89) rfl (by rw [if_pos hh]; exact zf1) ?_
      refine q_ic (v := nI 1) dX11_member_85 rfl ?_
      refine am_x_goto (tgt := 90) dX11_member_86 rfl ?_
      refine q_ir dX11_member_90 rfl ?_
      rfl
    · have e : mbV n g F S T k 9 = nI 0 := by unfold mbV; rw [if_neg (by decide), if_neg (by decide), if_pos rfl, if_neg hh]
      rw [e]
      refine q_aln dX11_member_74 rfl ?_
      refine q_getR dX11_member_75 fl_X11_64 (ws_0 hW) rfl (wp_0_8 hW) ?_
      refine q_iln dX11_member_78 rfl ?_
      refine q_V1 (N := m_X8_isHeard) dX11_member_79 lk_X11_177 mV_X8_isHeard (c_isHeard14 hW hM hS hk) (by decide) (ws_14 hW) rfl (by decide) (Nat.le_of_ble_eq_true rfl) (Nat.le_of_ble_eq_true rfl) ?_
      refine t_if_eq 89 dX11_member_82 rfl (by rw [if_neg hh]; rfl) ?_
      refine q_ic (v := nI 0) dX11_member_89 rfl ?_
      refine q_ir dX11_member_90 rfl ?_
      rfl
set_option maxHeartbeats 2000000 in
theorem c_Lmember {h : am_H} {n : Nat} {g : Bool} {F : Nat → Nat → Nat} (hW : Wd h) (hM : MB h n g F) {S T : Nat → Nat} (hS : SB 11 12 13 h n S T) {k j : Nat} (hk : k < n) (hj : j < 10) : am_C 5 m_L_member [.ref 0, .int (nI k), .int (nI j), .ref 79] h (some (.int (nI 0)), am_wL h 79 0 (mbV n g F S T k j).toInt64) := by
  refine q_aln dL_member_0 rfl ?_
  refine q_ic (v := nI 0) dL_member_1 rfl ?_
  refine q_aln dL_member_2 rfl ?_
  refine q_iln dL_member_3 rfl ?_
  refine q_iln dL_member_4 rfl ?_
  refine q_V2 (N := m_X11_member) dL_member_5 lk_L_7 mV_X11_member (c_memberY hW hM hS hk hj) (by decide) (ws_0 hW) rfl (by decide) (Nat.le_of_ble_eq_true rfl) (Nat.le_of_ble_eq_true rfl) ?_
  refine am_x_pu dL_member_8 rfl ?_
  refine q_lst (j := 0) dL_member_9 (ws_79 hW) (by decide) (by decide) ?_
  refine am_x_goto (tgt := 17) dL_member_10 rfl ?_
  refine q_ic (v := nI 0) dL_member_17 rfl ?_
  exact q_ir dL_member_18 rfl rfl
set_option maxHeartbeats 2000000 in
theorem r_memberY {h : am_H} {n : Nat} {g : Bool} {F : Nat → Nat → Nat} {S T : Nat → Nat} (hW : Wd h) (hR : RB h n g F S T) {k j : Nat} (hk : k < n) (hj : j < 10) : am_C 3 m_X12_member [.ref 50, .int (nI k), .int (nI j)] h (some (.int (mbV n g F S T k j)), am_wI h 50 0 (nI 0)) := by
  obtain ⟨hn, hg, h7, hF, hB, hS, hT⟩ := id hR
  have hW2 : Wd (am_wI h 50 0 (nI 0)) := Fx.Wd (Fx.wI (A := []) (B := [(50, 0)]) (Or.inr (by decide))) hW
  have hR2 : RB (am_wI h 50 0 (nI 0)) n g F S T := hR.fx (Fx.wI (A := []) (B := [(50, 0)]) (Or.inr (by decide))) (by decide)
  refine q_aln dX12_member_0 rfl ?_
  refine q_aln dX12_member_1 rfl ?_
  refine q_iln dX12_member_2 rfl ?_
  refine q_V1 (N := m_X12_isMember) dX12_member_3 lk_X12_288 mV_X12_isMember (r_isMember hW hR) (by decide) (ws_50 hW) rfl (by decide) (Nat.le_of_ble_eq_true rfl) (Nat.le_of_ble_eq_true rfl) ?_
  refine f_if_eq dX12_member_6 (tgt := 23) rfl (by rw [isr_s (rg_nI hk (by omega))]; exact zf1) ?_
  refine q_iln dX12_member_9 rfl ?_
  refine q_ic (v := nI 0) dX12_member_10 rfl ?_
  refine q_bp (v := nI 9) dX12_member_11 rfl ?_
  refine q_S3 (N := m_X12_in) dX12_member_13 lk_X12_215 mS_X12_in (r_inr (k := 9) (by decide)) (by decide) (Nat.le_of_ble_eq_true rfl) (Nat.le_of_ble_eq_true rfl) ?_
  refine f_if_eq dX12_member_16 (tgt := 23) rfl (by rw [isr_s (rg_nI (n := 10) hj (by omega))]; exact zf1) ?_
  refine q_ic (v := nI 0) dX12_member_19 rfl ?_
  refine am_x_goto (tgt := 24) dX12_member_20 rfl ?_
  refine am_x_putI dX12_member_24 (fw_X12_100 rfl) (ws_50 hW) (Or.inl rfl) ?_
  rcases (show j < 7 ∨ j = 7 ∨ j = 8 ∨ j = 9 by omega) with h7j | rfl | rfl | rfl
  · rw [mbV_7 h7j]
    refine q_aln dX12_member_27 rfl ?_
    refine q_getI dX12_member_28 fl_X12_100 (ws_50 hW2) rfl (by exact wI_e0) ?_
    refine q_ic (v := nI 1) dX12_member_31 rfl ?_
    refine t_ic_ne 37 dX12_member_32 rfl (by decide) ?_
    refine q_iln dX12_member_37 rfl ?_
    refine q_bp (v := nI 7) dX12_member_38 rfl ?_
    refine f_ic_ge dX12_member_40 (tgt := 52) rfl (by exact nI_ge (by omega) (by omega)) ?_
    refine q_aln dX12_member_43 rfl ?_
    refine q_iln dX12_member_44 rfl ?_
    refine q_iln dX12_member_45 rfl ?_
    refine q_V2 (N := m_X12_of) dX12_member_46 lk_X12_258 mV_X12_of (r_of hW2 hR2 hk h7j) (by decide) (ws_50 hW2) rfl (by decide) (Nat.le_of_ble_eq_true rfl) (Nat.le_of_ble_eq_true rfl) ?_
    refine am_x_goto (tgt := 93) dX12_member_49 rfl ?_
    refine q_ir dX12_member_93 rfl ?_
    rfl
  · refine q_aln dX12_member_27 rfl ?_
    refine q_getI dX12_member_28 fl_X12_100 (ws_50 hW2) rfl (by exact wI_e0) ?_
    refine q_ic (v := nI 1) dX12_member_31 rfl ?_
    refine t_ic_ne 37 dX12_member_32 rfl (by decide) ?_
    refine q_iln dX12_member_37 rfl ?_
    refine q_bp (v := nI 7) dX12_member_38 rfl ?_
    refine t_ic_ge 52 dX12_member_40 rfl (by decide) ?_
    refine q_iln dX12_member_52 rfl ?_
    refine q_bp (v := nI 7) dX12_member_53 rfl ?_
    refine f_ic_ne dX12_member_55 (tgt := 66) rfl (by rfl) ?_
    refine q_aln dX12_member_58 rfl ?_
    refine q_iln dX12_member_59 rfl ?_
    refine q_V1 (N := m_X12_seatOf) dX12_member_60 lk_X12_276 mV_X12_seatOf (r_seatOf hW2 hR2 hk) (by decide) (ws_50 hW2) rfl (by decide) (Nat.le_of_ble_eq_true rfl) (Nat.le_of_ble_eq_true rfl) ?_
    refine am_x_goto (tgt := 93) dX12_member_63 rfl ?_
    refine q_ir dX12_member_93 rfl ?_
    rfl
  · refine q_aln dX12_member_27 rfl ?_
    refine q_getI dX12_member_28 fl_X12_100 (ws_50 hW2) rfl (by exact wI_e0) ?_
    refine q_ic (v := nI 1) dX12_member_31 rfl ?_
    refine t_ic_ne 37 dX12_member_32 rfl (by decide) ?_
    refine q_iln dX12_member_37 rfl ?_
    refine q_bp (v := nI 7) dX12_member_38 rfl ?_
    refine t_ic_ge 52 dX12_member_40 rfl (by decide) ?_
    refine q_iln dX12_member_52 rfl ?_
    refine q_bp (v := nI 7) dX12_member_53 rfl ?_
    refine t_ic_ne 66 dX12_member_55 rfl (by decide) ?_
    refine q_iln dX12_member_66 rfl ?_
    refine q_bp (v := nI 8) dX12_member_67 rfl ?_
    refine f_ic_ne dX12_member_69 (tgt := 80) rfl (by rfl) ?_
    refine q_aln dX12_member_72 rfl ?_
    refine q_iln dX12_member_73 rfl ?_
    refine q_V1 (N := m_X12_mouthOf) dX12_member_74 lk_X12_282 mV_X12_mouthOf (r_mouthOf hW2 hR2 hk) (by decide) (ws_50 hW2) rfl (by decide) (Nat.le_of_ble_eq_true rfl) (Nat.le_of_ble_eq_true rfl) ?_
    refine am_x_goto (tgt := 93) dX12_member_77 rfl ?_
    refine q_ir dX12_member_93 rfl ?_
    rfl
  · by_cases hh : hrd n g F S T k = true
    · have e : mbV n g F S T k 9 = nI 1 := by unfold mbV; rw [if_neg (by decide), if_neg (by decide), if_pos rfl, if_pos hh]
      rw [e]
      refine q_aln dX12_member_27 rfl ?_
      refine q_getI dX12_member_28 fl_X12_100 (ws_50 hW2) rfl (by exact wI_e0) ?_
      refine q_ic (v := nI 1) dX12_member_31 rfl ?_
      refine t_ic_ne 37 dX12_member_32 rfl (by decide) ?_
      refine q_iln dX12_member_37 rfl ?_
      refine q_bp (v := nI 7) dX12_member_38 rfl ?_
      refine t_ic_ge 52 dX12_member_40 rfl (by decide) ?_
      refine q_iln dX12_member_52 rfl ?_
      refine q_bp (v := nI 7) dX12_member_53 rfl ?_
      refine t_ic_ne 66 dX12_member_55 rfl (by decide) ?_
      refine q_iln dX12_member_66 rfl ?_
      refine q_bp (v := nI 8) dX12_member_67 rfl ?_
      refine t_ic_ne 80 dX12_member_69 rfl (by decide) ?_
      refine q_aln dX12_member_80 rfl ?_
      refine q_iln dX12_member_81 rfl ?_
      refine q_V1 (N := m_X12_isHeard) dX12_member_82 lk_X12_291 mV_X12_isHeard (r_isHeard hW2 hR2 hk) (by decide) (ws_50 hW2) rfl (by decide) (Nat.le_of_ble_eq_true rfl) (Nat.le_of_ble_eq_true rfl) ?_
      refine f_if_eq dX12_member_85 (tgt := 92) rfl (by rw [if_pos hh]; exact zf1) ?_
      refine q_ic (v := nI 1) dX12_member_88 rfl ?_
      refine am_x_goto (tgt := 93) dX12_member_89 rfl ?_
      refine q_ir dX12_member_93 rfl ?_
      rfl
    · have e : mbV n g F S T k 9 = nI 0 := by unfold mbV; rw [if_neg (by decide), if_neg (by decide), if_pos rfl, if_neg hh]
      rw [e]
      refine q_aln dX12_member_27 rfl ?_
      refine q_getI dX12_member_28 fl_X12_100 (ws_50 hW2) rfl (by exact wI_e0) ?_
      refine q_ic (v := nI 1) dX12_member_31 rfl ?_
      refine t_ic_ne 37 dX12_member_32 rfl (by decide) ?_
      refine q_iln dX12_member_37 rfl ?_
      refine q_bp (v := nI 7) dX12_member_38 rfl ?_
      refine t_ic_ge 52 dX12_member_40 rfl (by decide) ?_
      refine q_iln dX12_member_52 rfl ?_
      refine q_bp (v := nI 7) dX12_member_53 rfl ?_
      refine t_ic_ne 66 dX12_member_55 rfl (by decide) ?_
      refine q_iln dX12_member_66 rfl ?_
      refine q_bp (v := nI 8) dX12_member_67 rfl ?_
      refine t_ic_ne 80 dX12_member_69 rfl (by decide) ?_
      refine q_aln dX12_member_80 rfl ?_
      refine q_iln dX12_member_81 rfl ?_
      refine q_V1 (N := m_X12_isHeard) dX12_member_82 lk_X12_291 mV_X12_isHeard (r_isHeard hW2 hR2 hk) (by decide) (ws_50 hW2) rfl (by decide) (Nat.le_of_ble_eq_true rfl) (Nat.le_of_ble_eq_true rfl) ?_
      refine t_if_eq 92 dX12_member_85 rfl (by rw [if_neg hh]; rfl) ?_
      refine q_ic (v := nI 0) dX12_member_92 rfl ?_
      refine q_ir dX12_member_93 rfl ?_
      rfl
set_option maxHeartbeats 2000000 in
theorem r_memberN {h : am_H} {n : Nat} {g : Bool} {F : Nat → Nat → Nat} {S T : Nat → Nat} (hW : Wd h) (hR : RB h n g F S T) {x1 x2 : Int32} (hb : rg x1 n = none ∨ rg x2 10 = none) : am_C 3 m_X12_member [.ref 50, .int x1, .int x2] h (some (.int (nI 0)), am_wI h 50 0 (nI 1)) := by
  obtain ⟨hn, hg, h7, hF, hB, hS, hT⟩ := id hR
  have hW2 : Wd (am_wI h 50 0 (nI 1)) := Fx.Wd (Fx.wI (A := []) (B := [(50, 0)]) (Or.inr (by decide))) hW
  have hR2 : RB (am_wI h 50 0 (nI 1)) n g F S T := hR.fx (Fx.wI (A := []) (B := [(50, 0)]) (Or.inr (by decide))) (by decide)
  cases hr : rg x1 n with
  | none =>
    refine q_aln dX12_member_0 rfl ?_
    refine q_aln dX12_member_1 rfl ?_
    refine q_iln dX12_member_2 rfl ?_
    refine q_V1 (N := m_X12_isMember) dX12_member_3 lk_X12_288 mV_X12_isMember (r_isMember hW hR) (by decide) (ws_50 hW) rfl (by decide) (Nat.le_of_ble_eq_true rfl) (Nat.le_of_ble_eq_true rfl) ?_
    refine t_if_eq 23 dX12_member_6 rfl (by rw [isr_n hr]; rfl) ?_
    refine q_ic (v := nI 1) dX12_member_23 rfl ?_
    refine am_x_putI dX12_member_24 (fw_X12_100 rfl) (ws_50 hW) (Or.inl rfl) ?_
    refine q_aln dX12_member_27 rfl ?_
    refine q_getI dX12_member_28 fl_X12_100 (ws_50 hW2) rfl (by exact wI_e0) ?_
    refine q_ic (v := nI 1) dX12_member_31 rfl ?_
    refine f_ic_ne dX12_member_32 (tgt := 37) rfl (by rfl) ?_
    refine q_ic (v := nI 0) dX12_member_35 rfl ?_
    refine q_ir dX12_member_36 rfl ?_
    rfl
  | some w =>
    have hr2 : rg x2 10 = none := hb.elim (fun z => by rw [z] at hr; cases hr) id
    refine q_aln dX12_member_0 rfl ?_
    refine q_aln dX12_member_1 rfl ?_
    refine q_iln dX12_member_2 rfl ?_
    refine q_V1 (N := m_X12_isMember) dX12_member_3 lk_X12_288 mV_X12_isMember (r_isMember hW hR) (by decide) (ws_50 hW) rfl (by decide) (Nat.le_of_ble_eq_true rfl) (Nat.le_of_ble_eq_true rfl) ?_
    refine f_if_eq dX12_member_6 (tgt := 23) rfl (by rw [isr_s hr]; exact zf1) ?_
    refine q_iln dX12_member_9 rfl ?_
    refine q_ic (v := nI 0) dX12_member_10 rfl ?_
    refine q_bp (v := nI 9) dX12_member_11 rfl ?_
    refine q_S3 (N := m_X12_in) dX12_member_13 lk_X12_215 mS_X12_in (r_inr (k := 9) (by decide)) (by decide) (Nat.le_of_ble_eq_true rfl) (Nat.le_of_ble_eq_true rfl) ?_
    refine t_if_eq 23 dX12_member_16 rfl (by rw [isr_n hr2]; rfl) ?_
    refine q_ic (v := nI 1) dX12_member_23 rfl ?_
    refine am_x_putI dX12_member_24 (fw_X12_100 rfl) (ws_50 hW) (Or.inl rfl) ?_
    refine q_aln dX12_member_27 rfl ?_
    refine q_getI dX12_member_28 fl_X12_100 (ws_50 hW2) rfl (by exact wI_e0) ?_
    refine q_ic (v := nI 1) dX12_member_31 rfl ?_
    refine f_ic_ne dX12_member_32 (tgt := 37) rfl (by rfl) ?_
    refine q_ic (v := nI 0) dX12_member_35 rfl ?_
    refine q_ir dX12_member_36 rfl ?_
    rfl
set_option maxHeartbeats 2000000 in
theorem r_thrown {h : am_H} (hW : Wd h) {v : Int32} (hv : am_i h 50 0 = v) : am_C 0 m_X12_thrown [.ref 50] h (some (.int v), h) := by
  refine q_aln dX12_thrown_0 rfl ?_
  refine q_getI dX12_thrown_1 fl_X12_100 (ws_50 hW) rfl hv ?_
  exact q_ir dX12_thrown_4 rfl rfl
