/-! the reference's worth -/
theorem i64_eq {x y : Int32} : x.toInt64 = y.toInt64 ↔ x = y := by
  constructor
  · intro h
    have := congrArg Int64.toInt h
    rw [Int32.toInt_toInt64, Int32.toInt_toInt64] at this
    exact Int32.toInt_inj.mp this
  · intro h; rw [h]
theorem i64_lt {x y : Int32} : x.toInt64 < y.toInt64 ↔ x < y := by rw [Int64.lt_iff_toInt_lt, Int32.lt_iff_toInt_lt, Int32.toInt_toInt64, Int32.toInt_toInt64]
theorem bnd_r (v : Int64) : (if (if v < (1000000 : Int64) then v else 1000000) < (-1000000 : Int64) then (-1000000 : Int64) else (if v < (1000000 : Int64) then v else 1000000)).toInt32 = bnd v := by
  unfold bnd
  by_cases h1 : v < 1000000
  · have h2 : ¬ (1000000 : Int64) < v := Int64.not_lt.mpr (Int64.le_of_lt h1)
    rw [if_pos h1, if_neg h2]
    by_cases h3 : v < -1000000
    · rw [if_pos h3, if_pos h3]; rfl
    · rw [if_neg h3, if_neg h3]
  · rw [if_neg h1, if_neg (by decide +kernel)]
    by_cases h2 : (1000000 : Int64) < v
    · rw [if_pos h2]; rfl
    · have h3 : v = 1000000 := Int64.le_antisymm (Int64.not_lt.mp h2) (Int64.not_lt.mp h1)
      rw [if_neg h2, h3]
      rfl
set_option maxHeartbeats 2000000 in
theorem r_bounded {h : am_H} {v : Int64} : am_C 1 m_X12_bounded [.long v] h (some (.int (bnd v)), h) := by
  rw [← bnd_r]
  refine am_x_ldc2 dX12_bounded_0 kc_X12_190 ?_
  refine am_x_ldc2 dX12_bounded_3 kc_X12_192 ?_
  refine q_lln dX12_bounded_6 rfl ?_
  refine q_minL dX12_bounded_7 lk_X12_194 js_J9_min_f86c9 in_J9 jc_J9_min_f86c9 (by decide) (Nat.le_of_ble_eq_true rfl) ?_
  refine q_maxL dX12_bounded_10 lk_X12_200 js_J9_max_f86c9 in_J9 jc_J9_max_f86c9 (by decide) (Nat.le_of_ble_eq_true rfl) ?_
  refine am_x_pu dX12_bounded_13 rfl ?_
  refine q_ir dX12_bounded_14 rfl ?_
  rfl
set_option maxHeartbeats 2000000 in
theorem r_worked_2 {h : am_H} {x y : Int32} : am_C 2 m_X12_worked [.int (nI 2), .long x.toInt64, .long y.toInt64] h (some (.int (opv 2 x y)), h) := by
  rw [opv_2]
  refine q_iln dX12_worked_0 rfl ?_
  refine am_x_tIn (tgt := 52) dX12_worked_1 (by decide +kernel) (by decide +kernel) rfl rfl ?_
  refine q_lln dX12_worked_52 rfl ?_
  refine q_lln dX12_worked_53 rfl ?_
  refine am_x_pu dX12_worked_54 rfl ?_
  refine q_S1 (N := m_X12_bounded) dX12_worked_55 lk_X12_203 mS_X12_bounded (r_bounded) (by decide) (Nat.le_of_ble_eq_true rfl) (Nat.le_of_ble_eq_true rfl) ?_
  refine q_ir dX12_worked_58 rfl ?_
  rfl
set_option maxHeartbeats 2000000 in
theorem r_worked_3 {h : am_H} {x y : Int32} : am_C 2 m_X12_worked [.int (nI 3), .long x.toInt64, .long y.toInt64] h (some (.int (opv 3 x y)), h) := by
  rw [opv_3]
  refine q_iln dX12_worked_0 rfl ?_
  refine am_x_tIn (tgt := 59) dX12_worked_1 (by decide +kernel) (by decide +kernel) rfl rfl ?_
  refine q_lln dX12_worked_59 rfl ?_
  refine q_lln dX12_worked_60 rfl ?_
  refine am_x_pu dX12_worked_61 rfl ?_
  refine q_S1 (N := m_X12_bounded) dX12_worked_62 lk_X12_203 mS_X12_bounded (r_bounded) (by decide) (Nat.le_of_ble_eq_true rfl) (Nat.le_of_ble_eq_true rfl) ?_
  refine q_ir dX12_worked_65 rfl ?_
  rfl
set_option maxHeartbeats 2000000 in
theorem r_worked_4 {h : am_H} {x y : Int32} : am_C 2 m_X12_worked [.int (nI 4), .long x.toInt64, .long y.toInt64] h (some (.int (opv 4 x y)), h) := by
  rw [opv_4]
  refine q_iln dX12_worked_0 rfl ?_
  refine am_x_tIn (tgt := 66) dX12_worked_1 (by decide +kernel) (by decide +kernel) rfl rfl ?_
  refine q_lln dX12_worked_66 rfl ?_
  refine q_lln dX12_worked_67 rfl ?_
  refine am_x_pu dX12_worked_68 rfl ?_
  refine q_S1 (N := m_X12_bounded) dX12_worked_69 lk_X12_203 mS_X12_bounded (r_bounded) (by decide) (Nat.le_of_ble_eq_true rfl) (Nat.le_of_ble_eq_true rfl) ?_
  refine q_ir dX12_worked_72 rfl ?_
  rfl
set_option maxHeartbeats 2000000 in
theorem r_worked_5 {h : am_H} {x y : Int32} : am_C 2 m_X12_worked [.int (nI 5), .long x.toInt64, .long y.toInt64] h (some (.int (opv 5 x y)), h) := by
  rw [opv_5]
  by_cases hy : y = 0
  · rw [if_pos hy]
    refine q_iln dX12_worked_0 rfl ?_
    refine am_x_tIn (tgt := 73) dX12_worked_1 (by decide +kernel) (by decide +kernel) rfl rfl ?_
    refine q_lln dX12_worked_73 rfl ?_
    refine q_lc (v := 0) dX12_worked_74 rfl ?_
    refine am_x_pu dX12_worked_75 rfl ?_
    refine f_if_ne dX12_worked_76 (tgt := 83) rfl (by rw [lg_cmp_eq]; exact i64_0.mpr hy) ?_
    refine q_ic (v := nI 0) dX12_worked_79 rfl ?_
    refine am_x_goto (tgt := 89) dX12_worked_80 rfl ?_
    refine q_ir dX12_worked_89 rfl ?_
    rfl
  · rw [if_neg hy]
    refine q_iln dX12_worked_0 rfl ?_
    refine am_x_tIn (tgt := 73) dX12_worked_1 (by decide +kernel) (by decide +kernel) rfl rfl ?_
    refine q_lln dX12_worked_73 rfl ?_
    refine q_lc (v := 0) dX12_worked_74 rfl ?_
    refine am_x_pu dX12_worked_75 rfl ?_
    refine t_if_ne 83 dX12_worked_76 rfl (by rw [lg_cmp_eq]; exact fun z => hy (i64_0.mp z)) ?_
    refine q_lln dX12_worked_83 rfl ?_
    refine q_lln dX12_worked_84 rfl ?_
    refine am_x_ldiv dX12_worked_85 (fun z => hy (i64_0.mp z)) ?_
    refine q_S1 (N := m_X12_bounded) dX12_worked_86 lk_X12_203 mS_X12_bounded (r_bounded) (by decide) (Nat.le_of_ble_eq_true rfl) (Nat.le_of_ble_eq_true rfl) ?_
    refine q_ir dX12_worked_89 rfl ?_
    rfl
set_option maxHeartbeats 2000000 in
theorem r_worked_6 {h : am_H} {x y : Int32} : am_C 2 m_X12_worked [.int (nI 6), .long x.toInt64, .long y.toInt64] h (some (.int (opv 6 x y)), h) := by
  rw [opv_6]
  by_cases hc : x = y
  · rw [if_pos hc]
    refine q_iln dX12_worked_0 rfl ?_
    refine am_x_tIn (tgt := 90) dX12_worked_1 (by decide +kernel) (by decide +kernel) rfl rfl ?_
    refine q_lln dX12_worked_90 rfl ?_
    refine q_lln dX12_worked_91 rfl ?_
    refine am_x_pu dX12_worked_92 rfl ?_
    refine f_if_ne dX12_worked_93 (tgt := 100) rfl (by rw [lg_cmp_eq]; exact i64_eq.mpr hc) ?_
    refine q_ic (v := nI 1) dX12_worked_96 rfl ?_
    refine am_x_goto (tgt := 101) dX12_worked_97 rfl ?_
    refine q_ir dX12_worked_101 rfl ?_
    rfl
  · rw [if_neg hc]
    refine q_iln dX12_worked_0 rfl ?_
    refine am_x_tIn (tgt := 90) dX12_worked_1 (by decide +kernel) (by decide +kernel) rfl rfl ?_
    refine q_lln dX12_worked_90 rfl ?_
    refine q_lln dX12_worked_91 rfl ?_
    refine am_x_pu dX12_worked_92 rfl ?_
    refine t_if_ne 100 dX12_worked_93 rfl (by rw [lg_cmp_eq]; exact fun z => hc (i64_eq.mp z)) ?_
    refine q_ic (v := nI 0) dX12_worked_100 rfl ?_
    refine q_ir dX12_worked_101 rfl ?_
    rfl
set_option maxHeartbeats 2000000 in
theorem r_worked_7 {h : am_H} {x y : Int32} : am_C 2 m_X12_worked [.int (nI 7), .long x.toInt64, .long y.toInt64] h (some (.int (opv 7 x y)), h) := by
  rw [opv_7]
  by_cases hc : x < y
  · rw [if_pos hc]
    refine q_iln dX12_worked_0 rfl ?_
    refine am_x_tIn (tgt := 102) dX12_worked_1 (by decide +kernel) (by decide +kernel) rfl rfl ?_
    refine q_lln dX12_worked_102 rfl ?_
    refine q_lln dX12_worked_103 rfl ?_
    refine am_x_pu dX12_worked_104 rfl ?_
    refine f_if_ge dX12_worked_105 (tgt := 112) rfl (by rw [lg_cmp_ge]; exact Int64.not_le.mpr (i64_lt.mpr hc)) ?_
    refine q_ic (v := nI 1) dX12_worked_108 rfl ?_
    refine am_x_goto (tgt := 113) dX12_worked_109 rfl ?_
    refine q_ir dX12_worked_113 rfl ?_
    rfl
  · rw [if_neg hc]
    refine q_iln dX12_worked_0 rfl ?_
    refine am_x_tIn (tgt := 102) dX12_worked_1 (by decide +kernel) (by decide +kernel) rfl rfl ?_
    refine q_lln dX12_worked_102 rfl ?_
    refine q_lln dX12_worked_103 rfl ?_
    refine am_x_pu dX12_worked_104 rfl ?_
    refine t_if_ge 112 dX12_worked_105 rfl (by rw [lg_cmp_ge]; exact Int64.not_lt.mp (fun z => hc (i64_lt.mp z))) ?_
    refine q_ic (v := nI 0) dX12_worked_112 rfl ?_
    refine q_ir dX12_worked_113 rfl ?_
    rfl
set_option maxHeartbeats 2000000 in
theorem r_worked_8 {h : am_H} {x y : Int32} : am_C 2 m_X12_worked [.int (nI 8), .long x.toInt64, .long y.toInt64] h (some (.int (opv 8 x y)), h) := by
  rw [opv_8]
  by_cases hc : y < x
  · rw [if_pos hc]
    refine q_iln dX12_worked_0 rfl ?_
    refine am_x_tIn (tgt := 114) dX12_worked_1 (by decide +kernel) (by decide +kernel) rfl rfl ?_
    refine q_lln dX12_worked_114 rfl ?_
    refine q_lln dX12_worked_115 rfl ?_
    refine am_x_pu dX12_worked_116 rfl ?_
    refine f_if_le dX12_worked_117 (tgt := 124) rfl (by rw [lg_cmp_le]; exact Int64.not_le.mpr (i64_lt.mpr hc)) ?_
    refine q_ic (v := nI 1) dX12_worked_120 rfl ?_
    refine am_x_goto (tgt := 125) dX12_worked_121 rfl ?_
    refine q_ir dX12_worked_125 rfl ?_
    rfl
  · rw [if_neg hc]
    refine q_iln dX12_worked_0 rfl ?_
    refine am_x_tIn (tgt := 114) dX12_worked_1 (by decide +kernel) (by decide +kernel) rfl rfl ?_
    refine q_lln dX12_worked_114 rfl ?_
    refine q_lln dX12_worked_115 rfl ?_
    refine am_x_pu dX12_worked_116 rfl ?_
    refine t_if_le 124 dX12_worked_117 rfl (by rw [lg_cmp_le]; exact Int64.not_lt.mp (fun z => hc (i64_lt.mp z))) ?_
    refine q_ic (v := nI 0) dX12_worked_124 rfl ?_
    refine q_ir dX12_worked_125 rfl ?_
    rfl
set_option maxHeartbeats 2000000 in
theorem r_worked_10 {h : am_H} {x y : Int32} (hx : x = 0 ∨ x = 1) (hy : y = 0 ∨ y = 1) : am_C 2 m_X12_worked [.int (nI 10), .long x.toInt64, .long y.toInt64] h (some (.int (opv 10 x y)), h) := by
  rcases hx with rfl | rfl <;> rcases hy with rfl | rfl
  · refine q_iln dX12_worked_0 rfl ?_
    refine am_x_tIn (tgt := 126) dX12_worked_1 (by decide +kernel) (by decide +kernel) rfl rfl ?_
    refine q_lln dX12_worked_126 rfl ?_
    refine q_lc (v := lN 0) dX12_worked_127 rfl ?_
    refine am_x_pu dX12_worked_128 rfl ?_
    refine t_if_eq 142 dX12_worked_129 rfl (by decide +kernel) ?_
    refine q_ic (v := nI 0) dX12_worked_142 rfl ?_
    refine q_ir dX12_worked_143 rfl ?_
    rfl
  · refine q_iln dX12_worked_0 rfl ?_
    refine am_x_tIn (tgt := 126) dX12_worked_1 (by decide +kernel) (by decide +kernel) rfl rfl ?_
    refine q_lln dX12_worked_126 rfl ?_
    refine q_lc (v := lN 0) dX12_worked_127 rfl ?_
    refine am_x_pu dX12_worked_128 rfl ?_
    refine t_if_eq 142 dX12_worked_129 rfl (by decide +kernel) ?_
    refine q_ic (v := nI 0) dX12_worked_142 rfl ?_
    refine q_ir dX12_worked_143 rfl ?_
    rfl
  · refine q_iln dX12_worked_0 rfl ?_
    refine am_x_tIn (tgt := 126) dX12_worked_1 (by decide +kernel) (by decide +kernel) rfl rfl ?_
    refine q_lln dX12_worked_126 rfl ?_
    refine q_lc (v := lN 0) dX12_worked_127 rfl ?_
    refine am_x_pu dX12_worked_128 rfl ?_
    refine f_if_eq dX12_worked_129 (tgt := 142) rfl (by decide +kernel) ?_
    refine q_lln dX12_worked_132 rfl ?_
    refine q_lc (v := lN 0) dX12_worked_133 rfl ?_
    refine am_x_pu dX12_worked_134 rfl ?_
    refine t_if_eq 142 dX12_worked_135 rfl (by decide +kernel) ?_
    refine q_ic (v := nI 0) dX12_worked_142 rfl ?_
    refine q_ir dX12_worked_143 rfl ?_
    rfl
  · refine q_iln dX12_worked_0 rfl ?_
    refine am_x_tIn (tgt := 126) dX12_worked_1 (by decide +kernel) (by decide +kernel) rfl rfl ?_
    refine q_lln dX12_worked_126 rfl ?_
    refine q_lc (v := lN 0) dX12_worked_127 rfl ?_
    refine am_x_pu dX12_worked_128 rfl ?_
    refine f_if_eq dX12_worked_129 (tgt := 142) rfl (by decide +kernel) ?_
    refine q_lln dX12_worked_132 rfl ?_
    refine q_lc (v := lN 0) dX12_worked_133 rfl ?_
    refine am_x_pu dX12_worked_134 rfl ?_
    refine f_if_eq dX12_worked_135 (tgt := 142) rfl (by decide +kernel) ?_
    refine q_ic (v := nI 1) dX12_worked_138 rfl ?_
    refine am_x_goto (tgt := 143) dX12_worked_139 rfl ?_
    refine q_ir dX12_worked_143 rfl ?_
    rfl
set_option maxHeartbeats 2000000 in
theorem r_worked_11 {h : am_H} {x y : Int32} (hx : x = 0 ∨ x = 1) (hy : y = 0 ∨ y = 1) : am_C 2 m_X12_worked [.int (nI 11), .long x.toInt64, .long y.toInt64] h (some (.int (opv 11 x y)), h) := by
  rcases hx with rfl | rfl <;> rcases hy with rfl | rfl
  · refine q_iln dX12_worked_0 rfl ?_
    refine am_x_tOut (tgt := 144) dX12_worked_1 (by decide +kernel) rfl ?_
    refine q_lln dX12_worked_144 rfl ?_
    refine q_lc (v := lN 0) dX12_worked_145 rfl ?_
    refine am_x_pu dX12_worked_146 rfl ?_
    refine f_if_ne dX12_worked_147 (tgt := 156) rfl (by decide +kernel) ?_
    refine q_lln dX12_worked_150 rfl ?_
    refine q_lc (v := lN 0) dX12_worked_151 rfl ?_
    refine am_x_pu dX12_worked_152 rfl ?_
    refine t_if_eq 160 dX12_worked_153 rfl (by decide +kernel) ?_
    refine q_ic (v := nI 0) dX12_worked_160 rfl ?_
    refine q_ir dX12_worked_161 rfl ?_
    rfl
  · refine q_iln dX12_worked_0 rfl ?_
    refine am_x_tOut (tgt := 144) dX12_worked_1 (by decide +kernel) rfl ?_
    refine q_lln dX12_worked_144 rfl ?_
    refine q_lc (v := lN 0) dX12_worked_145 rfl ?_
    refine am_x_pu dX12_worked_146 rfl ?_
    refine f_if_ne dX12_worked_147 (tgt := 156) rfl (by decide +kernel) ?_
    refine q_lln dX12_worked_150 rfl ?_
    refine q_lc (v := lN 0) dX12_worked_151 rfl ?_
    refine am_x_pu dX12_worked_152 rfl ?_
    refine f_if_eq dX12_worked_153 (tgt := 160) rfl (by decide +kernel) ?_
    refine q_ic (v := nI 1) dX12_worked_156 rfl ?_
    refine am_x_goto (tgt := 161) dX12_worked_157 rfl ?_
    refine q_ir dX12_worked_161 rfl ?_
    rfl
  · refine q_iln dX12_worked_0 rfl ?_
    refine am_x_tOut (tgt := 144) dX12_worked_1 (by decide +kernel) rfl ?_
    refine q_lln dX12_worked_144 rfl ?_
    refine q_lc (v := lN 0) dX12_worked_145 rfl ?_
    refine am_x_pu dX12_worked_146 rfl ?_
    refine t_if_ne 156 dX12_worked_147 rfl (by decide +kernel) ?_
    refine q_ic (v := nI 1) dX12_worked_156 rfl ?_
    refine am_x_goto (tgt := 161) dX12_worked_157 rfl ?_
    refine q_ir dX12_worked_161 rfl ?_
    rfl
  · refine q_iln dX12_worked_0 rfl ?_
    refine am_x_tOut (tgt := 144) dX12_worked_1 (by decide +kernel) rfl ?_
    refine q_lln dX12_worked_144 rfl ?_
    refine q_lc (v := lN 0) dX12_worked_145 rfl ?_
    refine am_x_pu dX12_worked_146 rfl ?_
    refine t_if_ne 156 dX12_worked_147 rfl (by decide +kernel) ?_
    refine q_ic (v := nI 1) dX12_worked_156 rfl ?_
    refine am_x_goto (tgt := 161) dX12_worked_157 rfl ?_
    refine q_ir dX12_worked_161 rfl ?_
    rfl
theorem SM.up {h : am_H} {st : List Int32} {k : Nat} {v : Int32} (m : SM (am_i h 60) st) (hk : st.length ≤ k) : SM (am_i (am_wI h 60 k v) 60) st := SM_cong m (fun i hi => by rw [wI_eq, if_neg (by omega)])
set_option maxHeartbeats 2000000 in
theorem r_tok0 {h : am_H} (hW : Wd h) {n f e i : Nat} (hn : n ≤ 4) (he : e ≤ 160) (hi : i < e) {st : List Int32} (hS : SM (am_i h 60) st) (hl : st.length < 80) {v : Nat} (hc : am_i h 52 (340 * n + i) = nI 0) (hv : am_i h 53 (340 * n + i) = nI v) {P : Option Value → am_H → Prop} (kk : ∀ h2, Fx [60] [] h h2 → SM (am_i h2 60) (nI v :: st) → am_E 3 m_X12_workOut 12 [some (.ref 50), some (.int (nI n)), some (.int (nI f)), some (.int (nI e)), some (.int (nI (st.length + 1))), some (.int (nI (340 * n + i + 1)))] [] h2 P) : am_E 3 m_X12_workOut 12 [some (.ref 50), some (.int (nI n)), some (.int (nI f)), some (.int (nI e)), some (.int (nI st.length)), some (.int (nI (340 * n + i)))] [] h P := by
  refine Eq_il dX12_workOut_12 rfl ?_
  refine Eq_sp (v := nI 340) dX12_workOut_14 rfl ?_
  refine Eq_iln dX12_workOut_17 rfl ?_
  first | refine Eq_mul dX12_workOut_18 ?_ | refine Eam_x_pu dX12_workOut_18 rfl ?_
  refine Eq_iln dX12_workOut_19 rfl ?_
  first | refine Eq_add dX12_workOut_20 ?_ | refine Eam_x_pu dX12_workOut_20 rfl ?_
  refine Ef_ic_ge dX12_workOut_21 (tgt := 171) rfl (by exact nI_ge (by omega) (by omega)) ?_
  refine Eq_aln dX12_workOut_24 rfl ?_
  refine Eq_getR dX12_workOut_25 fl_X12_13 (ws_50 hW) rfl (wp_50_6 hW) ?_
  refine Eq_il dX12_workOut_28 rfl ?_
  refine Eq_ald dX12_workOut_30 (ws_52 hW) (by omega) (by omega) (by first | exact hc | exact hv) ?_
  refine Et_if_eq 45 dX12_workOut_31 rfl (by rfl) ?_
  refine Eq_aln dX12_workOut_45 rfl ?_
  refine Eq_getR dX12_workOut_46 fl_X12_37 (ws_50 hW) rfl (wp_50_16 hW) ?_
  refine Eq_il dX12_workOut_49 rfl ?_
  refine Eq_aln dX12_workOut_51 rfl ?_
  refine Eq_getR dX12_workOut_52 fl_X12_13 (ws_50 hW) rfl (wp_50_6 hW) ?_
  refine Eq_il dX12_workOut_55 rfl ?_
  refine Eq_ald dX12_workOut_57 (ws_52 hW) (by omega) (by omega) (by first | exact hc | exact hv) ?_
  refine Ef_if_ne dX12_workOut_58 (tgt := 71) rfl (by rfl) ?_
  refine Eq_aln dX12_workOut_61 rfl ?_
  refine Eq_getR dX12_workOut_62 fl_X12_16 (ws_50 hW) rfl (wp_50_7 hW) ?_
  refine Eq_il dX12_workOut_65 rfl ?_
  refine Eq_ald dX12_workOut_67 (ws_53 hW) (by omega) (by omega) (by first | exact hc | exact hv) ?_
  refine Eam_x_goto (tgt := 83) dX12_workOut_68 rfl ?_
  refine Eq_ast dX12_workOut_83 (ws_60 hW) (by omega) (by omega) ?_
  refine Eq_inc dX12_workOut_84 rfl (by decide) ?_
  refine Eam_nl (pc' := 87) (l' := [_, _, _, _, _, _]) rfl rfl ?_
  refine Eam_x_goto (tgt := 165) dX12_workOut_87 rfl ?_
  refine Eq_inc dX12_workOut_165 rfl (by decide) ?_
  refine Eam_nl (pc' := 168) (l' := [_, _, _, _, _, _]) rfl rfl ?_
  refine Eam_x_goto (tgt := 12) dX12_workOut_168 rfl ?_
  exact kk _ (Fx.wI (Or.inl (by decide))) ⟨wI_e0, hS.up (Nat.le_refl _)⟩
set_option maxHeartbeats 2000000 in
theorem r_tok1 {h : am_H} (hW : Wd h) {n f e i : Nat} (hn : n ≤ 4) (he : e ≤ 160) (hi : i < e) {st : List Int32} (hS : SM (am_i h 60) st) (hl : st.length < 80) {v : Nat} (hv6 : v < 6) (hc : am_i h 52 (340 * n + i) = nI 1) (hv : am_i h 53 (340 * n + i) = nI v) {P : Option Value → am_H → Prop} (kk : ∀ h2, Fx [60] [] h h2 → SM (am_i h2 60) (am_i h 59 v :: st) → am_E 3 m_X12_workOut 12 [some (.ref 50), some (.int (nI n)), some (.int (nI f)), some (.int (nI e)), some (.int (nI (st.length + 1))), some (.int (nI (340 * n + i + 1)))] [] h2 P) : am_E 3 m_X12_workOut 12 [some (.ref 50), some (.int (nI n)), some (.int (nI f)), some (.int (nI e)), some (.int (nI st.length)), some (.int (nI (340 * n + i)))] [] h P := by
  refine Eq_il dX12_workOut_12 rfl ?_
  refine Eq_sp (v := nI 340) dX12_workOut_14 rfl ?_
  refine Eq_iln dX12_workOut_17 rfl ?_
  first | refine Eq_mul dX12_workOut_18 ?_ | refine Eam_x_pu dX12_workOut_18 rfl ?_
  refine Eq_iln dX12_workOut_19 rfl ?_
  first | refine Eq_add dX12_workOut_20 ?_ | refine Eam_x_pu dX12_workOut_20 rfl ?_
  refine Ef_ic_ge dX12_workOut_21 (tgt := 171) rfl (by exact nI_ge (by omega) (by omega)) ?_
  refine Eq_aln dX12_workOut_24 rfl ?_
  refine Eq_getR dX12_workOut_25 fl_X12_13 (ws_50 hW) rfl (wp_50_6 hW) ?_
  refine Eq_il dX12_workOut_28 rfl ?_
  refine Eq_ald dX12_workOut_30 (ws_52 hW) (by omega) (by omega) (by first | exact hc | exact hv | rfl) ?_
  refine Ef_if_eq dX12_workOut_31 (tgt := 45) rfl (by exact zf1) ?_
  refine Eq_aln dX12_workOut_34 rfl ?_
  refine Eq_getR dX12_workOut_35 fl_X12_13 (ws_50 hW) rfl (wp_50_6 hW) ?_
  refine Eq_il dX12_workOut_38 rfl ?_
  refine Eq_ald dX12_workOut_40 (ws_52 hW) (by omega) (by omega) (by first | exact hc | exact hv | rfl) ?_
  refine Eq_ic (v := nI 1) dX12_workOut_41 rfl ?_
  refine Ef_ic_ne dX12_workOut_42 (tgt := 90) rfl (by rfl) ?_
  refine Eq_aln dX12_workOut_45 rfl ?_
  refine Eq_getR dX12_workOut_46 fl_X12_37 (ws_50 hW) rfl (wp_50_16 hW) ?_
  refine Eq_il dX12_workOut_49 rfl ?_
  refine Eq_aln dX12_workOut_51 rfl ?_
  refine Eq_getR dX12_workOut_52 fl_X12_13 (ws_50 hW) rfl (wp_50_6 hW) ?_
  refine Eq_il dX12_workOut_55 rfl ?_
  refine Eq_ald dX12_workOut_57 (ws_52 hW) (by omega) (by omega) (by first | exact hc | exact hv | rfl) ?_
  refine Et_if_ne 71 dX12_workOut_58 rfl (by exact zf1) ?_
  refine Eq_aln dX12_workOut_71 rfl ?_
  refine Eq_getR dX12_workOut_72 fl_X12_34 (ws_50 hW) rfl (wp_50_15 hW) ?_
  refine Eq_aln dX12_workOut_75 rfl ?_
  refine Eq_getR dX12_workOut_76 fl_X12_16 (ws_50 hW) rfl (wp_50_7 hW) ?_
  refine Eq_il dX12_workOut_79 rfl ?_
  refine Eq_ald dX12_workOut_81 (ws_53 hW) (by omega) (by omega) (by first | exact hc | exact hv | rfl) ?_
  refine Eq_ald dX12_workOut_82 (ws_59 hW) (by omega) (by omega) (by first | exact hc | exact hv | rfl) ?_
  refine Eq_ast dX12_workOut_83 (ws_60 hW) (by omega) (by omega) ?_
  refine Eq_inc dX12_workOut_84 rfl (by decide) ?_
  refine Eam_nl (pc' := 87) (l' := [_, _, _, _, _, _]) rfl rfl ?_
  refine Eam_x_goto (tgt := 165) dX12_workOut_87 rfl ?_
  refine Eq_inc dX12_workOut_165 rfl (by decide) ?_
  refine Eam_nl (pc' := 168) (l' := [_, _, _, _, _, _]) rfl rfl ?_
  refine Eam_x_goto (tgt := 12) dX12_workOut_168 rfl ?_
  exact kk _ (Fx.wI (Or.inl (by decide))) ⟨wI_e0, hS.up (Nat.le_refl _)⟩
set_option maxHeartbeats 2000000 in
theorem r_tok9 {h : am_H} (hW : Wd h) {n f e i : Nat} (hn : n ≤ 4) (he : e ≤ 160) (hi : i < e) {st : List Int32} {x : Int32} (hS : SM (am_i h 60) (x :: st)) (hl : st.length < 80) (hx : x = 0 ∨ x = 1) (hc : am_i h 52 (340 * n + i) = nI 9) {P : Option Value → am_H → Prop} (kk : ∀ h2, Fx [60] [] h h2 → SM (am_i h2 60) ((if x = 0 then 1 else 0) :: st) → am_E 3 m_X12_workOut 12 [some (.ref 50), some (.int (nI n)), some (.int (nI f)), some (.int (nI e)), some (.int (nI (st.length + 1))), some (.int (nI (340 * n + i + 1)))] [] h2 P) : am_E 3 m_X12_workOut 12 [some (.ref 50), some (.int (nI n)), some (.int (nI f)), some (.int (nI e)), some (.int (nI (st.length + 1))), some (.int (nI (340 * n + i)))] [] h P := by
  have hx1 : nI 1 - x = if x = 0 then 1 else 0 := by rcases hx with rfl | rfl <;> decide +kernel
  have htop : am_i h 60 (st.length + 1 - 1) = x := hS.1
  refine Eq_il dX12_workOut_12 rfl ?_
  refine Eq_sp (v := nI 340) dX12_workOut_14 rfl ?_
  refine Eq_iln dX12_workOut_17 rfl ?_
  first | refine Eq_mul dX12_workOut_18 ?_ | refine Eam_x_pu dX12_workOut_18 rfl ?_
  refine Eq_iln dX12_workOut_19 rfl ?_
  first | refine Eq_add dX12_workOut_20 ?_ | refine Eam_x_pu dX12_workOut_20 rfl ?_
  refine Ef_ic_ge dX12_workOut_21 (tgt := 171) rfl (by exact nI_ge (by omega) (by omega)) ?_
  refine Eq_aln dX12_workOut_24 rfl ?_
  refine Eq_getR dX12_workOut_25 fl_X12_13 (ws_50 hW) rfl (wp_50_6 hW) ?_
  refine Eq_il dX12_workOut_28 rfl ?_
  refine Eq_ald dX12_workOut_30 (ws_52 hW) (by omega) (by omega) (by first | exact hc | exact htop) ?_
  refine Ef_if_eq dX12_workOut_31 (tgt := 45) rfl (by decide +kernel) ?_
  refine Eq_aln dX12_workOut_34 rfl ?_
  refine Eq_getR dX12_workOut_35 fl_X12_13 (ws_50 hW) rfl (wp_50_6 hW) ?_
  refine Eq_il dX12_workOut_38 rfl ?_
  refine Eq_ald dX12_workOut_40 (ws_52 hW) (by omega) (by omega) (by first | exact hc | exact htop) ?_
  refine Eq_ic (v := nI 1) dX12_workOut_41 rfl ?_
  refine Et_ic_ne 90 dX12_workOut_42 rfl (by decide +kernel) ?_
  refine Eq_aln dX12_workOut_90 rfl ?_
  refine Eq_getR dX12_workOut_91 fl_X12_13 (ws_50 hW) rfl (wp_50_6 hW) ?_
  refine Eq_il dX12_workOut_94 rfl ?_
  refine Eq_ald dX12_workOut_96 (ws_52 hW) (by omega) (by omega) (by first | exact hc | exact htop) ?_
  refine Eq_bp (v := nI 9) dX12_workOut_97 rfl ?_
  refine Ef_ic_ne dX12_workOut_99 (tgt := 125) rfl (by rfl) ?_
  refine Eq_aln dX12_workOut_102 rfl ?_
  refine Eq_getR dX12_workOut_103 fl_X12_37 (ws_50 hW) rfl (wp_50_16 hW) ?_
  refine Eq_il dX12_workOut_106 rfl ?_
  refine Eq_ic (v := nI 1) dX12_workOut_108 rfl ?_
  first | refine Eq_sub dX12_workOut_109 (by omega) ?_ | refine Eam_x_pu dX12_workOut_109 rfl ?_
  refine Eq_ic (v := nI 1) dX12_workOut_110 rfl ?_
  refine Eq_aln dX12_workOut_111 rfl ?_
  refine Eq_getR dX12_workOut_112 fl_X12_37 (ws_50 hW) rfl (wp_50_16 hW) ?_
  refine Eq_il dX12_workOut_115 rfl ?_
  refine Eq_ic (v := nI 1) dX12_workOut_117 rfl ?_
  first | refine Eq_sub dX12_workOut_118 (by omega) ?_ | refine Eam_x_pu dX12_workOut_118 rfl ?_
  refine Eq_ald dX12_workOut_119 (ws_60 hW) (by omega) (by omega) (by first | exact hc | exact htop) ?_
  refine Eam_x_pu dX12_workOut_120 rfl ?_
  rw [hx1]
  refine Eq_ast dX12_workOut_121 (ws_60 hW) (by omega) (by omega) ?_
  refine Eam_x_goto (tgt := 165) dX12_workOut_122 rfl ?_
  refine Eq_inc dX12_workOut_165 rfl (by decide) ?_
  refine Eam_nl (pc' := 168) (l' := [_, _, _, _, _, _]) rfl rfl ?_
  refine Eam_x_goto (tgt := 12) dX12_workOut_168 rfl ?_
  exact kk _ (Fx.wI (Or.inl (by decide))) ⟨wI_e0, hS.2.up (by omega)⟩
set_option maxHeartbeats 2000000 in
theorem r_tok2 {h : am_H} (hW : Wd h) {n f e i : Nat} (hn : n ≤ 4) (he : e ≤ 160) (hi : i < e) {st : List Int32} {x y : Int32} (hS : SM (am_i h 60) (y :: x :: st)) (hl : st.length + 1 < 80) (hc : am_i h 52 (340 * n + i) = nI 2) {P : Option Value → am_H → Prop} (kk : ∀ h2, Fx [60] [] h h2 → SM (am_i h2 60) (opv 2 x y :: st) → am_E 3 m_X12_workOut 12 [some (.ref 50), some (.int (nI n)), some (.int (nI f)), some (.int (nI e)), some (.int (nI (st.length + 1))), some (.int (nI (340 * n + i + 1)))] [] h2 P) : am_E 3 m_X12_workOut 12 [some (.ref 50), some (.int (nI n)), some (.int (nI f)), some (.int (nI e)), some (.int (nI (st.length + 1 + 1))), some (.int (nI (340 * n + i)))] [] h P := by
  have hty : am_i h 60 (st.length + 1) = y := hS.1
  have htx : am_i h 60 (st.length + 1 - 1) = x := hS.2.1
  refine Eq_il dX12_workOut_12 rfl ?_
  refine Eq_sp (v := nI 340) dX12_workOut_14 rfl ?_
  refine Eq_iln dX12_workOut_17 rfl ?_
  first | refine Eq_mul dX12_workOut_18 ?_ | refine Eam_x_pu dX12_workOut_18 rfl ?_
  refine Eq_iln dX12_workOut_19 rfl ?_
  first | refine Eq_add dX12_workOut_20 ?_ | refine Eam_x_pu dX12_workOut_20 rfl ?_
  refine Ef_ic_ge dX12_workOut_21 (tgt := 171) rfl (by exact nI_ge (by omega) (by omega)) ?_
  refine Eq_aln dX12_workOut_24 rfl ?_
  refine Eq_getR dX12_workOut_25 fl_X12_13 (ws_50 hW) rfl (wp_50_6 hW) ?_
  refine Eq_il dX12_workOut_28 rfl ?_
  refine Eq_ald dX12_workOut_30 (ws_52 hW) (by omega) (by omega) (by first | exact hc | exact hty | exact htx) ?_
  refine Ef_if_eq dX12_workOut_31 (tgt := 45) rfl (by decide +kernel) ?_
  refine Eq_aln dX12_workOut_34 rfl ?_
  refine Eq_getR dX12_workOut_35 fl_X12_13 (ws_50 hW) rfl (wp_50_6 hW) ?_
  refine Eq_il dX12_workOut_38 rfl ?_
  refine Eq_ald dX12_workOut_40 (ws_52 hW) (by omega) (by omega) (by first | exact hc | exact hty | exact htx) ?_
  refine Eq_ic (v := nI 1) dX12_workOut_41 rfl ?_
  refine Et_ic_ne 90 dX12_workOut_42 rfl (by decide +kernel) ?_
  refine Eq_aln dX12_workOut_90 rfl ?_
  refine Eq_getR dX12_workOut_91 fl_X12_13 (ws_50 hW) rfl (wp_50_6 hW) ?_
  refine Eq_il dX12_workOut_94 rfl ?_
  refine Eq_ald dX12_workOut_96 (ws_52 hW) (by omega) (by omega) (by first | exact hc | exact hty | exact htx) ?_
  refine Eq_bp (v := nI 9) dX12_workOut_97 rfl ?_
  refine Et_ic_ne 125 dX12_workOut_99 rfl (by decide +kernel) ?_
  refine Eq_dk dX12_workOut_125 rfl (by decide) ?_
  refine Eam_nl (pc' := 128) (l' := [_, _, _, _, _, _]) rfl rfl ?_
  refine Eq_aln dX12_workOut_128 rfl ?_
  refine Eq_getR dX12_workOut_129 fl_X12_37 (ws_50 hW) rfl (wp_50_16 hW) ?_
  refine Eq_il dX12_workOut_132 rfl ?_
  refine Eq_ic (v := nI 1) dX12_workOut_134 rfl ?_
  first | refine Eq_sub dX12_workOut_135 (by omega) ?_ | refine Eam_x_pu dX12_workOut_135 rfl ?_
  refine Eq_aln dX12_workOut_136 rfl ?_
  refine Eq_getR dX12_workOut_137 fl_X12_13 (ws_50 hW) rfl (wp_50_6 hW) ?_
  refine Eq_il dX12_workOut_140 rfl ?_
  refine Eq_ald dX12_workOut_142 (ws_52 hW) (by omega) (by omega) (by first | exact hc | exact hty | exact htx) ?_
  refine Eq_aln dX12_workOut_143 rfl ?_
  refine Eq_getR dX12_workOut_144 fl_X12_37 (ws_50 hW) rfl (wp_50_16 hW) ?_
  refine Eq_il dX12_workOut_147 rfl ?_
  refine Eq_ic (v := nI 1) dX12_workOut_149 rfl ?_
  first | refine Eq_sub dX12_workOut_150 (by omega) ?_ | refine Eam_x_pu dX12_workOut_150 rfl ?_
  refine Eq_ald dX12_workOut_151 (ws_60 hW) (by omega) (by omega) (by first | exact hc | exact hty | exact htx) ?_
  refine Eam_x_pu dX12_workOut_152 rfl ?_
  refine Eq_aln dX12_workOut_153 rfl ?_
  refine Eq_getR dX12_workOut_154 fl_X12_37 (ws_50 hW) rfl (wp_50_16 hW) ?_
  refine Eq_il dX12_workOut_157 rfl ?_
  refine Eq_ald dX12_workOut_159 (ws_60 hW) (by omega) (by omega) (by first | exact hc | exact hty | exact htx) ?_
  refine Eam_x_pu dX12_workOut_160 rfl ?_
  refine Eq_S3 (N := m_X12_worked) dX12_workOut_161 lk_X12_207 mS_X12_worked (r_worked_2) (by decide) (Nat.le_of_ble_eq_true rfl) (Nat.le_of_ble_eq_true rfl) ?_
  refine Eq_ast dX12_workOut_164 (ws_60 hW) (by omega) (by omega) ?_
  refine Eq_inc dX12_workOut_165 rfl (by decide) ?_
  refine Eam_nl (pc' := 168) (l' := [_, _, _, _, _, _]) rfl rfl ?_
  refine Eam_x_goto (tgt := 12) dX12_workOut_168 rfl ?_
  exact kk _ (Fx.wI (Or.inl (by decide))) ⟨wI_e0, hS.2.2.up (by omega)⟩
set_option maxHeartbeats 2000000 in
theorem r_tok3 {h : am_H} (hW : Wd h) {n f e i : Nat} (hn : n ≤ 4) (he : e ≤ 160) (hi : i < e) {st : List Int32} {x y : Int32} (hS : SM (am_i h 60) (y :: x :: st)) (hl : st.length + 1 < 80) (hc : am_i h 52 (340 * n + i) = nI 3) {P : Option Value → am_H → Prop} (kk : ∀ h2, Fx [60] [] h h2 → SM (am_i h2 60) (opv 3 x y :: st) → am_E 3 m_X12_workOut 12 [some (.ref 50), some (.int (nI n)), some (.int (nI f)), some (.int (nI e)), some (.int (nI (st.length + 1))), some (.int (nI (340 * n + i + 1)))] [] h2 P) : am_E 3 m_X12_workOut 12 [some (.ref 50), some (.int (nI n)), some (.int (nI f)), some (.int (nI e)), some (.int (nI (st.length + 1 + 1))), some (.int (nI (340 * n + i)))] [] h P := by
  have hty : am_i h 60 (st.length + 1) = y := hS.1
  have htx : am_i h 60 (st.length + 1 - 1) = x := hS.2.1
  refine Eq_il dX12_workOut_12 rfl ?_
  refine Eq_sp (v := nI 340) dX12_workOut_14 rfl ?_
  refine Eq_iln dX12_workOut_17 rfl ?_
  first | refine Eq_mul dX12_workOut_18 ?_ | refine Eam_x_pu dX12_workOut_18 rfl ?_
  refine Eq_iln dX12_workOut_19 rfl ?_
  first | refine Eq_add dX12_workOut_20 ?_ | refine Eam_x_pu dX12_workOut_20 rfl ?_
  refine Ef_ic_ge dX12_workOut_21 (tgt := 171) rfl (by exact nI_ge (by omega) (by omega)) ?_
  refine Eq_aln dX12_workOut_24 rfl ?_
  refine Eq_getR dX12_workOut_25 fl_X12_13 (ws_50 hW) rfl (wp_50_6 hW) ?_
  refine Eq_il dX12_workOut_28 rfl ?_
  refine Eq_ald dX12_workOut_30 (ws_52 hW) (by omega) (by omega) (by first | exact hc | exact hty | exact htx) ?_
  refine Ef_if_eq dX12_workOut_31 (tgt := 45) rfl (by decide +kernel) ?_
  refine Eq_aln dX12_workOut_34 rfl ?_
  refine Eq_getR dX12_workOut_35 fl_X12_13 (ws_50 hW) rfl (wp_50_6 hW) ?_
  refine Eq_il dX12_workOut_38 rfl ?_
  refine Eq_ald dX12_workOut_40 (ws_52 hW) (by omega) (by omega) (by first | exact hc | exact hty | exact htx) ?_
  refine Eq_ic (v := nI 1) dX12_workOut_41 rfl ?_
  refine Et_ic_ne 90 dX12_workOut_42 rfl (by decide +kernel) ?_
  refine Eq_aln dX12_workOut_90 rfl ?_
  refine Eq_getR dX12_workOut_91 fl_X12_13 (ws_50 hW) rfl (wp_50_6 hW) ?_
  refine Eq_il dX12_workOut_94 rfl ?_
  refine Eq_ald dX12_workOut_96 (ws_52 hW) (by omega) (by omega) (by first | exact hc | exact hty | exact htx) ?_
  refine Eq_bp (v := nI 9) dX12_workOut_97 rfl ?_
  refine Et_ic_ne 125 dX12_workOut_99 rfl (by decide +kernel) ?_
  refine Eq_dk dX12_workOut_125 rfl (by decide) ?_
  refine Eam_nl (pc' := 128) (l' := [_, _, _, _, _, _]) rfl rfl ?_
  refine Eq_aln dX12_workOut_128 rfl ?_
  refine Eq_getR dX12_workOut_129 fl_X12_37 (ws_50 hW) rfl (wp_50_16 hW) ?_
  refine Eq_il dX12_workOut_132 rfl ?_
  refine Eq_ic (v := nI 1) dX12_workOut_134 rfl ?_
  first | refine Eq_sub dX12_workOut_135 (by omega) ?_ | refine Eam_x_pu dX12_workOut_135 rfl ?_
  refine Eq_aln dX12_workOut_136 rfl ?_
  refine Eq_getR dX12_workOut_137 fl_X12_13 (ws_50 hW) rfl (wp_50_6 hW) ?_
  refine Eq_il dX12_workOut_140 rfl ?_
  refine Eq_ald dX12_workOut_142 (ws_52 hW) (by omega) (by omega) (by first | exact hc | exact hty | exact htx) ?_
  refine Eq_aln dX12_workOut_143 rfl ?_
  refine Eq_getR dX12_workOut_144 fl_X12_37 (ws_50 hW) rfl (wp_50_16 hW) ?_
  refine Eq_il dX12_workOut_147 rfl ?_
  refine Eq_ic (v := nI 1) dX12_workOut_149 rfl ?_
  first | refine Eq_sub dX12_workOut_150 (by omega) ?_ | refine Eam_x_pu dX12_workOut_150 rfl ?_
  refine Eq_ald dX12_workOut_151 (ws_60 hW) (by omega) (by omega) (by first | exact hc | exact hty | exact htx) ?_
  refine Eam_x_pu dX12_workOut_152 rfl ?_
  refine Eq_aln dX12_workOut_153 rfl ?_
  refine Eq_getR dX12_workOut_154 fl_X12_37 (ws_50 hW) rfl (wp_50_16 hW) ?_
  refine Eq_il dX12_workOut_157 rfl ?_
  refine Eq_ald dX12_workOut_159 (ws_60 hW) (by omega) (by omega) (by first | exact hc | exact hty | exact htx) ?_
  refine Eam_x_pu dX12_workOut_160 rfl ?_
  refine Eq_S3 (N := m_X12_worked) dX12_workOut_161 lk_X12_207 mS_X12_worked (r_worked_3) (by decide) (Nat.le_of_ble_eq_true rfl) (Nat.le_of_ble_eq_true rfl) ?_
  refine Eq_ast dX12_workOut_164 (ws_60 hW) (by omega) (by omega) ?_
  refine Eq_inc dX12_workOut_165 rfl (by decide) ?_
  refine Eam_nl (pc' := 168) (l' := [_, _, _, _, _, _]) rfl rfl ?_
  refine Eam_x_goto (tgt := 12) dX12_workOut_168 rfl ?_
  exact kk _ (Fx.wI (Or.inl (by decide))) ⟨wI_e0, hS.2.2.up (by omega)⟩
set_option maxHeartbeats 2000000 in
theorem r_tok4 {h : am_H} (hW : Wd h) {n f e i : Nat} (hn : n ≤ 4) (he : e ≤ 160) (hi : i < e) {st : List Int32} {x y : Int32} (hS : SM (am_i h 60) (y :: x :: st)) (hl : st.length + 1 < 80) (hc : am_i h 52 (340 * n + i) = nI 4) {P : Option Value → am_H → Prop} (kk : ∀ h2, Fx [60] [] h h2 → SM (am_i h2 60) (opv 4 x y :: st) → am_E 3 m_X12_workOut 12 [some (.ref 50), some (.int (nI n)), some (.int (nI f)), some (.int (nI e)), some (.int (nI (st.length + 1))), some (.int (nI (340 * n + i + 1)))] [] h2 P) : am_E 3 m_X12_workOut 12 [some (.ref 50), some (.int (nI n)), some (.int (nI f)), some (.int (nI e)), some (.int (nI (st.length + 1 + 1))), some (.int (nI (340 * n + i)))] [] h P := by
  have hty : am_i h 60 (st.length + 1) = y := hS.1
  have htx : am_i h 60 (st.length + 1 - 1) = x := hS.2.1
  refine Eq_il dX12_workOut_12 rfl ?_
  refine Eq_sp (v := nI 340) dX12_workOut_14 rfl ?_
  refine Eq_iln dX12_workOut_17 rfl ?_
  first | refine Eq_mul dX12_workOut_18 ?_ | refine Eam_x_pu dX12_workOut_18 rfl ?_
  refine Eq_iln dX12_workOut_19 rfl ?_
  first | refine Eq_add dX12_workOut_20 ?_ | refine Eam_x_pu dX12_workOut_20 rfl ?_
  refine Ef_ic_ge dX12_workOut_21 (tgt := 171) rfl (by exact nI_ge (by omega) (by omega)) ?_
  refine Eq_aln dX12_workOut_24 rfl ?_
  refine Eq_getR dX12_workOut_25 fl_X12_13 (ws_50 hW) rfl (wp_50_6 hW) ?_
  refine Eq_il dX12_workOut_28 rfl ?_
  refine Eq_ald dX12_workOut_30 (ws_52 hW) (by omega) (by omega) (by first | exact hc | exact hty | exact htx) ?_
  refine Ef_if_eq dX12_workOut_31 (tgt := 45) rfl (by decide +kernel) ?_
  refine Eq_aln dX12_workOut_34 rfl ?_
  refine Eq_getR dX12_workOut_35 fl_X12_13 (ws_50 hW) rfl (wp_50_6 hW) ?_
  refine Eq_il dX12_workOut_38 rfl ?_
  refine Eq_ald dX12_workOut_40 (ws_52 hW) (by omega) (by omega) (by first | exact hc | exact hty | exact htx) ?_
  refine Eq_ic (v := nI 1) dX12_workOut_41 rfl ?_
  refine Et_ic_ne 90 dX12_workOut_42 rfl (by decide +kernel) ?_
  refine Eq_aln dX12_workOut_90 rfl ?_
  refine Eq_getR dX12_workOut_91 fl_X12_13 (ws_50 hW) rfl (wp_50_6 hW) ?_
  refine Eq_il dX12_workOut_94 rfl ?_
  refine Eq_ald dX12_workOut_96 (ws_52 hW) (by omega) (by omega) (by first | exact hc | exact hty | exact htx) ?_
  refine Eq_bp (v := nI 9) dX12_workOut_97 rfl ?_
  refine Et_ic_ne 125 dX12_workOut_99 rfl (by decide +kernel) ?_
  refine Eq_dk dX12_workOut_125 rfl (by decide) ?_
  refine Eam_nl (pc' := 128) (l' := [_, _, _, _, _, _]) rfl rfl ?_
  refine Eq_aln dX12_workOut_128 rfl ?_
  refine Eq_getR dX12_workOut_129 fl_X12_37 (ws_50 hW) rfl (wp_50_16 hW) ?_
  refine Eq_il dX12_workOut_132 rfl ?_
  refine Eq_ic (v := nI 1) dX12_workOut_134 rfl ?_
  first | refine Eq_sub dX12_workOut_135 (by omega) ?_ | refine Eam_x_pu dX12_workOut_135 rfl ?_
  refine Eq_aln dX12_workOut_136 rfl ?_
  refine Eq_getR dX12_workOut_137 fl_X12_13 (ws_50 hW) rfl (wp_50_6 hW) ?_
  refine Eq_il dX12_workOut_140 rfl ?_
  refine Eq_ald dX12_workOut_142 (ws_52 hW) (by omega) (by omega) (by first | exact hc | exact hty | exact htx) ?_
  refine Eq_aln dX12_workOut_143 rfl ?_
  refine Eq_getR dX12_workOut_144 fl_X12_37 (ws_50 hW) rfl (wp_50_16 hW) ?_
  refine Eq_il dX12_workOut_147 rfl ?_
  refine Eq_ic (v := nI 1) dX12_workOut_149 rfl ?_
  first | refine Eq_sub dX12_workOut_150 (by omega) ?_ | refine Eam_x_pu dX12_workOut_150 rfl ?_
  refine Eq_ald dX12_workOut_151 (ws_60 hW) (by omega) (by omega) (by first | exact hc | exact hty | exact htx) ?_
  refine Eam_x_pu dX12_workOut_152 rfl ?_
  refine Eq_aln dX12_workOut_153 rfl ?_
  refine Eq_getR dX12_workOut_154 fl_X12_37 (ws_50 hW) rfl (wp_50_16 hW) ?_
  refine Eq_il dX12_workOut_157 rfl ?_
  refine Eq_ald dX12_workOut_159 (ws_60 hW) (by omega) (by omega) (by first | exact hc | exact hty | exact htx) ?_
  refine Eam_x_pu dX12_workOut_160 rfl ?_
  refine Eq_S3 (N := m_X12_worked) dX12_workOut_161 lk_X12_207 mS_X12_worked (r_worked_4) (by decide) (Nat.le_of_ble_eq_true rfl) (Nat.le_of_ble_eq_true rfl) ?_
  refine Eq_ast dX12_workOut_164 (ws_60 hW) (by omega) (by omega) ?_
  refine Eq_inc dX12_workOut_165 rfl (by decide) ?_
  refine Eam_nl (pc' := 168) (l' := [_, _, _, _, _, _]) rfl rfl ?_
  refine Eam_x_goto (tgt := 12) dX12_workOut_168 rfl ?_
  exact kk _ (Fx.wI (Or.inl (by decide))) ⟨wI_e0, hS.2.2.up (by omega)⟩
set_option maxHeartbeats 2000000 in
theorem r_tok5 {h : am_H} (hW : Wd h) {n f e i : Nat} (hn : n ≤ 4) (he : e ≤ 160) (hi : i < e) {st : List Int32} {x y : Int32} (hS : SM (am_i h 60) (y :: x :: st)) (hl : st.length + 1 < 80) (hc : am_i h 52 (340 * n + i) = nI 5) {P : Option Value → am_H → Prop} (kk : ∀ h2, Fx [60] [] h h2 → SM (am_i h2 60) (opv 5 x y :: st) → am_E 3 m_X12_workOut 12 [some (.ref 50), some (.int (nI n)), some (.int (nI f)), some (.int (nI e)), some (.int (nI (st.length + 1))), some (.int (nI (340 * n + i + 1)))] [] h2 P) : am_E 3 m_X12_workOut 12 [some (.ref 50), some (.int (nI n)), some (.int (nI f)), some (.int (nI e)), some (.int (nI (st.length + 1 + 1))), some (.int (nI (340 * n + i)))] [] h P := by
  have hty : am_i h 60 (st.length + 1) = y := hS.1
  have htx : am_i h 60 (st.length + 1 - 1) = x := hS.2.1
  refine Eq_il dX12_workOut_12 rfl ?_
  refine Eq_sp (v := nI 340) dX12_workOut_14 rfl ?_
  refine Eq_iln dX12_workOut_17 rfl ?_
  first | refine Eq_mul dX12_workOut_18 ?_ | refine Eam_x_pu dX12_workOut_18 rfl ?_
  refine Eq_iln dX12_workOut_19 rfl ?_
  first | refine Eq_add dX12_workOut_20 ?_ | refine Eam_x_pu dX12_workOut_20 rfl ?_
  refine Ef_ic_ge dX12_workOut_21 (tgt := 171) rfl (by exact nI_ge (by omega) (by omega)) ?_
  refine Eq_aln dX12_workOut_24 rfl ?_
  refine Eq_getR dX12_workOut_25 fl_X12_13 (ws_50 hW) rfl (wp_50_6 hW) ?_
  refine Eq_il dX12_workOut_28 rfl ?_
  refine Eq_ald dX12_workOut_30 (ws_52 hW) (by omega) (by omega) (by first | exact hc | exact hty | exact htx) ?_
  refine Ef_if_eq dX12_workOut_31 (tgt := 45) rfl (by decide +kernel) ?_
  refine Eq_aln dX12_workOut_34 rfl ?_
  refine Eq_getR dX12_workOut_35 fl_X12_13 (ws_50 hW) rfl (wp_50_6 hW) ?_
  refine Eq_il dX12_workOut_38 rfl ?_
  refine Eq_ald dX12_workOut_40 (ws_52 hW) (by omega) (by omega) (by first | exact hc | exact hty | exact htx) ?_
  refine Eq_ic (v := nI 1) dX12_workOut_41 rfl ?_
  refine Et_ic_ne 90 dX12_workOut_42 rfl (by decide +kernel) ?_
  refine Eq_aln dX12_workOut_90 rfl ?_
  refine Eq_getR dX12_workOut_91 fl_X12_13 (ws_50 hW) rfl (wp_50_6 hW) ?_
  refine Eq_il dX12_workOut_94 rfl ?_
  refine Eq_ald dX12_workOut_96 (ws_52 hW) (by omega) (by omega) (by first | exact hc | exact hty | exact htx) ?_
  refine Eq_bp (v := nI 9) dX12_workOut_97 rfl ?_
  refine Et_ic_ne 125 dX12_workOut_99 rfl (by decide +kernel) ?_
  refine Eq_dk dX12_workOut_125 rfl (by decide) ?_
  refine Eam_nl (pc' := 128) (l' := [_, _, _, _, _, _]) rfl rfl ?_
  refine Eq_aln dX12_workOut_128 rfl ?_
  refine Eq_getR dX12_workOut_129 fl_X12_37 (ws_50 hW) rfl (wp_50_16 hW) ?_
  refine Eq_il dX12_workOut_132 rfl ?_
  refine Eq_ic (v := nI 1) dX12_workOut_134 rfl ?_
  first | refine Eq_sub dX12_workOut_135 (by omega) ?_ | refine Eam_x_pu dX12_workOut_135 rfl ?_
  refine Eq_aln dX12_workOut_136 rfl ?_
  refine Eq_getR dX12_workOut_137 fl_X12_13 (ws_50 hW) rfl (wp_50_6 hW) ?_
  refine Eq_il dX12_workOut_140 rfl ?_
  refine Eq_ald dX12_workOut_142 (ws_52 hW) (by omega) (by omega) (by first | exact hc | exact hty | exact htx) ?_
  refine Eq_aln dX12_workOut_143 rfl ?_
  refine Eq_getR dX12_workOut_144 fl_X12_37 (ws_50 hW) rfl (wp_50_16 hW) ?_
  refine Eq_il dX12_workOut_147 rfl ?_
  refine Eq_ic (v := nI 1) dX12_workOut_149 rfl ?_
  first | refine Eq_sub dX12_workOut_150 (by omega) ?_ | refine Eam_x_pu dX12_workOut_150 rfl ?_
  refine Eq_ald dX12_workOut_151 (ws_60 hW) (by omega) (by omega) (by first | exact hc | exact hty | exact htx) ?_
  refine Eam_x_pu dX12_workOut_152 rfl ?_
  refine Eq_aln dX12_workOut_153 rfl ?_
  refine Eq_getR dX12_workOut_154 fl_X12_37 (ws_50 hW) rfl (wp_50_16 hW) ?_
  refine Eq_il dX12_workOut_157 rfl ?_
  refine Eq_ald dX12_workOut_159 (ws_60 hW) (by omega) (by omega) (by first | exact hc | exact hty | exact htx) ?_
  refine Eam_x_pu dX12_workOut_160 rfl ?_
  refine Eq_S3 (N := m_X12_worked) dX12_workOut_161 lk_X12_207 mS_X12_worked (r_worked_5) (by decide) (Nat.le_of_ble_eq_true rfl) (Nat.le_of_ble_eq_true rfl) ?_
  refine Eq_ast dX12_workOut_164 (ws_60 hW) (by omega) (by omega) ?_
  refine Eq_inc dX12_workOut_165 rfl (by decide) ?_
  refine Eam_nl (pc' := 168) (l' := [_, _, _, _, _, _]) rfl rfl ?_
  refine Eam_x_goto (tgt := 12) dX12_workOut_168 rfl ?_
  exact kk _ (Fx.wI (Or.inl (by decide))) ⟨wI_e0, hS.2.2.up (by omega)⟩
set_option maxHeartbeats 2000000 in
theorem r_tok6 {h : am_H} (hW : Wd h) {n f e i : Nat} (hn : n ≤ 4) (he : e ≤ 160) (hi : i < e) {st : List Int32} {x y : Int32} (hS : SM (am_i h 60) (y :: x :: st)) (hl : st.length + 1 < 80) (hc : am_i h 52 (340 * n + i) = nI 6) {P : Option Value → am_H → Prop} (kk : ∀ h2, Fx [60] [] h h2 → SM (am_i h2 60) (opv 6 x y :: st) → am_E 3 m_X12_workOut 12 [some (.ref 50), some (.int (nI n)), some (.int (nI f)), some (.int (nI e)), some (.int (nI (st.length + 1))), some (.int (nI (340 * n + i + 1)))] [] h2 P) : am_E 3 m_X12_workOut 12 [some (.ref 50), some (.int (nI n)), some (.int (nI f)), some (.int (nI e)), some (.int (nI (st.length + 1 + 1))), some (.int (nI (340 * n + i)))] [] h P := by
  have hty : am_i h 60 (st.length + 1) = y := hS.1
  have htx : am_i h 60 (st.length + 1 - 1) = x := hS.2.1
  refine Eq_il dX12_workOut_12 rfl ?_
  refine Eq_sp (v := nI 340) dX12_workOut_14 rfl ?_
  refine Eq_iln dX12_workOut_17 rfl ?_
  first | refine Eq_mul dX12_workOut_18 ?_ | refine Eam_x_pu dX12_workOut_18 rfl ?_
  refine Eq_iln dX12_workOut_19 rfl ?_
  first | refine Eq_add dX12_workOut_20 ?_ | refine Eam_x_pu dX12_workOut_20 rfl ?_
  refine Ef_ic_ge dX12_workOut_21 (tgt := 171) rfl (by exact nI_ge (by omega) (by omega)) ?_
  refine Eq_aln dX12_workOut_24 rfl ?_
  refine Eq_getR dX12_workOut_25 fl_X12_13 (ws_50 hW) rfl (wp_50_6 hW) ?_
  refine Eq_il dX12_workOut_28 rfl ?_
  refine Eq_ald dX12_workOut_30 (ws_52 hW) (by omega) (by omega) (by first | exact hc | exact hty | exact htx) ?_
  refine Ef_if_eq dX12_workOut_31 (tgt := 45) rfl (by decide +kernel) ?_
  refine Eq_aln dX12_workOut_34 rfl ?_
  refine Eq_getR dX12_workOut_35 fl_X12_13 (ws_50 hW) rfl (wp_50_6 hW) ?_
  refine Eq_il dX12_workOut_38 rfl ?_
  refine Eq_ald dX12_workOut_40 (ws_52 hW) (by omega) (by omega) (by first | exact hc | exact hty | exact htx) ?_
  refine Eq_ic (v := nI 1) dX12_workOut_41 rfl ?_
  refine Et_ic_ne 90 dX12_workOut_42 rfl (by decide +kernel) ?_
  refine Eq_aln dX12_workOut_90 rfl ?_
  refine Eq_getR dX12_workOut_91 fl_X12_13 (ws_50 hW) rfl (wp_50_6 hW) ?_
  refine Eq_il dX12_workOut_94 rfl ?_
  refine Eq_ald dX12_workOut_96 (ws_52 hW) (by omega) (by omega) (by first | exact hc | exact hty | exact htx) ?_
  refine Eq_bp (v := nI 9) dX12_workOut_97 rfl ?_
  refine Et_ic_ne 125 dX12_workOut_99 rfl (by decide +kernel) ?_
  refine Eq_dk dX12_workOut_125 rfl (by decide) ?_
  refine Eam_nl (pc' := 128) (l' := [_, _, _, _, _, _]) rfl rfl ?_
  refine Eq_aln dX12_workOut_128 rfl ?_
  refine Eq_getR dX12_workOut_129 fl_X12_37 (ws_50 hW) rfl (wp_50_16 hW) ?_
  refine Eq_il dX12_workOut_132 rfl ?_
  refine Eq_ic (v := nI 1) dX12_workOut_134 rfl ?_
  first | refine Eq_sub dX12_workOut_135 (by omega) ?_ | refine Eam_x_pu dX12_workOut_135 rfl ?_
  refine Eq_aln dX12_workOut_136 rfl ?_
  refine Eq_getR dX12_workOut_137 fl_X12_13 (ws_50 hW) rfl (wp_50_6 hW) ?_
  refine Eq_il dX12_workOut_140 rfl ?_
  refine Eq_ald dX12_workOut_142 (ws_52 hW) (by omega) (by omega) (by first | exact hc | exact hty | exact htx) ?_
  refine Eq_aln dX12_workOut_143 rfl ?_
  refine Eq_getR dX12_workOut_144 fl_X12_37 (ws_50 hW) rfl (wp_50_16 hW) ?_
  refine Eq_il dX12_workOut_147 rfl ?_
  refine Eq_ic (v := nI 1) dX12_workOut_149 rfl ?_
  first | refine Eq_sub dX12_workOut_150 (by omega) ?_ | refine Eam_x_pu dX12_workOut_150 rfl ?_
  refine Eq_ald dX12_workOut_151 (ws_60 hW) (by omega) (by omega) (by first | exact hc | exact hty | exact htx) ?_
  refine Eam_x_pu dX12_workOut_152 rfl ?_
  refine Eq_aln dX12_workOut_153 rfl ?_
  refine Eq_getR dX12_workOut_154 fl_X12_37 (ws_50 hW) rfl (wp_50_16 hW) ?_
  refine Eq_il dX12_workOut_157 rfl ?_
  refine Eq_ald dX12_workOut_159 (ws_60 hW) (by omega) (by omega) (by first | exact hc | exact hty | exact htx) ?_
  refine Eam_x_pu dX12_workOut_160 rfl ?_
  refine Eq_S3 (N := m_X12_worked) dX12_workOut_161 lk_X12_207 mS_X12_worked (r_worked_6) (by decide) (Nat.le_of_ble_eq_true rfl) (Nat.le_of_ble_eq_true rfl) ?_
  refine Eq_ast dX12_workOut_164 (ws_60 hW) (by omega) (by omega) ?_
  refine Eq_inc dX12_workOut_165 rfl (by decide) ?_
  refine Eam_nl (pc' := 168) (l' := [_, _, _, _, _, _]) rfl rfl ?_
  refine Eam_x_goto (tgt := 12) dX12_workOut_168 rfl ?_
  exact kk _ (Fx.wI (Or.inl (by decide))) ⟨wI_e0, hS.2.2.up (by omega)⟩
set_option maxHeartbeats 2000000 in
theorem r_tok7 {h : am_H} (hW : Wd h) {n f e i : Nat} (hn : n ≤ 4) (he : e ≤ 160) (hi : i < e) {st : List Int32} {x y : Int32} (hS : SM (am_i h 60) (y :: x :: st)) (hl : st.length + 1 < 80) (hc : am_i h 52 (340 * n + i) = nI 7) {P : Option Value → am_H → Prop} (kk : ∀ h2, Fx [60] [] h h2 → SM (am_i h2 60) (opv 7 x y :: st) → am_E 3 m_X12_workOut 12 [some (.ref 50), some (.int (nI n)), some (.int (nI f)), some (.int (nI e)), some (.int (nI (st.length + 1))), some (.int (nI (340 * n + i + 1)))] [] h2 P) : am_E 3 m_X12_workOut 12 [some (.ref 50), some (.int (nI n)), some (.int (nI f)), some (.int (nI e)), some (.int (nI (st.length + 1 + 1))), some (.int (nI (340 * n + i)))] [] h P := by
  have hty : am_i h 60 (st.length + 1) = y := hS.1
  have htx : am_i h 60 (st.length + 1 - 1) = x := hS.2.1
  refine Eq_il dX12_workOut_12 rfl ?_
  refine Eq_sp (v := nI 340) dX12_workOut_14 rfl ?_
  refine Eq_iln dX12_workOut_17 rfl ?_
  first | refine Eq_mul dX12_workOut_18 ?_ | refine Eam_x_pu dX12_workOut_18 rfl ?_
  refine Eq_iln dX12_workOut_19 rfl ?_
  first | refine Eq_add dX12_workOut_20 ?_ | refine Eam_x_pu dX12_workOut_20 rfl ?_
  refine Ef_ic_ge dX12_workOut_21 (tgt := 171) rfl (by exact nI_ge (by omega) (by omega)) ?_
  refine Eq_aln dX12_workOut_24 rfl ?_
  refine Eq_getR dX12_workOut_25 fl_X12_13 (ws_50 hW) rfl (wp_50_6 hW) ?_
  refine Eq_il dX12_workOut_28 rfl ?_
  refine Eq_ald dX12_workOut_30 (ws_52 hW) (by omega) (by omega) (by first | exact hc | exact hty | exact htx) ?_
  refine Ef_if_eq dX12_workOut_31 (tgt := 45) rfl (by decide +kernel) ?_
  refine Eq_aln dX12_workOut_34 rfl ?_
  refine Eq_getR dX12_workOut_35 fl_X12_13 (ws_50 hW) rfl (wp_50_6 hW) ?_
  refine Eq_il dX12_workOut_38 rfl ?_
  refine Eq_ald dX12_workOut_40 (ws_52 hW) (by omega) (by omega) (by first | exact hc | exact hty | exact htx) ?_
  refine Eq_ic (v := nI 1) dX12_workOut_41 rfl ?_
  refine Et_ic_ne 90 dX12_workOut_42 rfl (by decide +kernel) ?_
  refine Eq_aln dX12_workOut_90 rfl ?_
  refine Eq_getR dX12_workOut_91 fl_X12_13 (ws_50 hW) rfl (wp_50_6 hW) ?_
  refine Eq_il dX12_workOut_94 rfl ?_
  refine Eq_ald dX12_workOut_96 (ws_52 hW) (by omega) (by omega) (by first | exact hc | exact hty | exact htx) ?_
  refine Eq_bp (v := nI 9) dX12_workOut_97 rfl ?_
  refine Et_ic_ne 125 dX12_workOut_99 rfl (by decide +kernel) ?_
  refine Eq_dk dX12_workOut_125 rfl (by decide) ?_
  refine Eam_nl (pc' := 128) (l' := [_, _, _, _, _, _]) rfl rfl ?_
  refine Eq_aln dX12_workOut_128 rfl ?_
  refine Eq_getR dX12_workOut_129 fl_X12_37 (ws_50 hW) rfl (wp_50_16 hW) ?_
  refine Eq_il dX12_workOut_132 rfl ?_
  refine Eq_ic (v := nI 1) dX12_workOut_134 rfl ?_
  first | refine Eq_sub dX12_workOut_135 (by omega) ?_ | refine Eam_x_pu dX12_workOut_135 rfl ?_
  refine Eq_aln dX12_workOut_136 rfl ?_
  refine Eq_getR dX12_workOut_137 fl_X12_13 (ws_50 hW) rfl (wp_50_6 hW) ?_
  refine Eq_il dX12_workOut_140 rfl ?_
  refine Eq_ald dX12_workOut_142 (ws_52 hW) (by omega) (by omega) (by first | exact hc | exact hty | exact htx) ?_
  refine Eq_aln dX12_workOut_143 rfl ?_
  refine Eq_getR dX12_workOut_144 fl_X12_37 (ws_50 hW) rfl (wp_50_16 hW) ?_
  refine Eq_il dX12_workOut_147 rfl ?_
  refine Eq_ic (v := nI 1) dX12_workOut_149 rfl ?_
  first | refine Eq_sub dX12_workOut_150 (by omega) ?_ | refine Eam_x_pu dX12_workOut_150 rfl ?_
  refine Eq_ald dX12_workOut_151 (ws_60 hW) (by omega) (by omega) (by first | exact hc | exact hty | exact htx) ?_
  refine Eam_x_pu dX12_workOut_152 rfl ?_
  refine Eq_aln dX12_workOut_153 rfl ?_
  refine Eq_getR dX12_workOut_154 fl_X12_37 (ws_50 hW) rfl (wp_50_16 hW) ?_
  refine Eq_il dX12_workOut_157 rfl ?_
  refine Eq_ald dX12_workOut_159 (ws_60 hW) (by omega) (by omega) (by first | exact hc | exact hty | exact htx) ?_
  refine Eam_x_pu dX12_workOut_160 rfl ?_
  refine Eq_S3 (N := m_X12_worked) dX12_workOut_161 lk_X12_207 mS_X12_worked (r_worked_7) (by decide) (Nat.le_of_ble_eq_true rfl) (Nat.le_of_ble_eq_true rfl) ?_
  refine Eq_ast dX12_workOut_164 (ws_60 hW) (by omega) (by omega) ?_
  refine Eq_inc dX12_workOut_165 rfl (by decide) ?_
  refine Eam_nl (pc' := 168) (l' := [_, _, _, _, _, _]) rfl rfl ?_
  refine Eam_x_goto (tgt := 12) dX12_workOut_168 rfl ?_
  exact kk _ (Fx.wI (Or.inl (by decide))) ⟨wI_e0, hS.2.2.up (by omega)⟩
set_option maxHeartbeats 2000000 in
theorem r_tok8 {h : am_H} (hW : Wd h) {n f e i : Nat} (hn : n ≤ 4) (he : e ≤ 160) (hi : i < e) {st : List Int32} {x y : Int32} (hS : SM (am_i h 60) (y :: x :: st)) (hl : st.length + 1 < 80) (hc : am_i h 52 (340 * n + i) = nI 8) {P : Option Value → am_H → Prop} (kk : ∀ h2, Fx [60] [] h h2 → SM (am_i h2 60) (opv 8 x y :: st) → am_E 3 m_X12_workOut 12 [some (.ref 50), some (.int (nI n)), some (.int (nI f)), some (.int (nI e)), some (.int (nI (st.length + 1))), some (.int (nI (340 * n + i + 1)))] [] h2 P) : am_E 3 m_X12_workOut 12 [some (.ref 50), some (.int (nI n)), some (.int (nI f)), some (.int (nI e)), some (.int (nI (st.length + 1 + 1))), some (.int (nI (340 * n + i)))] [] h P := by
  have hty : am_i h 60 (st.length + 1) = y := hS.1
  have htx : am_i h 60 (st.length + 1 - 1) = x := hS.2.1
  refine Eq_il dX12_workOut_12 rfl ?_
  refine Eq_sp (v := nI 340) dX12_workOut_14 rfl ?_
  refine Eq_iln dX12_workOut_17 rfl ?_
  first | refine Eq_mul dX12_workOut_18 ?_ | refine Eam_x_pu dX12_workOut_18 rfl ?_
  refine Eq_iln dX12_workOut_19 rfl ?_
  first | refine Eq_add dX12_workOut_20 ?_ | refine Eam_x_pu dX12_workOut_20 rfl ?_
  refine Ef_ic_ge dX12_workOut_21 (tgt := 171) rfl (by exact nI_ge (by omega) (by omega)) ?_
  refine Eq_aln dX12_workOut_24 rfl ?_
  refine Eq_getR dX12_workOut_25 fl_X12_13 (ws_50 hW) rfl (wp_50_6 hW) ?_
  refine Eq_il dX12_workOut_28 rfl ?_
  refine Eq_ald dX12_workOut_30 (ws_52 hW) (by omega) (by omega) (by first | exact hc | exact hty | exact htx) ?_
  refine Ef_if_eq dX12_workOut_31 (tgt := 45) rfl (by decide +kernel) ?_
  refine Eq_aln dX12_workOut_34 rfl ?_
  refine Eq_getR dX12_workOut_35 fl_X12_13 (ws_50 hW) rfl (wp_50_6 hW) ?_
  refine Eq_il dX12_workOut_38 rfl ?_
  refine Eq_ald dX12_workOut_40 (ws_52 hW) (by omega) (by omega) (by first | exact hc | exact hty | exact htx) ?_
  refine Eq_ic (v := nI 1) dX12_workOut_41 rfl ?_
  refine Et_ic_ne 90 dX12_workOut_42 rfl (by decide +kernel) ?_
  refine Eq_aln dX12_workOut_90 rfl ?_
  refine Eq_getR dX12_workOut_91 fl_X12_13 (ws_50 hW) rfl (wp_50_6 hW) ?_
  refine Eq_il dX12_workOut_94 rfl ?_
  refine Eq_ald dX12_workOut_96 (ws_52 hW) (by omega) (by omega) (by first | exact hc | exact hty | exact htx) ?_
  refine Eq_bp (v := nI 9) dX12_workOut_97 rfl ?_
  refine Et_ic_ne 125 dX12_workOut_99 rfl (by decide +kernel) ?_
  refine Eq_dk dX12_workOut_125 rfl (by decide) ?_
  refine Eam_nl (pc' := 128) (l' := [_, _, _, _, _, _]) rfl rfl ?_
  refine Eq_aln dX12_workOut_128 rfl ?_
  refine Eq_getR dX12_workOut_129 fl_X12_37 (ws_50 hW) rfl (wp_50_16 hW) ?_
  refine Eq_il dX12_workOut_132 rfl ?_
  refine Eq_ic (v := nI 1) dX12_workOut_134 rfl ?_
  first | refine Eq_sub dX12_workOut_135 (by omega) ?_ | refine Eam_x_pu dX12_workOut_135 rfl ?_
  refine Eq_aln dX12_workOut_136 rfl ?_
  refine Eq_getR dX12_workOut_137 fl_X12_13 (ws_50 hW) rfl (wp_50_6 hW) ?_
  refine Eq_il dX12_workOut_140 rfl ?_
  refine Eq_ald dX12_workOut_142 (ws_52 hW) (by omega) (by omega) (by first | exact hc | exact hty | exact htx) ?_
  refine Eq_aln dX12_workOut_143 rfl ?_
  refine Eq_getR dX12_workOut_144 fl_X12_37 (ws_50 hW) rfl (wp_50_16 hW) ?_
  refine Eq_il dX12_workOut_147 rfl ?_
  refine Eq_ic (v := nI 1) dX12_workOut_149 rfl ?_
  first | refine Eq_sub dX12_workOut_150 (by omega) ?_ | refine Eam_x_pu dX12_workOut_150 rfl ?_
  refine Eq_ald dX12_workOut_151 (ws_60 hW) (by omega) (by omega) (by first | exact hc | exact hty | exact htx) ?_
  refine Eam_x_pu dX12_workOut_152 rfl ?_
  refine Eq_aln dX12_workOut_153 rfl ?_
  refine Eq_getR dX12_workOut_154 fl_X12_37 (ws_50 hW) rfl (wp_50_16 hW) ?_
  refine Eq_il dX12_workOut_157 rfl ?_
  refine Eq_ald dX12_workOut_159 (ws_60 hW) (by omega) (by omega) (by first | exact hc | exact hty | exact htx) ?_
  refine Eam_x_pu dX12_workOut_160 rfl ?_
  refine Eq_S3 (N := m_X12_worked) dX12_workOut_161 lk_X12_207 mS_X12_worked (r_worked_8) (by decide) (Nat.le_of_ble_eq_true rfl) (Nat.le_of_ble_eq_true rfl) ?_
  refine Eq_ast dX12_workOut_164 (ws_60 hW) (by omega) (by omega) ?_
  refine Eq_inc dX12_workOut_165 rfl (by decide) ?_
  refine Eam_nl (pc' := 168) (l' := [_, _, _, _, _, _]) rfl rfl ?_
  refine Eam_x_goto (tgt := 12) dX12_workOut_168 rfl ?_
  exact kk _ (Fx.wI (Or.inl (by decide))) ⟨wI_e0, hS.2.2.up (by omega)⟩
set_option maxHeartbeats 2000000 in
theorem r_tok10 {h : am_H} (hW : Wd h) {n f e i : Nat} (hn : n ≤ 4) (he : e ≤ 160) (hi : i < e) {st : List Int32} {x y : Int32} (hS : SM (am_i h 60) (y :: x :: st)) (hl : st.length + 1 < 80) (hx : x = 0 ∨ x = 1) (hy : y = 0 ∨ y = 1) (hc : am_i h 52 (340 * n + i) = nI 10) {P : Option Value → am_H → Prop} (kk : ∀ h2, Fx [60] [] h h2 → SM (am_i h2 60) (opv 10 x y :: st) → am_E 3 m_X12_workOut 12 [some (.ref 50), some (.int (nI n)), some (.int (nI f)), some (.int (nI e)), some (.int (nI (st.length + 1))), some (.int (nI (340 * n + i + 1)))] [] h2 P) : am_E 3 m_X12_workOut 12 [some (.ref 50), some (.int (nI n)), some (.int (nI f)), some (.int (nI e)), some (.int (nI (st.length + 1 + 1))), some (.int (nI (340 * n + i)))] [] h P := by
  have hty : am_i h 60 (st.length + 1) = y := hS.1
  have htx : am_i h 60 (st.length + 1 - 1) = x := hS.2.1
  refine Eq_il dX12_workOut_12 rfl ?_
  refine Eq_sp (v := nI 340) dX12_workOut_14 rfl ?_
  refine Eq_iln dX12_workOut_17 rfl ?_
  first | refine Eq_mul dX12_workOut_18 ?_ | refine Eam_x_pu dX12_workOut_18 rfl ?_
  refine Eq_iln dX12_workOut_19 rfl ?_
  first | refine Eq_add dX12_workOut_20 ?_ | refine Eam_x_pu dX12_workOut_20 rfl ?_
  refine Ef_ic_ge dX12_workOut_21 (tgt := 171) rfl (by exact nI_ge (by omega) (by omega)) ?_
  refine Eq_aln dX12_workOut_24 rfl ?_
  refine Eq_getR dX12_workOut_25 fl_X12_13 (ws_50 hW) rfl (wp_50_6 hW) ?_
  refine Eq_il dX12_workOut_28 rfl ?_
  refine Eq_ald dX12_workOut_30 (ws_52 hW) (by omega) (by omega) (by first | exact hc | exact hty | exact htx) ?_
  refine Ef_if_eq dX12_workOut_31 (tgt := 45) rfl (by decide +kernel) ?_
  refine Eq_aln dX12_workOut_34 rfl ?_
  refine Eq_getR dX12_workOut_35 fl_X12_13 (ws_50 hW) rfl (wp_50_6 hW) ?_
  refine Eq_il dX12_workOut_38 rfl ?_
  refine Eq_ald dX12_workOut_40 (ws_52 hW) (by omega) (by omega) (by first | exact hc | exact hty | exact htx) ?_
  refine Eq_ic (v := nI 1) dX12_workOut_41 rfl ?_
  refine Et_ic_ne 90 dX12_workOut_42 rfl (by decide +kernel) ?_
  refine Eq_aln dX12_workOut_90 rfl ?_
  refine Eq_getR dX12_workOut_91 fl_X12_13 (ws_50 hW) rfl (wp_50_6 hW) ?_
  refine Eq_il dX12_workOut_94 rfl ?_
  refine Eq_ald dX12_workOut_96 (ws_52 hW) (by omega) (by omega) (by first | exact hc | exact hty | exact htx) ?_
  refine Eq_bp (v := nI 9) dX12_workOut_97 rfl ?_
  refine Et_ic_ne 125 dX12_workOut_99 rfl (by decide +kernel) ?_
  refine Eq_dk dX12_workOut_125 rfl (by decide) ?_
  refine Eam_nl (pc' := 128) (l' := [_, _, _, _, _, _]) rfl rfl ?_
  refine Eq_aln dX12_workOut_128 rfl ?_
  refine Eq_getR dX12_workOut_129 fl_X12_37 (ws_50 hW) rfl (wp_50_16 hW) ?_
  refine Eq_il dX12_workOut_132 rfl ?_
  refine Eq_ic (v := nI 1) dX12_workOut_134 rfl ?_
  first | refine Eq_sub dX12_workOut_135 (by omega) ?_ | refine Eam_x_pu dX12_workOut_135 rfl ?_
  refine Eq_aln dX12_workOut_136 rfl ?_
  refine Eq_getR dX12_workOut_137 fl_X12_13 (ws_50 hW) rfl (wp_50_6 hW) ?_
  refine Eq_il dX12_workOut_140 rfl ?_
  refine Eq_ald dX12_workOut_142 (ws_52 hW) (by omega) (by omega) (by first | exact hc | exact hty | exact htx) ?_
  refine Eq_aln dX12_workOut_143 rfl ?_
  refine Eq_getR dX12_workOut_144 fl_X12_37 (ws_50 hW) rfl (wp_50_16 hW) ?_
  refine Eq_il dX12_workOut_147 rfl ?_
  refine Eq_ic (v := nI 1) dX12_workOut_149 rfl ?_
  first | refine Eq_sub dX12_workOut_150 (by omega) ?_ | refine Eam_x_pu dX12_workOut_150 rfl ?_
  refine Eq_ald dX12_workOut_151 (ws_60 hW) (by omega) (by omega) (by first | exact hc | exact hty | exact htx) ?_
  refine Eam_x_pu dX12_workOut_152 rfl ?_
  refine Eq_aln dX12_workOut_153 rfl ?_
  refine Eq_getR dX12_workOut_154 fl_X12_37 (ws_50 hW) rfl (wp_50_16 hW) ?_
  refine Eq_il dX12_workOut_157 rfl ?_
  refine Eq_ald dX12_workOut_159 (ws_60 hW) (by omega) (by omega) (by first | exact hc | exact hty | exact htx) ?_
  refine Eam_x_pu dX12_workOut_160 rfl ?_
  refine Eq_S3 (N := m_X12_worked) dX12_workOut_161 lk_X12_207 mS_X12_worked (r_worked_10 hx hy) (by decide) (Nat.le_of_ble_eq_true rfl) (Nat.le_of_ble_eq_true rfl) ?_
  refine Eq_ast dX12_workOut_164 (ws_60 hW) (by omega) (by omega) ?_
  refine Eq_inc dX12_workOut_165 rfl (by decide) ?_
  refine Eam_nl (pc' := 168) (l' := [_, _, _, _, _, _]) rfl rfl ?_
  refine Eam_x_goto (tgt := 12) dX12_workOut_168 rfl ?_
  exact kk _ (Fx.wI (Or.inl (by decide))) ⟨wI_e0, hS.2.2.up (by omega)⟩
set_option maxHeartbeats 2000000 in
theorem r_tok11 {h : am_H} (hW : Wd h) {n f e i : Nat} (hn : n ≤ 4) (he : e ≤ 160) (hi : i < e) {st : List Int32} {x y : Int32} (hS : SM (am_i h 60) (y :: x :: st)) (hl : st.length + 1 < 80) (hx : x = 0 ∨ x = 1) (hy : y = 0 ∨ y = 1) (hc : am_i h 52 (340 * n + i) = nI 11) {P : Option Value → am_H → Prop} (kk : ∀ h2, Fx [60] [] h h2 → SM (am_i h2 60) (opv 11 x y :: st) → am_E 3 m_X12_workOut 12 [some (.ref 50), some (.int (nI n)), some (.int (nI f)), some (.int (nI e)), some (.int (nI (st.length + 1))), some (.int (nI (340 * n + i + 1)))] [] h2 P) : am_E 3 m_X12_workOut 12 [some (.ref 50), some (.int (nI n)), some (.int (nI f)), some (.int (nI e)), some (.int (nI (st.length + 1 + 1))), some (.int (nI (340 * n + i)))] [] h P := by
  have hty : am_i h 60 (st.length + 1) = y := hS.1
  have htx : am_i h 60 (st.length + 1 - 1) = x := hS.2.1
  refine Eq_il dX12_workOut_12 rfl ?_
  refine Eq_sp (v := nI 340) dX12_workOut_14 rfl ?_
  refine Eq_iln dX12_workOut_17 rfl ?_
  first | refine Eq_mul dX12_workOut_18 ?_ | refine Eam_x_pu dX12_workOut_18 rfl ?_
  refine Eq_iln dX12_workOut_19 rfl ?_
  first | refine Eq_add dX12_workOut_20 ?_ | refine Eam_x_pu dX12_workOut_20 rfl ?_
  refine Ef_ic_ge dX12_workOut_21 (tgt := 171) rfl (by exact nI_ge (by omega) (by omega)) ?_
  refine Eq_aln dX12_workOut_24 rfl ?_
  refine Eq_getR dX12_workOut_25 fl_X12_13 (ws_50 hW) rfl (wp_50_6 hW) ?_
  refine Eq_il dX12_workOut_28 rfl ?_
  refine Eq_ald dX12_workOut_30 (ws_52 hW) (by omega) (by omega) (by first | exact hc | exact hty | exact htx) ?_
  refine Ef_if_eq dX12_workOut_31 (tgt := 45) rfl (by decide +kernel) ?_
  refine Eq_aln dX12_workOut_34 rfl ?_
  refine Eq_getR dX12_workOut_35 fl_X12_13 (ws_50 hW) rfl (wp_50_6 hW) ?_
  refine Eq_il dX12_workOut_38 rfl ?_
  refine Eq_ald dX12_workOut_40 (ws_52 hW) (by omega) (by omega) (by first | exact hc | exact hty | exact htx) ?_
  refine Eq_ic (v := nI 1) dX12_workOut_41 rfl ?_
  refine Et_ic_ne 90 dX12_workOut_42 rfl (by decide +kernel) ?_
  refine Eq_aln dX12_workOut_90 rfl ?_
  refine Eq_getR dX12_workOut_91 fl_X12_13 (ws_50 hW) rfl (wp_50_6 hW) ?_
  refine Eq_il dX12_workOut_94 rfl ?_
  refine Eq_ald dX12_workOut_96 (ws_52 hW) (by omega) (by omega) (by first | exact hc | exact hty | exact htx) ?_
  refine Eq_bp (v := nI 9) dX12_workOut_97 rfl ?_
  refine Et_ic_ne 125 dX12_workOut_99 rfl (by decide +kernel) ?_
  refine Eq_dk dX12_workOut_125 rfl (by decide) ?_
  refine Eam_nl (pc' := 128) (l' := [_, _, _, _, _, _]) rfl rfl ?_
  refine Eq_aln dX12_workOut_128 rfl ?_
  refine Eq_getR dX12_workOut_129 fl_X12_37 (ws_50 hW) rfl (wp_50_16 hW) ?_
  refine Eq_il dX12_workOut_132 rfl ?_
  refine Eq_ic (v := nI 1) dX12_workOut_134 rfl ?_
  first | refine Eq_sub dX12_workOut_135 (by omega) ?_ | refine Eam_x_pu dX12_workOut_135 rfl ?_
  refine Eq_aln dX12_workOut_136 rfl ?_
  refine Eq_getR dX12_workOut_137 fl_X12_13 (ws_50 hW) rfl (wp_50_6 hW) ?_
  refine Eq_il dX12_workOut_140 rfl ?_
  refine Eq_ald dX12_workOut_142 (ws_52 hW) (by omega) (by omega) (by first | exact hc | exact hty | exact htx) ?_
  refine Eq_aln dX12_workOut_143 rfl ?_
  refine Eq_getR dX12_workOut_144 fl_X12_37 (ws_50 hW) rfl (wp_50_16 hW) ?_
  refine Eq_il dX12_workOut_147 rfl ?_
  refine Eq_ic (v := nI 1) dX12_workOut_149 rfl ?_
  first | refine Eq_sub dX12_workOut_150 (by omega) ?_ | refine Eam_x_pu dX12_workOut_150 rfl ?_
  refine Eq_ald dX12_workOut_151 (ws_60 hW) (by omega) (by omega) (by first | exact hc | exact hty | exact htx) ?_
  refine Eam_x_pu dX12_workOut_152 rfl ?_
  refine Eq_aln dX12_workOut_153 rfl ?_
  refine Eq_getR dX12_workOut_154 fl_X12_37 (ws_50 hW) rfl (wp_50_16 hW) ?_
  refine Eq_il dX12_workOut_157 rfl ?_
  refine Eq_ald dX12_workOut_159 (ws_60 hW) (by omega) (by omega) (by first | exact hc | exact hty | exact htx) ?_
  refine Eam_x_pu dX12_workOut_160 rfl ?_
  refine Eq_S3 (N := m_X12_worked) dX12_workOut_161 lk_X12_207 mS_X12_worked (r_worked_11 hx hy) (by decide) (Nat.le_of_ble_eq_true rfl) (Nat.le_of_ble_eq_true rfl) ?_
  refine Eq_ast dX12_workOut_164 (ws_60 hW) (by omega) (by omega) ?_
  refine Eq_inc dX12_workOut_165 rfl (by decide) ?_
  refine Eam_nl (pc' := 168) (l' := [_, _, _, _, _, _]) rfl rfl ?_
  refine Eam_x_goto (tgt := 12) dX12_workOut_168 rfl ?_
  exact kk _ (Fx.wI (Or.inl (by decide))) ⟨wI_e0, hS.2.2.up (by omega)⟩
