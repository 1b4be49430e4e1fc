/-! the class's search: gains, hopes, judging -/
def WT (h : am_H) (hm : Option (List (Tks × Tks))) (n : Nat) (g : Bool) (F : Nat → Nat → Nat) : Prop := ∀ a b s, a < n → b < n → a ≠ b → (0 < s ∧ s < n ∨ s = 0 ∧ g = true) → am_i h 22 ((a * 7 + b) * 7 + s) = pwt hm F a b s
theorem neg_pI {hm : Option (List (Tks × Tks))} {F : Nat → Nat → Nat} {a b s : Nat} : -pwt hm F a b s = zI (-(pI hm F a b s)) := by
  rw [← zI_neg]
  unfold pI
  rw [zI_self]
theorem zI_0 : zI 0 = nI 0 := by decide +kernel
theorem zI_1 : zI 1 = nI 1 := by decide +kernel
theorem take_app {pre : List Nat} {m : Nat} : (pre ++ [m]).take pre.length = pre := by simp
theorem nd_ne {pre : List Nat} {m i : Nat} (hn : m ∉ pre) (hi : i < pre.length) : sl pre i ≠ m := fun z => hn (z ▸ sl_mem hi)
set_option maxHeartbeats 2000000 in
theorem c_gain0 {h : am_H} (hW : Wd h) {hm : Option (List (Tks × Tks))} {n : Nat} {g : Bool} {F : Nat → Nat → Nat} (hT : WT h hm n g F) {pre : List Nat} {m : Nat} (hp : ∀ x ∈ pre, x < n) (hl : pre.length < n) (hmn : m < n) (hnp : m ∉ pre) (hm7 : n ≤ 7) (hO : OR' h pre) : am_C 3 m_X0_gain [.ref 20, .int (nI 0), .int (nI pre.length), .int (nI (al F pre).length), .int (nI m)] h (some (.int (zI (gn hm g F 0 (pre ++ [m]) pre.length))), h) := by
  by_cases h0 : pre.length = 0
  · have e : gn hm g F 0 (pre ++ [m]) pre.length = 0 := by unfold gn; rw [if_pos rfl, if_pos h0]
    rw [e, zI_0]
    refine q_iln dX0_gain_0 rfl ?_
    refine f_if_ne dX0_gain_1 (tgt := 35) rfl (by rfl) ?_
    refine q_iln dX0_gain_4 rfl ?_
    refine t_if_le 33 dX0_gain_5 rfl (by rw [h0]; decide +kernel) ?_
    refine q_ic (v := nI 0) dX0_gain_33 rfl ?_
    refine q_ir dX0_gain_34 rfl ?_
    rfl
  · have e : gn hm g F 0 (pre ++ [m]) pre.length = -(pI hm F (sl pre (pre.length - 1)) m pre.length) := by
      unfold gn
      rw [if_pos rfl, if_neg h0, sl_last, sl_app (by omega)]
    rw [e, ← neg_pI]
    have ho := hO.2 (pre.length - 1) (by omega)
    have hx := hp _ (sl_mem (l := pre) (s := pre.length - 1) (by omega))
    have hv := hT (sl pre (pre.length - 1)) m pre.length hx hmn (nd_ne hnp (by omega)) (Or.inl ⟨by omega, hl⟩)
    refine q_iln dX0_gain_0 rfl ?_
    refine f_if_ne dX0_gain_1 (tgt := 35) rfl (by rfl) ?_
    refine q_iln dX0_gain_4 rfl ?_
    refine f_if_le dX0_gain_5 (tgt := 33) rfl (by exact fun z => h0 ((n_le0 (by omega)).mp z)) ?_
    refine q_iln dX0_gain_8 rfl ?_
    refine q_bp (v := nI 7) dX0_gain_9 rfl ?_
    refine f_ic_gt dX0_gain_11 (tgt := 33) rfl (by exact nI_nlt (by omega) (by omega)) ?_
    refine q_aln dX0_gain_14 rfl ?_
    refine q_aln dX0_gain_15 rfl ?_
    refine q_getR dX0_gain_16 fl_X0_34 (ws_20 hW) rfl (wp_20_5 hW) ?_
    refine q_iln dX0_gain_19 rfl ?_
    refine q_ic (v := nI 1) dX0_gain_20 rfl ?_
    first | refine q_sub dX0_gain_21 (by omega) ?_ | refine am_x_pu dX0_gain_21 rfl ?_
    refine q_ald dX0_gain_22 (ws_24 hW) (by omega) (by omega) ho ?_
    refine q_il dX0_gain_23 rfl ?_
    refine q_iln dX0_gain_25 rfl ?_
    refine q_V3 (N := m_X0_keptWorth) dX0_gain_26 lk_X0_156 mV_X0_keptWorth (c_keptWorth hW (by omega) (by omega) (by omega) hv) (by decide) (ws_20 hW) rfl (by decide) (Nat.le_of_ble_eq_true rfl) (Nat.le_of_ble_eq_true rfl) ?_
    refine am_x_pu dX0_gain_29 rfl ?_
    refine am_x_goto (tgt := 34) dX0_gain_30 rfl ?_
    refine q_ir dX0_gain_34 rfl ?_
    rfl
set_option maxHeartbeats 2000000 in
theorem c_gain12 {h : am_H} {n : Nat} {g : Bool} {F : Nat → Nat → Nat} (hW : Wd h) (hM : MB h n g F) {hm : Option (List (Tks × Tks))} {pre : List Nat} {m : Nat} (hp : ∀ x ∈ pre, x < n) (hl : pre.length < n) (hmn : m < n) (hnp : m ∉ pre) (hm7 : n ≤ 7) (hA : AR h (al F (pre ++ [m]))) {w : Nat} (hw : w = 1 ∨ w = 2) : am_C 3 m_X0_gain [.ref 20, .int (nI w), .int (nI pre.length), .int (nI (al F pre).length), .int (nI m)] h (some (.int (zI (gn hm g F w (pre ++ [m]) pre.length))), h) := by
  have hall : ∀ x ∈ al F (pre ++ [m]), x < n := fun x hx => by
    rcases List.mem_append.mp (al_mem hx).1 with z | z
    · exact hp x z
    · rw [List.mem_singleton.mp z]; exact hmn
  have hal := al_len (F := F) (l := pre)
  have w0 : ¬ w = 0 := by omega
  have w0n : ¬ nI w = 0 := fun z => w0 ((n_0 (by omega)).mp z)
  have ht : (pre ++ [m]).take pre.length = pre := take_app
  by_cases hd : F 3 m = 1
  · have e : gn hm g F w (pre ++ [m]) pre.length = 0 := by unfold gn; rw [if_neg w0, sl_last, if_pos hd]
    rw [e, zI_0]
    refine q_iln dX0_gain_0 rfl ?_
    refine t_if_ne 35 dX0_gain_1 rfl (by exact w0n) ?_
    refine q_aln dX0_gain_35 rfl ?_
    refine q_getR dX0_gain_36 fl_X0_9 (ws_20 hW) rfl (wp_20_0 hW) ?_
    refine q_il dX0_gain_39 rfl ?_
    refine q_V1 (N := m_X5_lives) dX0_gain_41 lk_X0_145 mV_X5_lives (c_lives hW hM hmn) (by decide) (ws_9 hW) rfl (by decide) (Nat.le_of_ble_eq_true rfl) (Nat.le_of_ble_eq_true rfl) ?_
    refine f_if_ne dX0_gain_44 (tgt := 49) rfl (by rw [if_neg (fun z => z hd)]; rfl) ?_
    refine q_ic (v := nI 0) dX0_gain_47 rfl ?_
    refine q_ir dX0_gain_48 rfl ?_
    rfl
  · have ha : al F (pre ++ [m]) = al F pre ++ [m] := by rw [al_app, if_neg hd]
    rcases hw with rfl | rfl
    · by_cases hl0 : (al F pre).length = 0
      · have e : gn hm g F 1 (pre ++ [m]) pre.length = 0 := by
          unfold gn
          rw [if_neg (by decide), sl_last, if_neg hd, if_neg (by decide), ht, if_neg (fun z => by have := z.1; omega)]
        rw [e, zI_0]
        refine q_iln dX0_gain_0 rfl ?_
        refine t_if_ne 35 dX0_gain_1 rfl (by exact zf1) ?_
        refine q_aln dX0_gain_35 rfl ?_
        refine q_getR dX0_gain_36 fl_X0_9 (ws_20 hW) rfl (wp_20_0 hW) ?_
        refine q_il dX0_gain_39 rfl ?_
        refine q_V1 (N := m_X5_lives) dX0_gain_41 lk_X0_145 mV_X5_lives (c_lives hW hM hmn) (by decide) (ws_9 hW) rfl (by decide) (Nat.le_of_ble_eq_true rfl) (Nat.le_of_ble_eq_true rfl) ?_
        refine t_if_ne 49 dX0_gain_44 rfl (by rw [if_pos hd]; exact zf1) ?_
        refine q_iln dX0_gain_49 rfl ?_
        refine q_ic (v := nI 2) dX0_gain_50 rfl ?_
        refine t_ic_ne 81 dX0_gain_51 rfl (by decide +kernel) ?_
        refine q_iln dX0_gain_81 rfl ?_
        refine t_if_le 115 dX0_gain_82 rfl (by rw [hl0]; decide +kernel) ?_
        refine q_ic (v := nI 0) dX0_gain_115 rfl ?_
        refine q_ir dX0_gain_116 rfl ?_
        rfl
      · have hv : am_i h 25 ((al F pre).length - 1) = nI (sl (al F pre) ((al F pre).length - 1)) := by
          rw [hA.2 _ (by rw [ha, List.length_append]; omega), ha, sl_app (by omega)]
        have hx : sl (al F pre) ((al F pre).length - 1) < n := hp _ (al_mem (sl_mem (l := al F pre) (by omega))).1
        by_cases hs : swl F (sl (al F pre) ((al F pre).length - 1)) m
        · have e : gn hm g F 1 (pre ++ [m]) pre.length = 0 := by
            unfold gn
            rw [if_neg (by decide), sl_last, if_neg hd, if_neg (by decide), ht, if_neg (fun z => z.2 hs)]
          rw [e, zI_0]
          refine q_iln dX0_gain_0 rfl ?_
          refine t_if_ne 35 dX0_gain_1 rfl (by exact zf1) ?_
          refine q_aln dX0_gain_35 rfl ?_
          refine q_getR dX0_gain_36 fl_X0_9 (ws_20 hW) rfl (wp_20_0 hW) ?_
          refine q_il dX0_gain_39 rfl ?_
          refine q_V1 (N := m_X5_lives) dX0_gain_41 lk_X0_145 mV_X5_lives (c_lives hW hM hmn) (by decide) (ws_9 hW) rfl (by decide) (Nat.le_of_ble_eq_true rfl) (Nat.le_of_ble_eq_true rfl) ?_
          refine t_if_ne 49 dX0_gain_44 rfl (by rw [if_pos hd]; exact zf1) ?_
          refine q_iln dX0_gain_49 rfl ?_
          refine q_ic (v := nI 2) dX0_gain_50 rfl ?_
          refine t_ic_ne 81 dX0_gain_51 rfl (by decide +kernel) ?_
          refine q_iln dX0_gain_81 rfl ?_
          refine f_if_le dX0_gain_82 (tgt := 115) rfl (by exact fun z => hl0 ((n_le0 (by omega)).mp z)) ?_
          refine q_iln dX0_gain_85 rfl ?_
          refine q_bp (v := nI 7) dX0_gain_86 rfl ?_
          refine f_ic_gt dX0_gain_88 (tgt := 115) rfl (by exact nI_nlt (by omega) (by omega)) ?_
          refine q_aln dX0_gain_91 rfl ?_
          refine q_getR dX0_gain_92 fl_X0_9 (ws_20 hW) rfl (wp_20_0 hW) ?_
          refine q_aln dX0_gain_95 rfl ?_
          refine q_getR dX0_gain_96 fl_X0_37 (ws_20 hW) rfl (wp_20_6 hW) ?_
          refine q_iln dX0_gain_99 rfl ?_
          refine q_ic (v := nI 1) dX0_gain_100 rfl ?_
          first | refine q_sub dX0_gain_101 (by omega) ?_ | refine am_x_pu dX0_gain_101 rfl ?_
          refine q_ald dX0_gain_102 (ws_25 hW) (by omega) (by omega) hv ?_
          refine q_il dX0_gain_103 rfl ?_
          refine q_V2 (N := m_X5_swallows) dX0_gain_105 lk_X0_162 mV_X5_swallows (c_swallows hW hM hx hmn) (by decide) (ws_9 hW) rfl (by decide) (Nat.le_of_ble_eq_true rfl) (Nat.le_of_ble_eq_true rfl) ?_
          refine t_if_ne 115 dX0_gain_108 rfl (by rw [if_pos hs]; exact zf1) ?_
          refine q_ic (v := nI 0) dX0_gain_115 rfl ?_
          refine q_ir dX0_gain_116 rfl ?_
          rfl
        · have e : gn hm g F 1 (pre ++ [m]) pre.length = 1 := by
            unfold gn
            rw [if_neg (by decide), sl_last, if_neg hd, if_neg (by decide), ht, if_pos ⟨by omega, hs⟩]
          rw [e, zI_1]
          refine q_iln dX0_gain_0 rfl ?_
          refine t_if_ne 35 dX0_gain_1 rfl (by exact zf1) ?_
          refine q_aln dX0_gain_35 rfl ?_
          refine q_getR dX0_gain_36 fl_X0_9 (ws_20 hW) rfl (wp_20_0 hW) ?_
          refine q_il dX0_gain_39 rfl ?_
          refine q_V1 (N := m_X5_lives) dX0_gain_41 lk_X0_145 mV_X5_lives (c_lives hW hM hmn) (by decide) (ws_9 hW) rfl (by decide) (Nat.le_of_ble_eq_true rfl) (Nat.le_of_ble_eq_true rfl) ?_
          refine t_if_ne 49 dX0_gain_44 rfl (by rw [if_pos hd]; exact zf1) ?_
          refine q_iln dX0_gain_49 rfl ?_
          refine q_ic (v := nI 2) dX0_gain_50 rfl ?_
          refine t_ic_ne 81 dX0_gain_51 rfl (by decide +kernel) ?_
          refine q_iln dX0_gain_81 rfl ?_
          refine f_if_le dX0_gain_82 (tgt := 115) rfl (by exact fun z => hl0 ((n_le0 (by omega)).mp z)) ?_
          refine q_iln dX0_gain_85 rfl ?_
          refine q_bp (v := nI 7) dX0_gain_86 rfl ?_
          refine f_ic_gt dX0_gain_88 (tgt := 115) rfl (by exact nI_nlt (by omega) (by omega)) ?_
          refine q_aln dX0_gain_91 rfl ?_
          refine q_getR dX0_gain_92 fl_X0_9 (ws_20 hW) rfl (wp_20_0 hW) ?_
          refine q_aln dX0_gain_95 rfl ?_
          refine q_getR dX0_gain_96 fl_X0_37 (ws_20 hW) rfl (wp_20_6 hW) ?_
          refine q_iln dX0_gain_99 rfl ?_
          refine q_ic (v := nI 1) dX0_gain_100 rfl ?_
          first | refine q_sub dX0_gain_101 (by omega) ?_ | refine am_x_pu dX0_gain_101 rfl ?_
          refine q_ald dX0_gain_102 (ws_25 hW) (by omega) (by omega) hv ?_
          refine q_il dX0_gain_103 rfl ?_
          refine q_V2 (N := m_X5_swallows) dX0_gain_105 lk_X0_162 mV_X5_swallows (c_swallows hW hM hx hmn) (by decide) (ws_9 hW) rfl (by decide) (Nat.le_of_ble_eq_true rfl) (Nat.le_of_ble_eq_true rfl) ?_
          refine f_if_ne dX0_gain_108 (tgt := 115) rfl (by rw [if_neg hs]; rfl) ?_
          refine q_ic (v := nI 1) dX0_gain_111 rfl ?_
          refine am_x_goto (tgt := 116) dX0_gain_112 rfl ?_
          refine q_ir dX0_gain_116 rfl ?_
          rfl
    · by_cases hm0 : m = 0
      · cases hg : g with
        | false =>
          have hgz : am_i h 9 1 = nI 0 := by rw [hM.2.1, hg]; rfl
          rw [hg] at hM
          have hr := rs_le (F := F) (g := false) (a := al F pre ++ [m])
          have e : gn hm false F 2 (pre ++ [m]) pre.length = (rs F false (al F pre ++ [m]) : Int) := by
            unfold gn
            rw [if_neg (by decide), sl_last, if_neg hd, if_pos rfl, ht, if_pos ⟨hm0, rfl⟩]
          have hcr : am_C 2 m_X0_roundScore [.ref 20, .int (nI ((al F pre).length + 1))] h (some (.int (nI (rs F false (al F pre ++ [m])))), h) := by
            have z := c_roundScore hW hM (a := al F pre ++ [m]) (by rw [← ha]; exact hA) (by rw [← ha]; exact hall)
            rw [List.length_append] at z
            exact z
          rw [e, zI_n (by omega)]
          refine q_iln dX0_gain_0 rfl ?_
          refine t_if_ne 35 dX0_gain_1 rfl (by decide +kernel) ?_
          refine q_aln dX0_gain_35 rfl ?_
          refine q_getR dX0_gain_36 fl_X0_9 (ws_20 hW) rfl (wp_20_0 hW) ?_
          refine q_il dX0_gain_39 rfl ?_
          refine q_V1 (N := m_X5_lives) dX0_gain_41 lk_X0_145 mV_X5_lives (c_lives hW hM hmn) (by decide) (ws_9 hW) rfl (by decide) (Nat.le_of_ble_eq_true rfl) (Nat.le_of_ble_eq_true rfl) ?_
          refine t_if_ne 49 dX0_gain_44 rfl (by rw [if_pos hd]; exact zf1) ?_
          refine q_iln dX0_gain_49 rfl ?_
          refine q_ic (v := nI 2) dX0_gain_50 rfl ?_
          refine f_ic_ne dX0_gain_51 (tgt := 81) rfl (by rfl) ?_
          refine q_il dX0_gain_54 rfl ?_
          refine f_if_ne dX0_gain_56 (tgt := 79) rfl (by rw [hm0]; rfl) ?_
          refine q_aln dX0_gain_59 rfl ?_
          refine q_getR dX0_gain_60 fl_X0_9 (ws_20 hW) rfl (wp_20_0 hW) ?_
          refine q_getI dX0_gain_63 fl_X0_59 (ws_9 hW) rfl hgz ?_
          refine f_if_ne dX0_gain_66 (tgt := 79) rfl (by rfl) ?_
          refine q_aln dX0_gain_69 rfl ?_
          refine q_iln dX0_gain_70 rfl ?_
          refine q_ic (v := nI 1) dX0_gain_71 rfl ?_
          first | refine q_add dX0_gain_72 ?_ | refine am_x_pu dX0_gain_72 rfl ?_
          refine q_V1 (N := m_X0_roundScore) dX0_gain_73 lk_X0_159 mV_X0_roundScore (hcr) (by decide) (ws_20 hW) rfl (by decide) (Nat.le_of_ble_eq_true rfl) (Nat.le_of_ble_eq_true rfl) ?_
          refine am_x_goto (tgt := 80) dX0_gain_76 rfl ?_
          refine q_ir dX0_gain_80 rfl ?_
          rfl
        | true =>
          have hgo : am_i h 9 1 = nI 1 := by rw [hM.2.1, hg]; rfl
          have e : gn hm true F 2 (pre ++ [m]) pre.length = 0 := by
            unfold gn
            rw [if_neg (by decide), sl_last, if_neg hd, if_pos rfl, if_neg (fun z => by have := z.2; cases this)]
          rw [e, zI_0]
          refine q_iln dX0_gain_0 rfl ?_
          refine t_if_ne 35 dX0_gain_1 rfl (by decide +kernel) ?_
          refine q_aln dX0_gain_35 rfl ?_
          refine q_getR dX0_gain_36 fl_X0_9 (ws_20 hW) rfl (wp_20_0 hW) ?_
          refine q_il dX0_gain_39 rfl ?_
          refine q_V1 (N := m_X5_lives) dX0_gain_41 lk_X0_145 mV_X5_lives (c_lives hW hM hmn) (by decide) (ws_9 hW) rfl (by decide) (Nat.le_of_ble_eq_true rfl) (Nat.le_of_ble_eq_true rfl) ?_
          refine t_if_ne 49 dX0_gain_44 rfl (by rw [if_pos hd]; exact zf1) ?_
          refine q_iln dX0_gain_49 rfl ?_
          refine q_ic (v := nI 2) dX0_gain_50 rfl ?_
          refine f_ic_ne dX0_gain_51 (tgt := 81) rfl (by rfl) ?_
          refine q_il dX0_gain_54 rfl ?_
          refine f_if_ne dX0_gain_56 (tgt := 79) rfl (by rw [hm0]; rfl) ?_
          refine q_aln dX0_gain_59 rfl ?_
          refine q_getR dX0_gain_60 fl_X0_9 (ws_20 hW) rfl (wp_20_0 hW) ?_
          refine q_getI dX0_gain_63 fl_X0_59 (ws_9 hW) rfl hgo ?_
          refine t_if_ne 79 dX0_gain_66 rfl (by exact zf1) ?_
          refine q_ic (v := nI 0) dX0_gain_79 rfl ?_
          refine q_ir dX0_gain_80 rfl ?_
          rfl
      · have e : gn hm g F 2 (pre ++ [m]) pre.length = 0 := by
          unfold gn
          rw [if_neg (by decide), sl_last, if_neg hd, if_pos rfl, if_neg (fun z => hm0 z.1)]
        rw [e, zI_0]
        refine q_iln dX0_gain_0 rfl ?_
        refine t_if_ne 35 dX0_gain_1 rfl (by decide +kernel) ?_
        refine q_aln dX0_gain_35 rfl ?_
        refine q_getR dX0_gain_36 fl_X0_9 (ws_20 hW) rfl (wp_20_0 hW) ?_
        refine q_il dX0_gain_39 rfl ?_
        refine q_V1 (N := m_X5_lives) dX0_gain_41 lk_X0_145 mV_X5_lives (c_lives hW hM hmn) (by decide) (ws_9 hW) rfl (by decide) (Nat.le_of_ble_eq_true rfl) (Nat.le_of_ble_eq_true rfl) ?_
        refine t_if_ne 49 dX0_gain_44 rfl (by rw [if_pos hd]; exact zf1) ?_
        refine q_iln dX0_gain_49 rfl ?_
        refine q_ic (v := nI 2) dX0_gain_50 rfl ?_
        refine f_ic_ne dX0_gain_51 (tgt := 81) rfl (by rfl) ?_
        refine q_il dX0_gain_54 rfl ?_
        refine t_if_ne 79 dX0_gain_56 rfl (by exact fun z => hm0 ((n_0 (by omega)).mp z)) ?_
        refine q_ic (v := nI 0) dX0_gain_79 rfl ?_
        refine q_ir dX0_gain_80 rfl ?_
        rfl
set_option maxHeartbeats 2000000 in
theorem c_lastGain {h : am_H} {n : Nat} {g : Bool} {F : Nat → Nat → Nat} (hW : Wd h) (hM : MB h n g F) {hm : Option (List (Tks × Tks))} {l : List Nat} (hnd : l.Nodup) (hp : ∀ x ∈ l, x < n) (hl : l.length = n) (h2 : 2 ≤ n) (hm7 : n ≤ 7) (hO : OR' h l) (hA : AR h (al F l)) {w : Nat} (hw : w < 3) (hT : w = 0 → WT h hm n g F) : am_C 3 m_X0_lastGain [.ref 20, .int (nI w), .int (nI n), .int (nI (al F l).length)] h (some (.int (zI (la hm n g F w l))), h) := by
  have hal := al_len (F := F) (l := l)
  have hall : ∀ x ∈ al F l, x < n := fun x hx => hp x (al_mem hx).1
  cases hg : g with
  | false =>
    have hgz : am_i h 9 1 = nI 0 := by rw [hM.2.1, hg]; rfl
    have e : la hm n false F w l = 0 := if_pos rfl
    rw [e, zI_0]
    refine q_aln dX0_lastGain_0 rfl ?_
    refine q_getR dX0_lastGain_1 fl_X0_9 (ws_20 hW) rfl (wp_20_0 hW) ?_
    refine q_getI dX0_lastGain_4 fl_X0_59 (ws_9 hW) rfl hgz ?_
    refine t_if_eq 21 dX0_lastGain_7 rfl (by rfl) ?_
    refine q_ic (v := nI 0) dX0_lastGain_21 rfl ?_
    refine q_ir dX0_lastGain_22 rfl ?_
    rfl
  | true =>
    have hgo : am_i h 9 1 = nI 1 := by rw [hM.2.1, hg]; rfl
    rw [hg] at hM hT
    rcases (show w = 0 ∨ w = 1 ∨ w = 2 by omega) with rfl | rfl | rfl
    · have e : la hm n true F 0 l = -(pI hm F (sl l (n - 1)) (sl l 0) 0) := by
        unfold la
        rw [if_neg (by decide), if_neg (by decide), if_pos rfl]
      rw [e, ← neg_pI]
      have o1 := hO.2 (n - 1) (by omega)
      have o0 := hO.2 0 (by omega)
      have x1 := hp _ (sl_mem (l := l) (s := n - 1) (by omega))
      have x0 := hp _ (sl_mem (l := l) (s := 0) (by omega))
      have hne : sl l (n - 1) ≠ sl l 0 := fun z => by
        have := (sl_pm hnd hp hl).inj (a := n - 1) (b := 0) (by omega) (by omega) z
        omega
      have hv := hT rfl (sl l (n - 1)) (sl l 0) 0 x1 x0 hne (Or.inr ⟨rfl, rfl⟩)
      refine q_aln dX0_lastGain_0 rfl ?_
      refine q_getR dX0_lastGain_1 fl_X0_9 (ws_20 hW) rfl (wp_20_0 hW) ?_
      refine q_getI dX0_lastGain_4 fl_X0_59 (ws_9 hW) rfl hgo ?_
      refine f_if_eq dX0_lastGain_7 (tgt := 21) rfl (by exact zf1) ?_
      refine q_iln dX0_lastGain_10 rfl ?_
      refine q_ic (v := nI 1) dX0_lastGain_11 rfl ?_
      refine f_ic_lt dX0_lastGain_12 (tgt := 21) rfl (by exact nI_nlt (by omega) (by omega)) ?_
      refine q_iln dX0_lastGain_15 rfl ?_
      refine q_bp (v := nI 7) dX0_lastGain_16 rfl ?_
      refine t_ic_le 23 dX0_lastGain_18 rfl (by exact nI_le (by omega) (by omega)) ?_
      refine q_iln dX0_lastGain_23 rfl ?_
      refine q_ic (v := nI 2) dX0_lastGain_24 rfl ?_
      refine t_ic_ne 34 dX0_lastGain_25 rfl (by decide +kernel) ?_
      refine q_iln dX0_lastGain_34 rfl ?_
      refine f_if_ne dX0_lastGain_35 (tgt := 59) rfl (by rfl) ?_
      refine q_aln dX0_lastGain_38 rfl ?_
      refine q_aln dX0_lastGain_39 rfl ?_
      refine q_getR dX0_lastGain_40 fl_X0_34 (ws_20 hW) rfl (wp_20_5 hW) ?_
      refine q_iln dX0_lastGain_43 rfl ?_
      refine q_ic (v := nI 1) dX0_lastGain_44 rfl ?_
      first | refine q_sub dX0_lastGain_45 (by omega) ?_ | refine am_x_pu dX0_lastGain_45 rfl ?_
      refine q_ald dX0_lastGain_46 (ws_24 hW) (by omega) (by omega) (by first | exact o1 | exact o0) ?_
      refine q_aln dX0_lastGain_47 rfl ?_
      refine q_getR dX0_lastGain_48 fl_X0_34 (ws_20 hW) rfl (wp_20_5 hW) ?_
      refine q_ic (v := nI 0) dX0_lastGain_51 rfl ?_
      refine q_ald dX0_lastGain_52 (ws_24 hW) (by omega) (by omega) (by first | exact o1 | exact o0) ?_
      refine q_ic (v := nI 0) dX0_lastGain_53 rfl ?_
      refine q_V3 (N := m_X0_keptWorth) dX0_lastGain_54 lk_X0_156 mV_X0_keptWorth (c_keptWorth hW (by omega) (by omega) (by omega) hv) (by decide) (ws_20 hW) rfl (by decide) (Nat.le_of_ble_eq_true rfl) (Nat.le_of_ble_eq_true rfl) ?_
      refine am_x_pu dX0_lastGain_57 rfl ?_
      refine q_ir dX0_lastGain_58 rfl ?_
      rfl
    · by_cases hs2 : (al F l).length < 2
      · have e : la hm n true F 1 l = 0 := by
          unfold la
          rw [if_neg (by decide), if_neg (by decide), if_neg (by decide), if_pos hs2]
        rw [e, zI_0]
        refine q_aln dX0_lastGain_0 rfl ?_
        refine q_getR dX0_lastGain_1 fl_X0_9 (ws_20 hW) rfl (wp_20_0 hW) ?_
        refine q_getI dX0_lastGain_4 fl_X0_59 (ws_9 hW) rfl hgo ?_
        refine f_if_eq dX0_lastGain_7 (tgt := 21) rfl (by exact zf1) ?_
        refine q_iln dX0_lastGain_10 rfl ?_
        refine q_ic (v := nI 1) dX0_lastGain_11 rfl ?_
        refine f_ic_lt dX0_lastGain_12 (tgt := 21) rfl (by exact nI_nlt (by omega) (by omega)) ?_
        refine q_iln dX0_lastGain_15 rfl ?_
        refine q_bp (v := nI 7) dX0_lastGain_16 rfl ?_
        refine t_ic_le 23 dX0_lastGain_18 rfl (by exact nI_le (by omega) (by omega)) ?_
        refine q_iln dX0_lastGain_23 rfl ?_
        refine q_ic (v := nI 2) dX0_lastGain_24 rfl ?_
        refine t_ic_ne 34 dX0_lastGain_25 rfl (by decide +kernel) ?_
        refine q_iln dX0_lastGain_34 rfl ?_
        refine t_if_ne 59 dX0_lastGain_35 rfl (by exact zf1) ?_
        refine q_iln dX0_lastGain_59 rfl ?_
        refine q_ic (v := nI 2) dX0_lastGain_60 rfl ?_
        refine t_ic_lt 70 dX0_lastGain_61 rfl (by exact nI_lt (by omega) (by omega)) ?_
        refine q_ic (v := nI 0) dX0_lastGain_70 rfl ?_
        refine q_ir dX0_lastGain_71 rfl ?_
        rfl
      · have a1 := hA.2 ((al F l).length - 1) (by omega)
        have a0 := hA.2 0 (by omega)
        have x1 := hall _ (sl_mem (l := al F l) (s := (al F l).length - 1) (by omega))
        have x0 := hall _ (sl_mem (l := al F l) (s := 0) (by omega))
        by_cases hs : swl F (sl (al F l) ((al F l).length - 1)) (sl (al F l) 0)
        · have e : la hm n true F 1 l = 0 := by
            unfold la
            rw [if_neg (by decide), if_neg (by decide), if_neg (by decide), if_neg hs2, if_pos hs]
          rw [e, zI_0]
          refine q_aln dX0_lastGain_0 rfl ?_
          refine q_getR dX0_lastGain_1 fl_X0_9 (ws_20 hW) rfl (wp_20_0 hW) ?_
          refine q_getI dX0_lastGain_4 fl_X0_59 (ws_9 hW) rfl hgo ?_
          refine f_if_eq dX0_lastGain_7 (tgt := 21) rfl (by exact zf1) ?_
          refine q_iln dX0_lastGain_10 rfl ?_
          refine q_ic (v := nI 1) dX0_lastGain_11 rfl ?_
          refine f_ic_lt dX0_lastGain_12 (tgt := 21) rfl (by exact nI_nlt (by omega) (by omega)) ?_
          refine q_iln dX0_lastGain_15 rfl ?_
          refine q_bp (v := nI 7) dX0_lastGain_16 rfl ?_
          refine t_ic_le 23 dX0_lastGain_18 rfl (by exact nI_le (by omega) (by omega)) ?_
          refine q_iln dX0_lastGain_23 rfl ?_
          refine q_ic (v := nI 2) dX0_lastGain_24 rfl ?_
          refine t_ic_ne 34 dX0_lastGain_25 rfl (by decide +kernel) ?_
          refine q_iln dX0_lastGain_34 rfl ?_
          refine t_if_ne 59 dX0_lastGain_35 rfl (by exact zf1) ?_
          refine q_iln dX0_lastGain_59 rfl ?_
          refine q_ic (v := nI 2) dX0_lastGain_60 rfl ?_
          refine f_ic_lt dX0_lastGain_61 (tgt := 70) rfl (by exact nI_nlt (by omega) (by omega)) ?_
          refine q_iln dX0_lastGain_64 rfl ?_
          refine q_bp (v := nI 7) dX0_lastGain_65 rfl ?_
          refine t_ic_le 72 dX0_lastGain_67 rfl (by exact nI_le (by omega) (by omega)) ?_
          refine q_aln dX0_lastGain_72 rfl ?_
          refine q_getR dX0_lastGain_73 fl_X0_9 (ws_20 hW) rfl (wp_20_0 hW) ?_
          refine q_aln dX0_lastGain_76 rfl ?_
          refine q_getR dX0_lastGain_77 fl_X0_37 (ws_20 hW) rfl (wp_20_6 hW) ?_
          refine q_iln dX0_lastGain_80 rfl ?_
          refine q_ic (v := nI 1) dX0_lastGain_81 rfl ?_
          first | refine q_sub dX0_lastGain_82 (by omega) ?_ | refine am_x_pu dX0_lastGain_82 rfl ?_
          refine q_ald dX0_lastGain_83 (ws_25 hW) (by omega) (by omega) (by first | exact a1 | exact a0) ?_
          refine q_aln dX0_lastGain_84 rfl ?_
          refine q_getR dX0_lastGain_85 fl_X0_37 (ws_20 hW) rfl (wp_20_6 hW) ?_
          refine q_ic (v := nI 0) dX0_lastGain_88 rfl ?_
          refine q_ald dX0_lastGain_89 (ws_25 hW) (by omega) (by omega) (by first | exact a1 | exact a0) ?_
          refine q_V2 (N := m_X5_swallows) dX0_lastGain_90 lk_X0_162 mV_X5_swallows (c_swallows hW hM x1 x0) (by decide) (ws_9 hW) rfl (by decide) (Nat.le_of_ble_eq_true rfl) (Nat.le_of_ble_eq_true rfl) ?_
          refine f_if_eq dX0_lastGain_93 (tgt := 100) rfl (by rw [if_pos hs]; exact zf1) ?_
          refine q_ic (v := nI 0) dX0_lastGain_96 rfl ?_
          refine am_x_goto (tgt := 101) dX0_lastGain_97 rfl ?_
          refine q_ir dX0_lastGain_101 rfl ?_
          rfl
        · have e : la hm n true F 1 l = 1 := by
            unfold la
            rw [if_neg (by decide), if_neg (by decide), if_neg (by decide), if_neg hs2, if_neg hs]
          rw [e, zI_1]
          refine q_aln dX0_lastGain_0 rfl ?_
          refine q_getR dX0_lastGain_1 fl_X0_9 (ws_20 hW) rfl (wp_20_0 hW) ?_
          refine q_getI dX0_lastGain_4 fl_X0_59 (ws_9 hW) rfl hgo ?_
          refine f_if_eq dX0_lastGain_7 (tgt := 21) rfl (by exact zf1) ?_
          refine q_iln dX0_lastGain_10 rfl ?_
          refine q_ic (v := nI 1) dX0_lastGain_11 rfl ?_
          refine f_ic_lt dX0_lastGain_12 (tgt := 21) rfl (by exact nI_nlt (by omega) (by omega)) ?_
          refine q_iln dX0_lastGain_15 rfl ?_
          refine q_bp (v := nI 7) dX0_lastGain_16 rfl ?_
          refine t_ic_le 23 dX0_lastGain_18 rfl (by exact nI_le (by omega) (by omega)) ?_
          refine q_iln dX0_lastGain_23 rfl ?_
          refine q_ic (v := nI 2) dX0_lastGain_24 rfl ?_
          refine t_ic_ne 34 dX0_lastGain_25 rfl (by decide +kernel) ?_
          refine q_iln dX0_lastGain_34 rfl ?_
          refine t_if_ne 59 dX0_lastGain_35 rfl (by exact zf1) ?_
          refine q_iln dX0_lastGain_59 rfl ?_
          refine q_ic (v := nI 2) dX0_lastGain_60 rfl ?_
          refine f_ic_lt dX0_lastGain_61 (tgt := 70) rfl (by exact nI_nlt (by omega) (by omega)) ?_
          refine q_iln dX0_lastGain_64 rfl ?_
          refine q_bp (v := nI 7) dX0_lastGain_65 rfl ?_
          refine t_ic_le 72 dX0_lastGain_67 rfl (by exact nI_le (by omega) (by omega)) ?_
          refine q_aln dX0_lastGain_72 rfl ?_
          refine q_getR dX0_lastGain_73 fl_X0_9 (ws_20 hW) rfl (wp_20_0 hW) ?_
          refine q_aln dX0_lastGain_76 rfl ?_
          refine q_getR dX0_lastGain_77 fl_X0_37 (ws_20 hW) rfl (wp_20_6 hW) ?_
          refine q_iln dX0_lastGain_80 rfl ?_
          refine q_ic (v := nI 1) dX0_lastGain_81 rfl ?_
          first | refine q_sub dX0_lastGain_82 (by omega) ?_ | refine am_x_pu dX0_lastGain_82 rfl ?_
          refine q_ald dX0_lastGain_83 (ws_25 hW) (by omega) (by omega) (by first | exact a1 | exact a0) ?_
          refine q_aln dX0_lastGain_84 rfl ?_
          refine q_getR dX0_lastGain_85 fl_X0_37 (ws_20 hW) rfl (wp_20_6 hW) ?_
          refine q_ic (v := nI 0) dX0_lastGain_88 rfl ?_
          refine q_ald dX0_lastGain_89 (ws_25 hW) (by omega) (by omega) (by first | exact a1 | exact a0) ?_
          refine q_V2 (N := m_X5_swallows) dX0_lastGain_90 lk_X0_162 mV_X5_swallows (c_swallows hW hM x1 x0) (by decide) (ws_9 hW) rfl (by decide) (Nat.le_of_ble_eq_true rfl) (Nat.le_of_ble_eq_true rfl) ?_
          refine t_if_eq 100 dX0_lastGain_93 rfl (by rw [if_neg hs]; rfl) ?_
          refine q_ic (v := nI 1) dX0_lastGain_100 rfl ?_
          refine q_ir dX0_lastGain_101 rfl ?_
          rfl
    · have hr := rs_le (F := F) (g := true) (a := al F l)
      have e : la hm n true F 2 l = (rs F true (al F l) : Int) := by
        unfold la
        rw [if_neg (by decide), if_pos rfl]
      rw [e, zI_n (by omega)]
      refine q_aln dX0_lastGain_0 rfl ?_
      refine q_getR dX0_lastGain_1 fl_X0_9 (ws_20 hW) rfl (wp_20_0 hW) ?_
      refine q_getI dX0_lastGain_4 fl_X0_59 (ws_9 hW) rfl hgo ?_
      refine f_if_eq dX0_lastGain_7 (tgt := 21) rfl (by exact zf1) ?_
      refine q_iln dX0_lastGain_10 rfl ?_
      refine q_ic (v := nI 1) dX0_lastGain_11 rfl ?_
      refine f_ic_lt dX0_lastGain_12 (tgt := 21) rfl (by exact nI_nlt (by omega) (by omega)) ?_
      refine q_iln dX0_lastGain_15 rfl ?_
      refine q_bp (v := nI 7) dX0_lastGain_16 rfl ?_
      refine t_ic_le 23 dX0_lastGain_18 rfl (by exact nI_le (by omega) (by omega)) ?_
      refine q_iln dX0_lastGain_23 rfl ?_
      refine q_ic (v := nI 2) dX0_lastGain_24 rfl ?_
      refine f_ic_ne dX0_lastGain_25 (tgt := 34) rfl (by rfl) ?_
      refine q_aln dX0_lastGain_28 rfl ?_
      refine q_iln dX0_lastGain_29 rfl ?_
      refine q_V1 (N := m_X0_roundScore) dX0_lastGain_30 lk_X0_159 mV_X0_roundScore (c_roundScore hW hM hA hall) (by decide) (ws_20 hW) rfl (by decide) (Nat.le_of_ble_eq_true rfl) (Nat.le_of_ble_eq_true rfl) ?_
      refine q_ir dX0_lastGain_33 rfl ?_
      rfl
