theorem roV_1 {n : Nat} {g : Bool} {F : Nat → Nat → Nat} {S T : Nat → Nat} {x1 x2 x3 : Int32} (h : lvs n F x1 = 0) : roV n g F S T x1 x2 x3 = -1 := by
  unfold lvs at h
  unfold roV
  cases hr : rg x1 n with
  | none => rfl
  | some m =>
    rw [hr] at h
    dsimp only at h ⊢
    by_cases e : F 3 m = 1
    · rw [if_pos e]
    · rw [if_pos e] at h; cases h
theorem roV_2 {n : Nat} {g : Bool} {F : Nat → Nat → Nat} {S T : Nat → Nat} {x1 x2 x3 : Int32} (h : rg x2 8 = none) : roV n g F S T x1 x2 x3 = -1 := by
  unfold roV
  rw [h]
  split
  · rfl
  · split <;> rfl
theorem roV_3 {n : Nat} {g : Bool} {F : Nat → Nat → Nat} {S T : Nat → Nat} {x1 x2 x3 : Int32} (h : rg x3 3 = none) : roV n g F S T x1 x2 x3 = -1 := by
  unfold roV
  rw [h]
  split
  · rfl
  · split
    · rfl
    · split <;> rfl
theorem roV_s {n : Nat} {g : Bool} {F : Nat → Nat → Nat} {S T : Nat → Nat} {m k w : Nat} (hn : n ≤ 7) (hm : m < n) (hl : F 3 m ≠ 1) (hk : k < 8) (hw : w < 3) : roV n g F S T (nI m) (nI k) (nI w) = match rd n g F S T m k with
    | none => -1
    | some q => if w = 0 then lN (T q.1) else if w = 1 then lN q.2.1 else lN q.2.2 := by
  unfold roV
  rw [rg_nI hm (by omega), rg_nI hk (by omega), rg_nI hw (by omega)]
  dsimp only
  rw [if_neg hl]
  cases rd n g F S T m k <;> rfl
theorem lvs_1 {n : Nat} {F : Nat → Nat → Nat} {x : Int32} (h : ¬ lvs n F x = 0) : ∃ m, rg x n = some m ∧ F 3 m ≠ 1 ∧ lvs n F x = 1 := by
  unfold lvs at h ⊢
  cases hr : rg x n with
  | none => rw [hr] at h; exact absurd rfl h
  | some m =>
    rw [hr] at h
    refine ⟨m, rfl, ?_, ?_⟩
    · intro e; exact h (if_neg (fun z => z e))
    · by_cases e : F 3 m = 1
      · exact absurd (if_neg (fun z => z e)) h
      · exact if_pos e
theorem lvs_le {n : Nat} {F : Nat → Nat → Nat} {x : Int32} : lvs n F x ≤ 1 := by
  unfold lvs
  split
  · omega
  · split <;> omega
set_option maxHeartbeats 2000000 in
theorem c_wordOf_lp {h : am_H} {n : Nat} {g : Bool} {F : Nat → Nat → Nat} (hW : Wd h) (hM : MB h n g F) {S T : Nat → Nat} (hS : SB 11 12 13 h n S T) {m0 st w : Nat} (h0 : m0 < n) (hst : st < 8) (hw : w < 3) : ∀ k j m mi pa (x1 x12 x13 : Option Value), j + k = st → rd n g F S T m0 j = some (m, mi, pa) → am_Sem 3 m_X8_wordOf 15 [some (.ref 14), x1, some (.int (nI st)), some (.int (nI w)), some (.int (nI m)), some (.long (lN mi)), none, some (.long (lN pa)), none, some (.long (lN (100 ^ j))), none, some (.int (nI j)), x12, x13] [] h (some (.long (match rd n g F S T m0 st with
    | none => -1
    | some q => if w = 0 then lN (T q.1) else if w = 1 then lN q.2.1 else lN q.2.2)), h) := by
  obtain ⟨hn, hg, h7, hF, hB⟩ := id hM
  intro k
  induction k with
  | zero =>
    intro j m mi pa x1 x12 x13 hj hr
    have hjn : j = st := by omega
    subst hjn
    have hok := rd_ok (fun i m hi hm => (hF i m hi hm).2) (fun m hm => (hB m hm).2.2.2.1) hS.S hS.T h0 j m mi pa hr
    have hTm := hS.T m hok.1
    rw [hr]
    refine q_il dX8_wordOf_15 rfl ?_
    refine q_iln dX8_wordOf_17 rfl ?_
    refine t_ic_ge 101 dX8_wordOf_18 rfl (by exact nI_le (by omega) (by omega)) ?_
    refine q_iln dX8_wordOf_101 rfl ?_
    first | refine n_if_ne 116 dX8_wordOf_102 rfl (by omega) (fun c102 => ?_) (fun c102 => ?_) | refine b_if_ne 116 dX8_wordOf_102 rfl (fun c102 => ?_) (fun c102 => ?_)
    · first
      | (exfalso; omega)
      | (refine q_iln dX8_wordOf_116 rfl ?_
         refine q_ic (v := nI 1) dX8_wordOf_117 rfl ?_
         first | refine n_ic_ne 126 dX8_wordOf_118 rfl (by omega) (by omega) (fun c118 => ?_) (fun c118 => ?_) | refine b_ic_ne 126 dX8_wordOf_118 rfl (fun c118 => ?_) (fun c118 => ?_)
         · first
           | (exfalso; omega)
           | (refine q_ll dX8_wordOf_126 rfl ?_
              refine q_lr dX8_wordOf_128 rfl ?_
              (apply o_l2; dsimp only; first | rw [if_pos (by omega)] | rw [if_neg (by omega), if_pos (by omega)] | rw [if_neg (by omega), if_neg (by omega)]))
         · first
           | (exfalso; omega)
           | (refine q_ll dX8_wordOf_121 rfl ?_
              refine am_x_goto (tgt := 128) dX8_wordOf_123 rfl ?_
              refine q_lr dX8_wordOf_128 rfl ?_
              (apply o_l2; dsimp only; first | rw [if_pos (by omega)] | rw [if_neg (by omega), if_pos (by omega)] | rw [if_neg (by omega), if_neg (by omega)])))
    · first
      | (exfalso; omega)
      | (refine q_aln dX8_wordOf_105 rfl ?_
         refine q_getR dX8_wordOf_106 fl_X8_15 (ws_14 hW) rfl (wp_14_1 hW) ?_
         refine q_il dX8_wordOf_109 rfl ?_
         refine q_V1 (N := m_X6_seatOf) dX8_wordOf_111 lk_X8_29 mV_X6_seatOf (c_seatOf11 hW hS hok.1) (by decide) (ws_11 hW) rfl (by decide) (Nat.le_of_ble_eq_true rfl) (Nat.le_of_ble_eq_true rfl) ?_
         first | refine q_i2l dX8_wordOf_114 (by omega) ?_ | refine am_x_pu dX8_wordOf_114 rfl ?_
         refine q_lr dX8_wordOf_115 rfl ?_
         (apply o_l2; dsimp only; first | rw [if_pos (by omega)] | rw [if_neg (by omega), if_pos (by omega)] | rw [if_neg (by omega), if_neg (by omega)]))
  | succ k ih =>
    intro j m mi pa x1 x12 x13 hj hr
    have hok := rd_ok (fun i m hi hm => (hF i m hi hm).2) (fun m hm => (hB m hm).2.2.2.1) hS.S hS.T h0 j m mi pa hr
    have hp1 := p100 (k := j) (by omega)
    by_cases hh : hrd n g F S T m = true
    · obtain ⟨q, hq⟩ := hrd_m hh
      have hqn := mth_lt hS.S hS.T hok.1 hq
      have hs := slp_le (fun i m hi hm => (hF i m hi hm).2) hqn
      have hd := (hB q hqn).2.2.2.1
      have z := fun x1 x12 x13 => ih (j + 1) _ _ _ x1 x12 x13 (by omega) (rd_y hr hh hq)
      rw [Nat.pow_succ] at z
      refine q_il dX8_wordOf_15 rfl ?_
      refine q_iln dX8_wordOf_17 rfl ?_
      refine f_ic_ge dX8_wordOf_18 (tgt := 101) rfl (by exact nI_ge (by omega) (by omega)) ?_
      refine q_aln dX8_wordOf_21 rfl ?_
      refine q_il dX8_wordOf_22 rfl ?_
      refine q_V1 (N := m_X8_isHeard) dX8_wordOf_24 lk_X8_61 mV_X8_isHeard (c_isHeard14 hW hM hS hok.1) (by decide) (ws_14 hW) rfl (by decide) (Nat.le_of_ble_eq_true rfl) (Nat.le_of_ble_eq_true rfl) ?_
      refine t_if_ne 34 dX8_wordOf_27 rfl (by rw [if_pos hh]; exact zf1) ?_
      refine q_aln dX8_wordOf_34 rfl ?_
      refine q_il dX8_wordOf_35 rfl ?_
      refine q_V1 (N := m_X8_mouthOf) dX8_wordOf_37 lk_X8_50 mV_X8_mouthOf ((by have z := c_mouthOf14 hW hM hS (m := m) hok.1; rw [hq] at z; exact z)) (by decide) (ws_14 hW) rfl (by decide) (Nat.le_of_ble_eq_true rfl) (Nat.le_of_ble_eq_true rfl) ?_
      refine q_is dX8_wordOf_40 (by decide) ?_
      refine am_nl (pc' := 42) (l' := [_, _, _, _, _, _, _, _, _, _, _, _, _, _]) rfl rfl ?_
      refine q_aln dX8_wordOf_42 rfl ?_
      refine q_il dX8_wordOf_43 rfl ?_
      refine q_V1 (N := m_X8_slipOf) dX8_wordOf_45 lk_X8_66 mV_X8_slipOf (c_slipOf14 hW hM hS hqn) (by decide) (ws_14 hW) rfl (by decide) (Nat.le_of_ble_eq_true rfl) (Nat.le_of_ble_eq_true rfl) ?_
      first | refine q_i2l dX8_wordOf_48 (by omega) ?_ | refine am_x_pu dX8_wordOf_48 rfl ?_
      refine q_ls dX8_wordOf_49 (by decide) ?_
      refine am_nl (pc' := 51) (l' := [_, _, _, _, _, _, _, _, _, _, _, _, _, _]) rfl rfl ?_
      refine q_ll dX8_wordOf_51 rfl ?_
      refine q_aln dX8_wordOf_53 rfl ?_
      refine q_getR dX8_wordOf_54 fl_X8_9 (ws_14 hW) rfl (wp_14_0 hW) ?_
      refine q_ic (v := nI 1) dX8_wordOf_57 rfl ?_
      refine q_il dX8_wordOf_58 rfl ?_
      refine q_V2 (N := m_X5_fact) dX8_wordOf_60 lk_X8_57 mV_X5_fact (c_fact hW hM (by omega) hqn) (by decide) (ws_9 hW) rfl (by decide) (Nat.le_of_ble_eq_true rfl) (Nat.le_of_ble_eq_true rfl) ?_
      first | refine q_i2l dX8_wordOf_63 (by omega) ?_ | refine am_x_pu dX8_wordOf_63 rfl ?_
      first | refine q_ladd dX8_wordOf_64 ?_ | refine am_x_pu dX8_wordOf_64 rfl ?_
      refine q_ls dX8_wordOf_65 (by decide) ?_
      refine am_nl (pc' := 67) (l' := [_, _, _, _, _, _, _, _, _, _, _, _, _, _]) rfl rfl ?_
      refine q_ll dX8_wordOf_67 rfl ?_
      refine am_x_ldc2 dX8_wordOf_69 kc_X8_69 ?_
      rw [l100]
      refine q_ll dX8_wordOf_72 rfl ?_
      first | refine q_lsub dX8_wordOf_74 (by omega) ?_ | refine am_x_pu dX8_wordOf_74 rfl ?_
      first | refine q_lmul dX8_wordOf_75 ?_ | refine am_x_pu dX8_wordOf_75 rfl ?_
      refine q_ll dX8_wordOf_76 rfl ?_
      refine q_ll dX8_wordOf_78 rfl ?_
      first | refine q_lsub dX8_wordOf_80 (by omega) ?_ | refine am_x_pu dX8_wordOf_80 rfl ?_
      refine q_ll dX8_wordOf_81 rfl ?_
      first | refine q_lmul dX8_wordOf_83 ?_ | refine am_x_pu dX8_wordOf_83 rfl ?_
      first | refine q_ladd dX8_wordOf_84 ?_ | refine am_x_pu dX8_wordOf_84 rfl ?_
      refine q_ls dX8_wordOf_85 (by decide) ?_
      refine am_nl (pc' := 87) (l' := [_, _, _, _, _, _, _, _, _, _, _, _, _, _]) rfl rfl ?_
      refine q_ll dX8_wordOf_87 rfl ?_
      refine am_x_ldc2 dX8_wordOf_89 kc_X8_69 ?_
      rw [l100]
      first | refine q_lmul dX8_wordOf_92 ?_ | refine am_x_pu dX8_wordOf_92 rfl ?_
      refine q_ls dX8_wordOf_93 (by decide) ?_
      refine am_nl (pc' := 95) (l' := [_, _, _, _, _, _, _, _, _, _, _, _, _, _]) rfl rfl ?_
      refine q_inc dX8_wordOf_95 rfl (by decide) ?_
      refine am_nl (pc' := 98) (l' := [_, _, _, _, _, _, _, _, _, _, _, _, _, _]) rfl rfl ?_
      refine am_x_goto (tgt := 15) dX8_wordOf_98 rfl ?_
      exact z _ _ _
    · have e : rd n g F S T m0 st = none := by
        have z := rd_none (rd_n hr hh) k
        rw [show j + 1 + k = st by omega] at z
        exact z
      rw [e]
      refine q_il dX8_wordOf_15 rfl ?_
      refine q_iln dX8_wordOf_17 rfl ?_
      refine f_ic_ge dX8_wordOf_18 (tgt := 101) rfl (by exact nI_ge (by omega) (by omega)) ?_
      refine q_aln dX8_wordOf_21 rfl ?_
      refine q_il dX8_wordOf_22 rfl ?_
      refine q_V1 (N := m_X8_isHeard) dX8_wordOf_24 lk_X8_61 mV_X8_isHeard (c_isHeard14 hW hM hS hok.1) (by decide) (ws_14 hW) rfl (by decide) (Nat.le_of_ble_eq_true rfl) (Nat.le_of_ble_eq_true rfl) ?_
      refine f_if_ne dX8_wordOf_27 (tgt := 34) rfl (by rw [if_neg hh]; rfl) ?_
      refine am_x_ldc2 dX8_wordOf_30 kc_X8_64 ?_
      refine q_lr dX8_wordOf_33 rfl ?_
      rfl
set_option maxHeartbeats 2000000 in
theorem c_wordOf {h : am_H} {n : Nat} {g : Bool} {F : Nat → Nat → Nat} (hW : Wd h) (hM : MB h n g F) {S T : Nat → Nat} (hS : SB 11 12 13 h n S T) {m0 st w : Nat} (h0 : m0 < n) (hst : st < 8) (hw : w < 3) : am_C 3 m_X8_wordOf [.ref 14, .int (nI m0), .int (nI st), .int (nI w)] h (some (.long (match rd n g F S T m0 st with
    | none => -1
    | some q => if w = 0 then lN (T q.1) else if w = 1 then lN q.2.1 else lN q.2.2)), h) := by
  refine q_iln dX8_wordOf_0 rfl ?_
  refine q_is dX8_wordOf_1 (by decide) ?_
  refine am_nl (pc' := 3) (l' := [_, _, _, _, _, _, _, _, _, _, _, _, _, _]) rfl rfl ?_
  refine q_lc (v := lN 0) dX8_wordOf_3 rfl ?_
  refine q_ls dX8_wordOf_4 (by decide) ?_
  refine am_nl (pc' := 6) (l' := [_, _, _, _, _, _, _, _, _, _, _, _, _, _]) rfl rfl ?_
  refine q_lc (v := lN 1) dX8_wordOf_6 rfl ?_
  refine q_ls dX8_wordOf_7 (by decide) ?_
  refine am_nl (pc' := 9) (l' := [_, _, _, _, _, _, _, _, _, _, _, _, _, _]) rfl rfl ?_
  refine q_lc (v := lN 1) dX8_wordOf_9 rfl ?_
  refine q_ls dX8_wordOf_10 (by decide) ?_
  refine am_nl (pc' := 12) (l' := [_, _, _, _, _, _, _, _, _, _, _, _, _, _]) rfl rfl ?_
  refine q_ic (v := nI 0) dX8_wordOf_12 rfl ?_
  refine q_is dX8_wordOf_13 (by decide) ?_
  refine am_nl (pc' := 15) (l' := [_, _, _, _, _, _, _, _, _, _, _, _, _, _]) rfl rfl ?_
  exact c_wordOf_lp hW hM hS h0 hst hw st 0 m0 0 1 _ _ _ (by omega) rfl
set_option maxHeartbeats 2000000 in
theorem c_round {h : am_H} {n : Nat} {g : Bool} {F : Nat → Nat → Nat} (hW : Wd h) (hM : MB h n g F) {S T : Nat → Nat} (hS : SB 11 12 13 h n S T) {x1 x2 x3 : Int32} : am_C 4 m_X11_round [.ref 0, .int x1, .int x2, .int x3] h (some (.long (roV n g F S T x1 x2 x3)), h) := by
  obtain ⟨hn, hg, h7, hF, hB⟩ := id hM
  by_cases hl : lvs n F x1 = 0
  · rw [roV_1 hl]
    refine q_aln dX11_round_0 rfl ?_
    refine q_getR dX11_round_1 fl_X11_48 (ws_0 hW) rfl (wp_0_6 hW) ?_
    refine q_iln dX11_round_4 rfl ?_
    refine q_V1 (N := m_X5_lives) dX11_round_5 lk_X11_209 mV_X5_lives ((by have z := c_livesX hW hM (x := x1); rw [hl] at z; exact z)) (by decide) (ws_9 hW) rfl (by decide) (Nat.le_of_ble_eq_true rfl) (Nat.le_of_ble_eq_true rfl) ?_
    refine t_if_eq 30 dX11_round_8 rfl (by rfl) ?_
    refine am_x_ldc2 dX11_round_30 kc_X11_212 ?_
    refine q_lr dX11_round_33 rfl ?_
    rfl
  · obtain ⟨m, hr1, hal, hl1⟩ := lvs_1 hl
    cases hr2 : rg x2 (8) with
    | none =>
      rcases rg_none (by omega) hr2 with hx | ⟨hx, hy⟩
      · rw [roV_2 hr2]
        refine q_aln dX11_round_0 rfl ?_
        refine q_getR dX11_round_1 fl_X11_48 (ws_0 hW) rfl (wp_0_6 hW) ?_
        refine q_iln dX11_round_4 rfl ?_
        refine q_V1 (N := m_X5_lives) dX11_round_5 lk_X11_209 mV_X5_lives ((by have z := c_livesX hW hM (x := x1); rw [hl1] at z; exact z)) (by decide) (ws_9 hW) rfl (by decide) (Nat.le_of_ble_eq_true rfl) (Nat.le_of_ble_eq_true rfl) ?_
        refine f_if_eq dX11_round_8 (tgt := 30) rfl (by exact zf1) ?_
        refine q_iln dX11_round_11 rfl ?_
        refine t_if_lt 30 dX11_round_12 rfl (by exact hx) ?_
        refine am_x_ldc2 dX11_round_30 kc_X11_212 ?_
        refine q_lr dX11_round_33 rfl ?_
        rfl
      · rw [roV_2 hr2]
        refine q_aln dX11_round_0 rfl ?_
        refine q_getR dX11_round_1 fl_X11_48 (ws_0 hW) rfl (wp_0_6 hW) ?_
        refine q_iln dX11_round_4 rfl ?_
        refine q_V1 (N := m_X5_lives) dX11_round_5 lk_X11_209 mV_X5_lives ((by have z := c_livesX hW hM (x := x1); rw [hl1] at z; exact z)) (by decide) (ws_9 hW) rfl (by decide) (Nat.le_of_ble_eq_true rfl) (Nat.le_of_ble_eq_true rfl) ?_
        refine f_if_eq dX11_round_8 (tgt := 30) rfl (by exact zf1) ?_
        refine q_iln dX11_round_11 rfl ?_
        refine f_if_lt dX11_round_12 (tgt := 30) rfl (by exact hx) ?_
        refine q_iln dX11_round_15 rfl ?_
        refine q_bp (v := nI 7) dX11_round_16 rfl ?_
        refine t_ic_gt 30 dX11_round_18 rfl (by exact rg_gt2 (by omega) hy) ?_
        refine am_x_ldc2 dX11_round_30 kc_X11_212 ?_
        refine q_lr dX11_round_33 rfl ?_
        rfl
    | some k =>
      obtain ⟨rfl, hk⟩ := rg_some (by omega) hr2
      cases hr3 : rg x3 (3) with
      | none =>
        rcases rg_none (by omega) hr3 with hx | ⟨hx, hy⟩
        · rw [roV_3 hr3]
          refine q_aln dX11_round_0 rfl ?_
          refine q_getR dX11_round_1 fl_X11_48 (ws_0 hW) rfl (wp_0_6 hW) ?_
          refine q_iln dX11_round_4 rfl ?_
          refine q_V1 (N := m_X5_lives) dX11_round_5 lk_X11_209 mV_X5_lives ((by have z := c_livesX hW hM (x := x1); rw [hl1] at z; exact z)) (by decide) (ws_9 hW) rfl (by decide) (Nat.le_of_ble_eq_true rfl) (Nat.le_of_ble_eq_true rfl) ?_
          refine f_if_eq dX11_round_8 (tgt := 30) rfl (by exact zf1) ?_
          refine q_iln dX11_round_11 rfl ?_
          refine n_if_lt (tgt := 30) dX11_round_12 rfl (by omega) ?_
          refine q_iln dX11_round_15 rfl ?_
          refine q_bp (v := nI 7) dX11_round_16 rfl ?_
          refine f_ic_gt dX11_round_18 (tgt := 30) rfl (by exact nI_nlt (by omega) (by omega)) ?_
          refine q_iln dX11_round_21 rfl ?_
          refine t_if_lt 30 dX11_round_22 rfl (by exact hx) ?_
          refine am_x_ldc2 dX11_round_30 kc_X11_212 ?_
          refine q_lr dX11_round_33 rfl ?_
          rfl
        · rw [roV_3 hr3]
          refine q_aln dX11_round_0 rfl ?_
          refine q_getR dX11_round_1 fl_X11_48 (ws_0 hW) rfl (wp_0_6 hW) ?_
          refine q_iln dX11_round_4 rfl ?_
          refine q_V1 (N := m_X5_lives) dX11_round_5 lk_X11_209 mV_X5_lives ((by have z := c_livesX hW hM (x := x1); rw [hl1] at z; exact z)) (by decide) (ws_9 hW) rfl (by decide) (Nat.le_of_ble_eq_true rfl) (Nat.le_of_ble_eq_true rfl) ?_
          refine f_if_eq dX11_round_8 (tgt := 30) rfl (by exact zf1) ?_
          refine q_iln dX11_round_11 rfl ?_
          refine n_if_lt (tgt := 30) dX11_round_12 rfl (by omega) ?_
          refine q_iln dX11_round_15 rfl ?_
          refine q_bp (v := nI 7) dX11_round_16 rfl ?_
          refine f_ic_gt dX11_round_18 (tgt := 30) rfl (by exact nI_nlt (by omega) (by omega)) ?_
          refine q_iln dX11_round_21 rfl ?_
          refine f_if_lt dX11_round_22 (tgt := 30) rfl (by exact hx) ?_
          refine q_iln dX11_round_25 rfl ?_
          refine q_ic (v := nI 2) dX11_round_26 rfl ?_
          refine f_ic_le dX11_round_27 (tgt := 34) rfl (by exact rg_gt (by omega) hy) ?_
          refine am_x_ldc2 dX11_round_30 kc_X11_212 ?_
          refine q_lr dX11_round_33 rfl ?_
          rfl
      | some w =>
        obtain ⟨rfl, hw⟩ := rg_some (by omega) hr3
        obtain ⟨rfl, hm⟩ := rg_some (by omega) hr1
        rw [roV_s h7 hm hal hk hw]
        refine q_aln dX11_round_0 rfl ?_
        refine q_getR dX11_round_1 fl_X11_48 (ws_0 hW) rfl (wp_0_6 hW) ?_
        refine q_iln dX11_round_4 rfl ?_
        refine q_V1 (N := m_X5_lives) dX11_round_5 lk_X11_209 mV_X5_lives ((by have z := c_livesX hW hM (x := nI m); rw [hl1] at z; exact z)) (by decide) (ws_9 hW) rfl (by decide) (Nat.le_of_ble_eq_true rfl) (Nat.le_of_ble_eq_true rfl) ?_
        refine f_if_eq dX11_round_8 (tgt := 30) rfl (by exact zf1) ?_
        refine q_iln dX11_round_11 rfl ?_
        refine n_if_lt (tgt := 30) dX11_round_12 rfl (by omega) ?_
        refine q_iln dX11_round_15 rfl ?_
        refine q_bp (v := nI 7) dX11_round_16 rfl ?_
        refine f_ic_gt dX11_round_18 (tgt := 30) rfl (by exact nI_nlt (by omega) (by omega)) ?_
        refine q_iln dX11_round_21 rfl ?_
        refine n_if_lt (tgt := 30) dX11_round_22 rfl (by omega) ?_
        refine q_iln dX11_round_25 rfl ?_
        refine q_ic (v := nI 2) dX11_round_26 rfl ?_
        refine t_ic_le 34 dX11_round_27 rfl (by exact nI_le (by omega) (by omega)) ?_
        refine q_aln dX11_round_34 rfl ?_
        refine q_getR dX11_round_35 fl_X11_64 (ws_0 hW) rfl (wp_0_8 hW) ?_
        refine q_iln dX11_round_38 rfl ?_
        refine q_iln dX11_round_39 rfl ?_
        refine q_iln dX11_round_40 rfl ?_
        refine q_V3 (N := m_X8_wordOf) dX11_round_41 lk_X11_214 mV_X8_wordOf (c_wordOf hW hM hS hm hk hw) (by decide) (ws_14 hW) rfl (by decide) (Nat.le_of_ble_eq_true rfl) (Nat.le_of_ble_eq_true rfl) ?_
        refine q_lr dX11_round_44 rfl ?_
        rfl
set_option maxHeartbeats 2000000 in
theorem r_goRound_lp {h : am_H} {n : Nat} {g : Bool} {F : Nat → Nat → Nat} {S T : Nat → Nat} (hW : Wd h) (hR : RB h n g F S T) {m0 st : Nat} (h0 : m0 < n) (hst : st < 8) : ∀ k j m mi pa hc (x1 x6 : Option Value), j + k = st → rd n g F S T m0 j = some (m, mi, pa) → Fx [] [(50, 25), (50, 26), (50, 27), (50, 28)] h hc → am_i hc 50 25 = nI j → am_i hc 50 26 = nI mi → am_i hc 50 27 = nI m → am_l hc 50 28 = lN pa → am_E 2 m_X12_goRound 29 [some (.ref 50), x1, some (.int (nI st)), some (.long (lN (100 ^ j))), none, some (.int (oN (mth n g F S T m))), x6] [] hc (fun v h2 => v = none ∧ Fx [] [(50, 25), (50, 26), (50, 27), (50, 28)] h h2 ∧ ∃ k m mi pa, k ≤ st ∧ rd n g F S T m0 k = some (m, mi, pa) ∧ (k = st ∨ rd n g F S T m0 (k + 1) = none) ∧ am_i h2 50 25 = nI k ∧ am_i h2 50 26 = nI mi ∧ am_i h2 50 27 = nI m ∧ am_l h2 50 28 = lN pa) := by
  obtain ⟨hn, hg, h7, hF, hB, hS, hT⟩ := id hR
  intro k
  induction k with
  | zero =>
    intro j m mi pa hc x1 x6 hj hr hfr f25 f26 f27 f28
    have hjn : j = st := by omega
    subst hjn
    have hWc := hfr.Wd hW
    have hRc := hR.fx hfr (by decide)
    have hok := rd_ok (fun i m hi hm => (hF i m hi hm).2) (fun m hm => (hB m hm).2.2.2.1) hR.S hR.T h0 j m mi pa hr
    refine Eq_aln dX12_goRound_29 rfl ?_
    refine Eq_getI dX12_goRound_30 fl_X12_303 (ws_50 hWc) rfl (by first | assumption | exact f25 | exact f26 | exact f27) ?_
    refine Eq_iln dX12_goRound_33 rfl ?_
    refine Et_ic_ge 141 dX12_goRound_34 rfl (by exact nI_le (by omega) (by omega)) ?_
    refine Eq_vr dX12_goRound_141 rfl ?_
    exact ⟨rfl, hfr, j, m, mi, pa, by omega, hr, Or.inl rfl, f25, f26, f27, f28⟩
  | succ k ih =>
    intro j m mi pa hc x1 x6 hj hr hfr f25 f26 f27 f28
    have hWc := hfr.Wd hW
    have hRc := hR.fx hfr (by decide)
    have hok := rd_ok (fun i m hi hm => (hF i m hi hm).2) (fun m hm => (hB m hm).2.2.2.1) hR.S hR.T h0 j m mi pa hr
    have hp1 := p100 (k := j) (by omega)
    cases hq : mth n g F S T m with
    | none =>
      refine Eq_aln dX12_goRound_29 rfl ?_
      refine Eq_getI dX12_goRound_30 fl_X12_303 (ws_50 hWc) rfl (by first | assumption | exact f25 | exact f26 | exact f27) ?_
      refine Eq_iln dX12_goRound_33 rfl ?_
      refine Ef_ic_ge dX12_goRound_34 (tgt := 141) rfl (by exact nI_ge (by omega) (by omega)) ?_
      refine Eq_il dX12_goRound_37 rfl ?_
      refine Eq_ic (v := -1) dX12_goRound_39 rfl ?_
      refine Et_ic_eq 141 dX12_goRound_40 rfl (by rfl) ?_
      refine Eq_vr dX12_goRound_141 rfl ?_
      exact ⟨rfl, hfr, j, m, mi, pa, by omega, hr, Or.inr (rd_n hr (by rw [hrd_n hq]; decide)), f25, f26, f27, f28⟩
    | some q =>
      have hqn := mth_lt hR.S hR.T hok.1 hq
      have hs := slp_le (fun i m hi hm => (hF i m hi hm).2) hqn
      have hd := (hB q hqn).2.2.2.1
      by_cases hsw : swl F q m
      · refine Eq_aln dX12_goRound_29 rfl ?_
        refine Eq_getI dX12_goRound_30 fl_X12_303 (ws_50 hWc) rfl (by first | assumption | exact f25 | exact f26 | exact f27) ?_
        refine Eq_iln dX12_goRound_33 rfl ?_
        refine Ef_ic_ge dX12_goRound_34 (tgt := 141) rfl (by exact nI_ge (by omega) (by omega)) ?_
        refine Eq_il dX12_goRound_37 rfl ?_
        refine Eq_ic (v := -1) dX12_goRound_39 rfl ?_
        refine Ef_ic_eq dX12_goRound_40 (tgt := 141) rfl (by exact nI_m1 (by omega)) ?_
        refine Eq_aln dX12_goRound_43 rfl ?_
        refine Eq_aln dX12_goRound_44 rfl ?_
        refine Eq_getI dX12_goRound_45 fl_X12_309 (ws_50 hWc) rfl (by first | assumption | exact f25 | exact f26 | exact f27) ?_
        refine Eq_il dX12_goRound_48 rfl ?_
        refine Eq_V2 (N := m_X12_isSwallowed) dX12_goRound_50 lk_X12_285 mV_X12_isSwallowed (r_isSwallowed hWc hRc hok.1 hqn) (by decide) (ws_50 hWc) rfl (by decide) (Nat.le_of_ble_eq_true rfl) (Nat.le_of_ble_eq_true rfl) ?_
        refine Et_if_ne 141 dX12_goRound_53 rfl (by rw [if_pos hsw]; exact zf1) ?_
        refine Eq_vr dX12_goRound_141 rfl ?_
        exact ⟨rfl, hfr, j, m, mi, pa, by omega, hr, Or.inr (rd_n hr (by rw [hrd_s hq]; simp [hsw])), f25, f26, f27, f28⟩
      · have hh : hrd n g F S T m = true := by rw [hrd_s hq]; simp [hsw]
        let hc1 := am_wL hc 50 28 (lN (pa * (100 - slp F q) + (100 ^ j - pa) * slp F q))
        let hc2 := am_wI hc1 50 26 (nI (mi + F 1 q))
        let hc3 := am_wI hc2 50 27 (nI q)
        let hc4 := am_wI hc3 50 25 (nI (j + 1))
        have k1 : Fx [] [(50, 25), (50, 26), (50, 27), (50, 28)] hc hc1 := Fx.wL (Or.inr (by decide))
        have k2 : Fx [] [(50, 25), (50, 26), (50, 27), (50, 28)] hc1 hc2 := Fx.wI (Or.inr (by decide))
        have k3 : Fx [] [(50, 25), (50, 26), (50, 27), (50, 28)] hc2 hc3 := Fx.wI (Or.inr (by decide))
        have k4 : Fx [] [(50, 25), (50, 26), (50, 27), (50, 28)] hc3 hc4 := Fx.wI (Or.inr (by decide))
        have g25 : am_i hc3 50 25 = nI j := by show am_i (am_wI hc2 50 27 (nI q)) 50 25 = _; rw [wI_eq, if_neg (by decide)]; show am_i (am_wI hc1 50 26 (nI (mi + F 1 q))) 50 25 = _; rw [wI_eq, if_neg (by decide)]; exact f25
        have g26 : am_i hc4 50 26 = nI (mi + F 1 q) := by show am_i (am_wI hc3 50 25 (nI (j + 1))) 50 26 = _; rw [wI_eq, if_neg (by decide)]; show am_i (am_wI hc2 50 27 (nI q)) 50 26 = _; rw [wI_eq, if_neg (by decide)]; show am_i (am_wI hc1 50 26 (nI (mi + F 1 q))) 50 26 = _; rw [wI_eq, if_pos rfl]
        have g27 : am_i hc4 50 27 = nI q := by show am_i (am_wI hc3 50 25 (nI (j + 1))) 50 27 = _; rw [wI_eq, if_neg (by decide)]; show am_i (am_wI hc2 50 27 (nI q)) 50 27 = _; rw [wI_eq, if_pos rfl]
        have g28 : am_l hc4 50 28 = lN (pa * (100 - slp F q) + (100 ^ j - pa) * slp F q) := by show am_l (am_wL hc 50 28 _) 50 28 = _; rw [wL_eq, if_pos rfl]
        have hW1 := k1.Wd hWc
        have hR1 := hRc.fx k1 (by decide)
        have hW4 := k4.Wd (k3.Wd (k2.Wd hW1))
        have hR4 := ((hR1.fx k2 (by decide)).fx k3 (by decide)).fx k4 (by decide)
        have z := fun x1 x6 => ih (j + 1) q _ _ hc4 x1 x6 (by omega) (rd_y hr hh hq) (hfr.tr (((k1.tr k2).tr k3).tr k4)) (by show am_i (am_wI hc3 50 25 (nI (j + 1))) 50 25 = _; rw [wI_eq, if_pos rfl]) g26 g27 g28
        rw [Nat.pow_succ] at z
        refine Eq_aln dX12_goRound_29 rfl ?_
        refine Eq_getI dX12_goRound_30 fl_X12_303 (ws_50 hWc) rfl (by first | assumption | exact f25 | exact f26 | exact f27) ?_
        refine Eq_iln dX12_goRound_33 rfl ?_
        refine Ef_ic_ge dX12_goRound_34 (tgt := 141) rfl (by exact nI_ge (by omega) (by omega)) ?_
        refine Eq_il dX12_goRound_37 rfl ?_
        refine Eq_ic (v := -1) dX12_goRound_39 rfl ?_
        refine Ef_ic_eq dX12_goRound_40 (tgt := 141) rfl (by exact nI_m1 (by omega)) ?_
        refine Eq_aln dX12_goRound_43 rfl ?_
        refine Eq_aln dX12_goRound_44 rfl ?_
        refine Eq_getI dX12_goRound_45 fl_X12_309 (ws_50 hWc) rfl (by first | assumption | exact f25 | exact f26 | exact f27) ?_
        refine Eq_il dX12_goRound_48 rfl ?_
        refine Eq_V2 (N := m_X12_isSwallowed) dX12_goRound_50 lk_X12_285 mV_X12_isSwallowed (r_isSwallowed hWc hRc hok.1 hqn) (by decide) (ws_50 hWc) rfl (by decide) (Nat.le_of_ble_eq_true rfl) (Nat.le_of_ble_eq_true rfl) ?_
        refine Ef_if_ne dX12_goRound_53 (tgt := 141) rfl (by rw [if_neg hsw]; rfl) ?_
        refine Eq_aln dX12_goRound_56 rfl ?_
        refine Eq_il dX12_goRound_57 rfl ?_
        refine Eq_V1 (N := m_X12_errorOf) dX12_goRound_59 lk_X12_316 mV_X12_errorOf (r_errorOf hWc hRc hqn) (by decide) (ws_50 hWc) rfl (by decide) (Nat.le_of_ble_eq_true rfl) (Nat.le_of_ble_eq_true rfl) ?_
        refine Eq_is dX12_goRound_62 (by decide) ?_
        refine Eam_nl (pc' := 64) (l' := [_, _, _, _, _, _, _]) rfl rfl ?_
        refine Eq_aln dX12_goRound_64 rfl ?_
        refine Eq_aln dX12_goRound_65 rfl ?_
        refine Eq_getL dX12_goRound_66 fl_X12_312 (ws_50 hWc) rfl (by first | assumption | rfl) ?_
        refine Eq_bp (v := nI 100) dX12_goRound_69 rfl ?_
        refine Eq_il dX12_goRound_71 rfl ?_
        first | refine Eq_sub dX12_goRound_73 (by omega) ?_ | refine Eam_x_pu dX12_goRound_73 rfl ?_
        first | refine Eq_i2l dX12_goRound_74 (by omega) ?_ | refine Eam_x_pu dX12_goRound_74 rfl ?_
        first | refine Eq_lmul dX12_goRound_75 ?_ | refine Eam_x_pu dX12_goRound_75 rfl ?_
        refine Eq_lln dX12_goRound_76 rfl ?_
        refine Eq_aln dX12_goRound_77 rfl ?_
        refine Eq_getL dX12_goRound_78 fl_X12_312 (ws_50 hWc) rfl (by first | assumption | rfl) ?_
        first | refine Eq_lsub dX12_goRound_81 (by omega) ?_ | refine Eam_x_pu dX12_goRound_81 rfl ?_
        refine Eq_il dX12_goRound_82 rfl ?_
        first | refine Eq_i2l dX12_goRound_84 (by omega) ?_ | refine Eam_x_pu dX12_goRound_84 rfl ?_
        first | refine Eq_lmul dX12_goRound_85 ?_ | refine Eam_x_pu dX12_goRound_85 rfl ?_
        first | refine Eq_ladd dX12_goRound_86 ?_ | refine Eam_x_pu dX12_goRound_86 rfl ?_
        refine Eam_x_putL dX12_goRound_87 (fw_X12_312 rfl) (ws_50 hWc) rfl ?_
        refine Eq_lln dX12_goRound_90 rfl ?_
        refine Eam_x_ldc2 dX12_goRound_91 kc_X12_319 ?_
        rw [l100]
        first | refine Eq_lmul dX12_goRound_94 ?_ | refine Eam_x_pu dX12_goRound_94 rfl ?_
        refine Eq_lsn dX12_goRound_95 (by decide) ?_
        refine Eam_nl (pc' := 96) (l' := [_, _, _, _, _, _, _]) rfl rfl ?_
        refine Eq_aln dX12_goRound_96 rfl ?_
        refine Eam_x_pu dX12_goRound_97 rfl ?_
        refine Eq_getI dX12_goRound_98 fl_X12_306 (ws_50 hWc) rfl (by first | assumption | exact f25 | exact f26 | exact f27) ?_
        refine Eq_aln dX12_goRound_101 rfl ?_
        refine Eq_il dX12_goRound_102 rfl ?_
        refine Eq_ic (v := nI 1) dX12_goRound_104 rfl ?_
        refine Eq_V2 (N := m_X12_of) dX12_goRound_105 lk_X12_258 mV_X12_of (r_of hW1 hR1 hqn (by omega)) (by decide) (ws_50 hWc) rfl (by decide) (Nat.le_of_ble_eq_true rfl) (Nat.le_of_ble_eq_true rfl) ?_
        first | refine Eq_add dX12_goRound_108 ?_ | refine Eam_x_pu dX12_goRound_108 rfl ?_
        refine Eam_x_putI dX12_goRound_109 (fw_X12_306 rfl) (ws_50 hWc) (Or.inl rfl) ?_
        refine Eq_aln dX12_goRound_112 rfl ?_
        refine Eq_il dX12_goRound_113 rfl ?_
        refine Eam_x_putI dX12_goRound_115 (fw_X12_309 rfl) (ws_50 hWc) (Or.inl rfl) ?_
        refine Eq_aln dX12_goRound_118 rfl ?_
        refine Eam_x_pu dX12_goRound_119 rfl ?_
        refine Eq_getI (v := nI j) dX12_goRound_120 fl_X12_303 (ws_50 hWc) rfl g25 ?_
        refine Eq_ic (v := nI 1) dX12_goRound_123 rfl ?_
        first | refine Eq_add dX12_goRound_124 ?_ | refine Eam_x_pu dX12_goRound_124 rfl ?_
        refine Eam_x_putI dX12_goRound_125 (fw_X12_303 rfl) (ws_50 hWc) (Or.inl rfl) ?_
        refine Eq_aln dX12_goRound_128 rfl ?_
        refine Eq_aln dX12_goRound_129 rfl ?_
        refine Eq_getI (v := nI q) dX12_goRound_130 fl_X12_309 (ws_50 hWc) rfl g27 ?_
        refine Eq_V1 (N := m_X12_mouthOf) dX12_goRound_133 lk_X12_282 mV_X12_mouthOf (r_mouthOf hW4 hR4 hqn) (by decide) (ws_50 hWc) rfl (by decide) (Nat.le_of_ble_eq_true rfl) (Nat.le_of_ble_eq_true rfl) ?_
        refine Eq_is dX12_goRound_136 (by decide) ?_
        refine Eam_nl (pc' := 138) (l' := [_, _, _, _, _, _, _]) rfl rfl ?_
        refine Eam_x_goto (tgt := 29) dX12_goRound_138 rfl ?_
        exact z _ _
set_option maxHeartbeats 2000000 in
theorem r_goRound {h : am_H} {n : Nat} {g : Bool} {F : Nat → Nat → Nat} {S T : Nat → Nat} (hW : Wd h) (hR : RB h n g F S T) {m0 st : Nat} (h0 : m0 < n) (hst : st < 8) : am_D 2 m_X12_goRound [.ref 50, .int (nI m0), .int (nI st)] h (fun v h2 => v = none ∧ Fx [] [(50, 25), (50, 26), (50, 27), (50, 28)] h h2 ∧ ∃ k m mi pa, k ≤ st ∧ rd n g F S T m0 k = some (m, mi, pa) ∧ (k = st ∨ rd n g F S T m0 (k + 1) = none) ∧ am_i h2 50 25 = nI k ∧ am_i h2 50 26 = nI mi ∧ am_i h2 50 27 = nI m ∧ am_l h2 50 28 = lN pa) := by
  have h7 := hR.2.2.1
  have k1 : Fx [] [(50, 25), (50, 26), (50, 27), (50, 28)] h (am_wI h 50 25 (nI 0)) := Fx.wI (Or.inr (by decide))
  have k2 := k1.tr (Fx.wI (r := 50) (j := 26) (v := nI 0) (Or.inr (by decide)))
  have k3 := k2.tr (Fx.wI (r := 50) (j := 27) (v := nI m0) (Or.inr (by decide)))
  have k4 := k3.tr (Fx.wL (r := 50) (j := 28) (v := lN 1) (Or.inr (by decide)))
  have hW4 := k4.Wd hW
  have hR4 := hR.fx k4 (by decide)
  refine Eq_aln dX12_goRound_0 rfl ?_
  refine Eq_ic (v := nI 0) dX12_goRound_1 rfl ?_
  refine Eam_x_putI dX12_goRound_2 (fw_X12_303 rfl) (ws_50 hW) (Or.inl rfl) ?_
  refine Eq_aln dX12_goRound_5 rfl ?_
  refine Eq_ic (v := nI 0) dX12_goRound_6 rfl ?_
  refine Eam_x_putI dX12_goRound_7 (fw_X12_306 rfl) (ws_50 hW) (Or.inl rfl) ?_
  refine Eq_aln dX12_goRound_10 rfl ?_
  refine Eq_iln dX12_goRound_11 rfl ?_
  refine Eam_x_putI dX12_goRound_12 (fw_X12_309 rfl) (ws_50 hW) (Or.inl rfl) ?_
  refine Eq_aln dX12_goRound_15 rfl ?_
  refine Eq_lc (v := lN 1) dX12_goRound_16 rfl ?_
  refine Eam_x_putL dX12_goRound_17 (fw_X12_312 rfl) (ws_50 hW) rfl ?_
  refine Eq_lc (v := lN 1) dX12_goRound_20 rfl ?_
  refine Eq_lsn dX12_goRound_21 (by decide) ?_
  refine Eam_nl (pc' := 22) (l' := [_, _, _, _, _, _, _]) rfl rfl ?_
  refine Eq_aln dX12_goRound_22 rfl ?_
  refine Eq_iln dX12_goRound_23 rfl ?_
  refine Eq_V1 (N := m_X12_mouthOf) dX12_goRound_24 lk_X12_282 mV_X12_mouthOf (r_mouthOf hW4 hR4 h0) (by decide) (ws_50 hW) rfl (by decide) (Nat.le_of_ble_eq_true rfl) (Nat.le_of_ble_eq_true rfl) ?_
  refine Eq_is dX12_goRound_27 (by decide) ?_
  refine Eam_nl (pc' := 29) (l' := [_, _, _, _, _, _, _]) rfl rfl ?_
  (refine r_goRound_lp hW hR h0 hst st 0 m0 0 1 _ _ _ (by omega) rfl k4 ?_ ?_ ?_ ?_)
  · rw [wLi, wI_eq, if_neg (by decide), wI_eq, if_neg (by decide), wI_eq, if_pos rfl]
  · rw [wLi, wI_eq, if_neg (by decide), wI_eq, if_pos rfl]
  · rw [wLi, wI_eq, if_pos rfl]
  · rw [wL_eq, if_pos rfl]
set_option maxHeartbeats 2000000 in
theorem r_round {h : am_H} {n : Nat} {g : Bool} {F : Nat → Nat → Nat} {S T : Nat → Nat} (hW : Wd h) (hR : RB h n g F S T) {x1 x2 x3 : Int32} : am_D 3 m_X12_round [.ref 50, .int x1, .int x2, .int x3] h (fun v h2 => v = some (.long (roV n g F S T x1 x2 x3)) ∧ Fx [] [(50, 25), (50, 26), (50, 27), (50, 28)] h h2) := by
  obtain ⟨hn, hg, h7, hF, hB, hS, hT⟩ := id hR
  cases hr1 : rg x1 n with
  | none =>
    rw [roV_1 (show lvs n F x1 = 0 by simp [lvs, hr1])]
    refine Eq_aln dX12_round_0 rfl ?_
    refine Eq_iln dX12_round_1 rfl ?_
    refine Eq_V1 (N := m_X12_isMember) dX12_round_2 lk_X12_288 mV_X12_isMember ((by have z := r_isMember hW hR (x := x1); rw [isr_n hr1] at z; exact z)) (by decide) (ws_50 hW) rfl (by decide) (Nat.le_of_ble_eq_true rfl) (Nat.le_of_ble_eq_true rfl) ?_
    refine Et_if_eq 37 dX12_round_5 rfl (by rfl) ?_
    refine Eam_x_ldc2 dX12_round_37 kc_X12_321 ?_
    refine Eq_lr dX12_round_40 rfl ?_
    exact ⟨rfl, Fx.rf⟩
  | some m =>
    have hi1 := isr_s hr1
    obtain ⟨rfl, hm⟩ := rg_some (by omega) hr1
    have hb := hB m hm
    by_cases hd : F 3 m = 1
    · rw [roV_1 (show lvs n F (nI m) = 0 by simp [lvs, hr1, hd])]
      refine Eq_aln dX12_round_0 rfl ?_
      refine Eq_iln dX12_round_1 rfl ?_
      refine Eq_V1 (N := m_X12_isMember) dX12_round_2 lk_X12_288 mV_X12_isMember ((by have z := r_isMember hW hR (x := nI m); rw [hi1] at z; exact z)) (by decide) (ws_50 hW) rfl (by decide) (Nat.le_of_ble_eq_true rfl) (Nat.le_of_ble_eq_true rfl) ?_
      refine Ef_if_eq dX12_round_5 (tgt := 37) rfl (by exact zf1) ?_
      refine Eq_aln dX12_round_8 rfl ?_
      refine Eq_iln dX12_round_9 rfl ?_
      refine Eq_ic (v := nI 3) dX12_round_10 rfl ?_
      refine Eq_V2 (N := m_X12_of) dX12_round_11 lk_X12_258 mV_X12_of (r_of hW hR hm (by omega)) (by decide) (ws_50 hW) rfl (by decide) (Nat.le_of_ble_eq_true rfl) (Nat.le_of_ble_eq_true rfl) ?_
      refine Eq_ic (v := nI 1) dX12_round_14 rfl ?_
      refine Et_ic_eq 37 dX12_round_15 rfl (by rw [hd]) ?_
      refine Eam_x_ldc2 dX12_round_37 kc_X12_321 ?_
      refine Eq_lr dX12_round_40 rfl ?_
      exact ⟨rfl, Fx.rf⟩
    · cases hr2 : rg x2 8 with
      | none =>
        rw [roV_2 hr2]
        refine Eq_aln dX12_round_0 rfl ?_
        refine Eq_iln dX12_round_1 rfl ?_
        refine Eq_V1 (N := m_X12_isMember) dX12_round_2 lk_X12_288 mV_X12_isMember ((by have z := r_isMember hW hR (x := nI m); rw [hi1] at z; exact z)) (by decide) (ws_50 hW) rfl (by decide) (Nat.le_of_ble_eq_true rfl) (Nat.le_of_ble_eq_true rfl) ?_
        refine Ef_if_eq dX12_round_5 (tgt := 37) rfl (by exact zf1) ?_
        refine Eq_aln dX12_round_8 rfl ?_
        refine Eq_iln dX12_round_9 rfl ?_
        refine Eq_ic (v := nI 3) dX12_round_10 rfl ?_
        refine Eq_V2 (N := m_X12_of) dX12_round_11 lk_X12_258 mV_X12_of (r_of hW hR hm (by omega)) (by decide) (ws_50 hW) rfl (by decide) (Nat.le_of_ble_eq_true rfl) (Nat.le_of_ble_eq_true rfl) ?_
        refine Eq_ic (v := nI 1) dX12_round_14 rfl ?_
        refine Ef_ic_eq dX12_round_15 (tgt := 37) rfl (by exact fun z => hd ((nI_eq (by omega) (by omega)).mp z)) ?_
        refine Eq_iln dX12_round_18 rfl ?_
        refine Eq_ic (v := nI 0) dX12_round_19 rfl ?_
        refine Eq_bp (v := nI 7) dX12_round_20 rfl ?_
        refine Eq_S3 (N := m_X12_in) dX12_round_22 lk_X12_215 mS_X12_in ((by have z := r_inr (h := h) (x := x2) (k := 7) (by omega); rw [isr_n hr2] at z; exact z)) (by decide) (Nat.le_of_ble_eq_true rfl) (Nat.le_of_ble_eq_true rfl) ?_
        refine Et_if_eq 37 dX12_round_25 rfl (by rfl) ?_
        refine Eam_x_ldc2 dX12_round_37 kc_X12_321 ?_
        refine Eq_lr dX12_round_40 rfl ?_
        exact ⟨rfl, Fx.rf⟩
      | some k =>
        have hi2 := isr_s hr2
        obtain ⟨rfl, hk⟩ := rg_some (by omega) hr2
        cases hr3 : rg x3 3 with
        | none =>
          rw [roV_3 hr3]
          refine Eq_aln dX12_round_0 rfl ?_
          refine Eq_iln dX12_round_1 rfl ?_
          refine Eq_V1 (N := m_X12_isMember) dX12_round_2 lk_X12_288 mV_X12_isMember ((by have z := r_isMember hW hR (x := nI m); rw [hi1] at z; exact z)) (by decide) (ws_50 hW) rfl (by decide) (Nat.le_of_ble_eq_true rfl) (Nat.le_of_ble_eq_true rfl) ?_
          refine Ef_if_eq dX12_round_5 (tgt := 37) rfl (by exact zf1) ?_
          refine Eq_aln dX12_round_8 rfl ?_
          refine Eq_iln dX12_round_9 rfl ?_
          refine Eq_ic (v := nI 3) dX12_round_10 rfl ?_
          refine Eq_V2 (N := m_X12_of) dX12_round_11 lk_X12_258 mV_X12_of (r_of hW hR hm (by omega)) (by decide) (ws_50 hW) rfl (by decide) (Nat.le_of_ble_eq_true rfl) (Nat.le_of_ble_eq_true rfl) ?_
          refine Eq_ic (v := nI 1) dX12_round_14 rfl ?_
          refine Ef_ic_eq dX12_round_15 (tgt := 37) rfl (by exact fun z => hd ((nI_eq (by omega) (by omega)).mp z)) ?_
          refine Eq_iln dX12_round_18 rfl ?_
          refine Eq_ic (v := nI 0) dX12_round_19 rfl ?_
          refine Eq_bp (v := nI 7) dX12_round_20 rfl ?_
          refine Eq_S3 (N := m_X12_in) dX12_round_22 lk_X12_215 mS_X12_in ((by have z := r_inr (h := h) (x := nI k) (k := 7) (by omega); rw [hi2] at z; exact z)) (by decide) (Nat.le_of_ble_eq_true rfl) (Nat.le_of_ble_eq_true rfl) ?_
          refine Ef_if_eq dX12_round_25 (tgt := 37) rfl (by exact zf1) ?_
          refine Eq_iln dX12_round_28 rfl ?_
          refine Eq_ic (v := nI 0) dX12_round_29 rfl ?_
          refine Eq_ic (v := nI 2) dX12_round_30 rfl ?_
          refine Eq_S3 (N := m_X12_in) dX12_round_31 lk_X12_215 mS_X12_in ((by have z := r_inr (h := h) (x := x3) (k := 2) (by omega); rw [isr_n hr3] at z; exact z)) (by decide) (Nat.le_of_ble_eq_true rfl) (Nat.le_of_ble_eq_true rfl) ?_
          refine Ef_if_ne dX12_round_34 (tgt := 41) rfl (by rfl) ?_
          refine Eam_x_ldc2 dX12_round_37 kc_X12_321 ?_
          refine Eq_lr dX12_round_40 rfl ?_
          exact ⟨rfl, Fx.rf⟩
        | some w =>
          have hi3 := isr_s hr3
          obtain ⟨rfl, hw⟩ := rg_some (by omega) hr3
          rw [roV_s h7 hm hd hk hw]
          refine Eq_aln dX12_round_0 rfl ?_
          refine Eq_iln dX12_round_1 rfl ?_
          refine Eq_V1 (N := m_X12_isMember) dX12_round_2 lk_X12_288 mV_X12_isMember ((by have z := r_isMember hW hR (x := nI m); rw [hi1] at z; exact z)) (by decide) (ws_50 hW) rfl (by decide) (Nat.le_of_ble_eq_true rfl) (Nat.le_of_ble_eq_true rfl) ?_
          refine Ef_if_eq dX12_round_5 (tgt := 37) rfl (by exact zf1) ?_
          refine Eq_aln dX12_round_8 rfl ?_
          refine Eq_iln dX12_round_9 rfl ?_
          refine Eq_ic (v := nI 3) dX12_round_10 rfl ?_
          refine Eq_V2 (N := m_X12_of) dX12_round_11 lk_X12_258 mV_X12_of (r_of hW hR hm (by omega)) (by decide) (ws_50 hW) rfl (by decide) (Nat.le_of_ble_eq_true rfl) (Nat.le_of_ble_eq_true rfl) ?_
          refine Eq_ic (v := nI 1) dX12_round_14 rfl ?_
          refine Ef_ic_eq dX12_round_15 (tgt := 37) rfl (by exact fun z => hd ((nI_eq (by omega) (by omega)).mp z)) ?_
          refine Eq_iln dX12_round_18 rfl ?_
          refine Eq_ic (v := nI 0) dX12_round_19 rfl ?_
          refine Eq_bp (v := nI 7) dX12_round_20 rfl ?_
          refine Eq_S3 (N := m_X12_in) dX12_round_22 lk_X12_215 mS_X12_in ((by have z := r_inr (h := h) (x := nI k) (k := 7) (by omega); rw [hi2] at z; exact z)) (by decide) (Nat.le_of_ble_eq_true rfl) (Nat.le_of_ble_eq_true rfl) ?_
          refine Ef_if_eq dX12_round_25 (tgt := 37) rfl (by exact zf1) ?_
          refine Eq_iln dX12_round_28 rfl ?_
          refine Eq_ic (v := nI 0) dX12_round_29 rfl ?_
          refine Eq_ic (v := nI 2) dX12_round_30 rfl ?_
          refine Eq_S3 (N := m_X12_in) dX12_round_31 lk_X12_215 mS_X12_in ((by have z := r_inr (h := h) (x := nI w) (k := 2) (by omega); rw [hi3] at z; exact z)) (by decide) (Nat.le_of_ble_eq_true rfl) (Nat.le_of_ble_eq_true rfl) ?_
          refine Et_if_ne 41 dX12_round_34 rfl (by exact zf1) ?_
          refine Eq_aln dX12_round_41 rfl ?_
          refine Eq_iln dX12_round_42 rfl ?_
          refine Eq_iln dX12_round_43 rfl ?_
          refine Eq_W2 (N := m_X12_goRound) dX12_round_44 lk_X12_323 mV_X12_goRound (r_goRound hW hR hm hk) (by decide) (ws_50 hW) rfl (by decide) (Nat.le_of_ble_eq_true rfl) (Nat.le_of_ble_eq_true rfl) (fun vq hq1 hq2 => ?_)
          obtain ⟨rfl, hf, k2, m2, mi, pa, hle, hrd2, hor, f25, f26, f27, f28⟩ := hq2
          have hW2 := hf.Wd hW
          have hR2 := hR.fx hf (by decide)
          have hok := rd_ok (fun i m hi hm => (hF i m hi hm).2) (fun m hm => (hB m hm).2.2.2.1) hR.S hR.T hm k2 m2 mi pa hrd2
          have hT2 := hR.T m2 hok.1
          refine Eq_aln dX12_round_47 rfl ?_
          refine Eq_getI dX12_round_48 fl_X12_303 (ws_50 hW2) rfl (by first | assumption | rfl) ?_
          refine Eq_iln dX12_round_51 rfl ?_
          first | refine En_ic_ge 61 dX12_round_52 rfl (by omega) (by omega) (fun c52 => ?_) (fun c52 => ?_) | refine Eb_ic_ge 61 dX12_round_52 rfl (fun c52 => ?_) (fun c52 => ?_)
          · first
            | (exfalso; omega)
            | (refine Eq_iln dX12_round_61 rfl ?_
               first | refine En_if_ne 77 dX12_round_62 rfl (by omega) (fun c62 => ?_) (fun c62 => ?_) | refine Eb_if_ne 77 dX12_round_62 rfl (fun c62 => ?_) (fun c62 => ?_)
               · first
                 | (exfalso; omega)
                 | (refine Eq_iln dX12_round_77 rfl ?_
                    refine Eq_ic (v := nI 1) dX12_round_78 rfl ?_
                    first | refine En_ic_ne 90 dX12_round_79 rfl (by omega) (by omega) (fun c79 => ?_) (fun c79 => ?_) | refine Eb_ic_ne 90 dX12_round_79 rfl (fun c79 => ?_) (fun c79 => ?_)
                    · first
                      | (exfalso; omega)
                      | (refine Eq_aln dX12_round_90 rfl ?_
                         refine Eq_getL dX12_round_91 fl_X12_312 (ws_50 hW2) rfl (by first | assumption | rfl) ?_
                         refine Eq_lr dX12_round_94 rfl ?_
                         (refine ⟨?_, hf⟩; first | (have e : k2 = k := (by omega); subst e; rw [hrd2]; first | rw [show w = 0 by omega]; rfl | rw [show w = 1 by omega]; rfl | rw [show w = 2 by omega]; rfl) | (have e : rd n g F S T m k = none := (by have z := rd_none (hor.resolve_left (by omega)) (k - (k2 + 1)); rw [show k2 + 1 + (k - (k2 + 1)) = k by omega] at z; exact z); rw [e])))
                    · first
                      | (exfalso; omega)
                      | (refine Eq_aln dX12_round_82 rfl ?_
                         refine Eq_getI dX12_round_83 fl_X12_306 (ws_50 hW2) rfl (by first | assumption | rfl) ?_
                         first | refine Eq_i2l dX12_round_86 (by omega) ?_ | refine Eam_x_pu dX12_round_86 rfl ?_
                         refine Eam_x_goto (tgt := 94) dX12_round_87 rfl ?_
                         refine Eq_lr dX12_round_94 rfl ?_
                         (refine ⟨?_, hf⟩; first | (have e : k2 = k := (by omega); subst e; rw [hrd2]; first | rw [show w = 0 by omega]; rfl | rw [show w = 1 by omega]; rfl | rw [show w = 2 by omega]; rfl) | (have e : rd n g F S T m k = none := (by have z := rd_none (hor.resolve_left (by omega)) (k - (k2 + 1)); rw [show k2 + 1 + (k - (k2 + 1)) = k by omega] at z; exact z); rw [e]))))
               · first
                 | (exfalso; omega)
                 | (refine Eq_aln dX12_round_65 rfl ?_
                    refine Eq_aln dX12_round_66 rfl ?_
                    refine Eq_getI dX12_round_67 fl_X12_309 (ws_50 hW2) rfl (by first | assumption | rfl) ?_
                    refine Eq_V1 (N := m_X12_seatOf) dX12_round_70 lk_X12_276 mV_X12_seatOf (r_seatOf hW2 hR2 hok.1) (by decide) (ws_50 hW2) rfl (by decide) (Nat.le_of_ble_eq_true rfl) (Nat.le_of_ble_eq_true rfl) ?_
                    first | refine Eq_i2l dX12_round_73 (by omega) ?_ | refine Eam_x_pu dX12_round_73 rfl ?_
                    refine Eam_x_goto (tgt := 94) dX12_round_74 rfl ?_
                    refine Eq_lr dX12_round_94 rfl ?_
                    (refine ⟨?_, hf⟩; first | (have e : k2 = k := (by omega); subst e; rw [hrd2]; first | rw [show w = 0 by omega]; rfl | rw [show w = 1 by omega]; rfl | rw [show w = 2 by omega]; rfl) | (have e : rd n g F S T m k = none := (by have z := rd_none (hor.resolve_left (by omega)) (k - (k2 + 1)); rw [show k2 + 1 + (k - (k2 + 1)) = k by omega] at z; exact z); rw [e]))))
          · first
            | (exfalso; omega)
            | (refine Eam_x_ldc2 dX12_round_55 kc_X12_321 ?_
               refine Eam_x_goto (tgt := 94) dX12_round_58 rfl ?_
               refine Eq_lr dX12_round_94 rfl ?_
               (refine ⟨?_, hf⟩; first | (have e : k2 = k := (by omega); subst e; rw [hrd2]; first | rw [show w = 0 by omega]; rfl | rw [show w = 1 by omega]; rfl | rw [show w = 2 by omega]; rfl) | (have e : rd n g F S T m k = none := (by have z := rd_none (hor.resolve_left (by omega)) (k - (k2 + 1)); rw [show k2 + 1 + (k - (k2 + 1)) = k by omega] at z; exact z); rw [e])))
