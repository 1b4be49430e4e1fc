set_option maxHeartbeats 2000000 in
theorem c_spread_lp {h : am_H} {n : Nat} {g : Bool} {F : Nat → Nat → Nat} (hW : Wd h) (hM : MB h n g F) {S T : Nat → Nat} (hS : SB 11 12 13 h n S T) {w : Option Nat} (hw : ∀ k, w = some k → k < n)  : ∀ k j hc (x4 : Option Value), j + k = n → Fr [17] h hc → (∀ i, i < 8 → am_l hc 17 i = lN (prt n g F S T w j i)) → ∀ cc, cc = ct (fun m => hrd n g F S T m) j → am_E 3 m_X10_spread 36 [some (.ref 16), some (.int (oN w)), some (.int (nI cc)), some (.int (nI j)), x4] [] hc (fun v h2 => v = some (.int (nI (ct (fun m => hrd n g F S T m) n))) ∧ Fr [17] h h2 ∧ ∀ i, i < 8 → am_l h2 17 i = lN (prt n g F S T w n i)) := by
  obtain ⟨hn, hg, h7, hF, hB⟩ := id hM
  intro k
  induction k with
  | zero =>
    intro j hc x4 hj hfr hp cc hcc
    have hjn : j = n := by omega
    subst hjn
    subst hcc
    have hWc := hfr.Wd hW
    have hMc := hM.fr hfr (by decide) (by decide)
    have hSc := hS.fr hfr (by decide) (by decide) (by decide)
    have hn := hMc.1
    refine Eq_iln dX10_spread_36 rfl ?_
    refine Eq_aln dX10_spread_37 rfl ?_
    refine Eq_getR dX10_spread_38 fl_X10_21 (ws_16 hWc) rfl (wp_16_1 hWc) ?_
    refine Eq_getI dX10_spread_41 fl_X10_44 (ws_9 hWc) rfl (by first | assumption | rfl) ?_
    refine Et_ic_ge 120 dX10_spread_44 rfl (by exact nI_le (by omega) (by omega)) ?_
    refine Eq_iln dX10_spread_120 rfl ?_
    refine Eq_ir dX10_spread_121 rfl ?_
    exact ⟨rfl, hfr, hp⟩
  | succ k ih =>
    intro j hc x4 hj hfr hp cc hcc
    subst hcc
    have hWc := hfr.Wd hW
    have hMc := hM.fr hfr (by decide) (by decide)
    have hSc := hS.fr hfr (by decide) (by decide) (by decide)
    have hn := hMc.1
    by_cases hh : hrd n g F S T j = true
    · obtain ⟨q, hq⟩ := hrd_m hh
      have hqn := mth_lt hS.S hS.T (by omega) hq
      have hsl := slp_le (fun i m hi hm => (hF i m hi hm).2) hqn
      have hbj := hB j (by omega)
      by_cases hwj : some j = w
      · have hy := yp_s (n := n) (g := g) (F := F) (S := S) (T := T) hwj
        by_cases hv : F 0 j = 1
        · rw [if_pos hv] at hy
          refine Eq_iln dX10_spread_36 rfl ?_
          refine Eq_aln dX10_spread_37 rfl ?_
          refine Eq_getR dX10_spread_38 fl_X10_21 (ws_16 hWc) rfl (wp_16_1 hWc) ?_
          refine Eq_getI dX10_spread_41 fl_X10_44 (ws_9 hWc) rfl (by first | assumption | rfl) ?_
          refine Ef_ic_ge dX10_spread_44 (tgt := 120) rfl (by exact nI_ge (by omega) (by omega)) ?_
          refine Eq_aln dX10_spread_47 rfl ?_
          refine Eq_getR dX10_spread_48 fl_X10_9 (ws_16 hWc) rfl (wp_16_0 hWc) ?_
          refine Eq_iln dX10_spread_51 rfl ?_
          refine Eq_V1 (N := m_X8_isHeard) dX10_spread_52 lk_X10_49 mV_X8_isHeard (c_isHeard14 hWc hMc hSc (by omega)) (by decide) (ws_14 hWc) rfl (by decide) (Nat.le_of_ble_eq_true rfl) (Nat.le_of_ble_eq_true rfl) ?_
          refine Ef_if_eq dX10_spread_55 (tgt := 114) rfl (by rw [if_pos hh]; decide +kernel) ?_
          refine Eq_iln dX10_spread_58 rfl ?_
          refine Eq_iln dX10_spread_59 rfl ?_
          refine Ef_ic_ne dX10_spread_60 (tgt := 67) rfl (by exact (nI_oN (by omega) (fun k hk => by have := hw k hk; omega)).mpr hwj) ?_
          refine Eq_ic (v := nI 0) dX10_spread_63 rfl ?_
          refine Eam_x_goto (tgt := 82) dX10_spread_64 rfl ?_
          refine Eq_is dX10_spread_82 (by decide) ?_
          refine Eq_inc dX10_spread_84 rfl (by decide) ?_
          refine Eq_aln dX10_spread_87 rfl ?_
          refine Eq_aln dX10_spread_88 rfl ?_
          refine Eq_getR dX10_spread_89 fl_X10_21 (ws_16 hWc) rfl (wp_16_1 hWc) ?_
          refine Eq_ic (v := nI 0) dX10_spread_92 rfl ?_
          refine Eq_iln dX10_spread_93 rfl ?_
          refine Eq_V2 (N := m_X5_fact) dX10_spread_94 lk_X10_53 mV_X5_fact (c_fact hWc hMc (by omega) (by omega)) (by decide) (ws_9 hWc) rfl (by decide) (Nat.le_of_ble_eq_true rfl) (Nat.le_of_ble_eq_true rfl) ?_
          refine Eq_ic (v := nI 1) dX10_spread_97 rfl ?_
          refine Ef_ic_ne dX10_spread_98 (tgt := 109) rfl (by rw [hv]) ?_
          refine Eq_bp (v := nI 100) dX10_spread_101 rfl ?_
          refine Eq_il dX10_spread_103 rfl ?_
          first | refine Eq_sub dX10_spread_105 (by omega) ?_ | refine Eam_x_pu dX10_spread_105 rfl ?_
          refine Eam_x_goto (tgt := 111) dX10_spread_106 rfl ?_
          refine Eq_W1 (N := m_X10_hear) dX10_spread_111 lk_X10_76 mV_X10_hear (c_hear hWc (pp := prt n g F S T w j) (by omega) hp) (by decide) (ws_16 hWc) rfl (by decide) (Nat.le_of_ble_eq_true rfl) (Nat.le_of_ble_eq_true rfl) (fun vq hq1 hq2 => ?_)
          obtain ⟨rfl, hf2, hp2⟩ := hq2
          refine Eq_inc dX10_spread_114 rfl (by decide) ?_
          refine Eam_x_goto (tgt := 36) dX10_spread_117 rfl ?_
          (refine ih (j + 1) hq1 _ (by omega) (hfr.tr hf2) ?_ _ (ct_t (p := fun m => hrd n g F S T m) hh).symm; rw [prt_y hh, hy]; exact hp2)
        · rw [if_neg hv] at hy
          refine Eq_iln dX10_spread_36 rfl ?_
          refine Eq_aln dX10_spread_37 rfl ?_
          refine Eq_getR dX10_spread_38 fl_X10_21 (ws_16 hWc) rfl (wp_16_1 hWc) ?_
          refine Eq_getI dX10_spread_41 fl_X10_44 (ws_9 hWc) rfl (by first | assumption | rfl) ?_
          refine Ef_ic_ge dX10_spread_44 (tgt := 120) rfl (by exact nI_ge (by omega) (by omega)) ?_
          refine Eq_aln dX10_spread_47 rfl ?_
          refine Eq_getR dX10_spread_48 fl_X10_9 (ws_16 hWc) rfl (wp_16_0 hWc) ?_
          refine Eq_iln dX10_spread_51 rfl ?_
          refine Eq_V1 (N := m_X8_isHeard) dX10_spread_52 lk_X10_49 mV_X8_isHeard (c_isHeard14 hWc hMc hSc (by omega)) (by decide) (ws_14 hWc) rfl (by decide) (Nat.le_of_ble_eq_true rfl) (Nat.le_of_ble_eq_true rfl) ?_
          refine Ef_if_eq dX10_spread_55 (tgt := 114) rfl (by rw [if_pos hh]; decide +kernel) ?_
          refine Eq_iln dX10_spread_58 rfl ?_
          refine Eq_iln dX10_spread_59 rfl ?_
          refine Ef_ic_ne dX10_spread_60 (tgt := 67) rfl (by exact (nI_oN (by omega) (fun k hk => by have := hw k hk; omega)).mpr hwj) ?_
          refine Eq_ic (v := nI 0) dX10_spread_63 rfl ?_
          refine Eam_x_goto (tgt := 82) dX10_spread_64 rfl ?_
          refine Eq_is dX10_spread_82 (by decide) ?_
          refine Eq_inc dX10_spread_84 rfl (by decide) ?_
          refine Eq_aln dX10_spread_87 rfl ?_
          refine Eq_aln dX10_spread_88 rfl ?_
          refine Eq_getR dX10_spread_89 fl_X10_21 (ws_16 hWc) rfl (wp_16_1 hWc) ?_
          refine Eq_ic (v := nI 0) dX10_spread_92 rfl ?_
          refine Eq_iln dX10_spread_93 rfl ?_
          refine Eq_V2 (N := m_X5_fact) dX10_spread_94 lk_X10_53 mV_X5_fact (c_fact hWc hMc (by omega) (by omega)) (by decide) (ws_9 hWc) rfl (by decide) (Nat.le_of_ble_eq_true rfl) (Nat.le_of_ble_eq_true rfl) ?_
          refine Eq_ic (v := nI 1) dX10_spread_97 rfl ?_
          refine Et_ic_ne 109 dX10_spread_98 rfl (by exact fun z => hv ((nI_eq (by omega) (by omega)).mp z)) ?_
          refine Eq_il dX10_spread_109 rfl ?_
          refine Eq_W1 (N := m_X10_hear) dX10_spread_111 lk_X10_76 mV_X10_hear (c_hear hWc (pp := prt n g F S T w j) (by omega) hp) (by decide) (ws_16 hWc) rfl (by decide) (Nat.le_of_ble_eq_true rfl) (Nat.le_of_ble_eq_true rfl) (fun vq hq1 hq2 => ?_)
          obtain ⟨rfl, hf2, hp2⟩ := hq2
          refine Eq_inc dX10_spread_114 rfl (by decide) ?_
          refine Eam_x_goto (tgt := 36) dX10_spread_117 rfl ?_
          (refine ih (j + 1) hq1 _ (by omega) (hfr.tr hf2) ?_ _ (ct_t (p := fun m => hrd n g F S T m) hh).symm; rw [prt_y hh, hy]; exact hp2)
      · have hy := yp_o (n := n) (g := g) (F := F) (S := S) (T := T) hwj hq
        by_cases hv : F 0 j = 1
        · rw [if_pos hv] at hy
          refine Eq_iln dX10_spread_36 rfl ?_
          refine Eq_aln dX10_spread_37 rfl ?_
          refine Eq_getR dX10_spread_38 fl_X10_21 (ws_16 hWc) rfl (wp_16_1 hWc) ?_
          refine Eq_getI dX10_spread_41 fl_X10_44 (ws_9 hWc) rfl (by first | assumption | rfl) ?_
          refine Ef_ic_ge dX10_spread_44 (tgt := 120) rfl (by exact nI_ge (by omega) (by omega)) ?_
          refine Eq_aln dX10_spread_47 rfl ?_
          refine Eq_getR dX10_spread_48 fl_X10_9 (ws_16 hWc) rfl (wp_16_0 hWc) ?_
          refine Eq_iln dX10_spread_51 rfl ?_
          refine Eq_V1 (N := m_X8_isHeard) dX10_spread_52 lk_X10_49 mV_X8_isHeard (c_isHeard14 hWc hMc hSc (by omega)) (by decide) (ws_14 hWc) rfl (by decide) (Nat.le_of_ble_eq_true rfl) (Nat.le_of_ble_eq_true rfl) ?_
          refine Ef_if_eq dX10_spread_55 (tgt := 114) rfl (by rw [if_pos hh]; decide +kernel) ?_
          refine Eq_iln dX10_spread_58 rfl ?_
          refine Eq_iln dX10_spread_59 rfl ?_
          refine Et_ic_ne 67 dX10_spread_60 rfl (by exact fun z => hwj ((nI_oN (by omega) (fun k hk => by have := hw k hk; omega)).mp z)) ?_
          refine Eq_aln dX10_spread_67 rfl ?_
          refine Eq_getR dX10_spread_68 fl_X10_9 (ws_16 hWc) rfl (wp_16_0 hWc) ?_
          refine Eq_aln dX10_spread_71 rfl ?_
          refine Eq_getR dX10_spread_72 fl_X10_9 (ws_16 hWc) rfl (wp_16_0 hWc) ?_
          refine Eq_iln dX10_spread_75 rfl ?_
          refine Eq_V1 (N := m_X8_mouthOf) dX10_spread_76 lk_X10_70 mV_X8_mouthOf ((by have z := c_mouthOf14 hWc hMc hSc (m := j) (by omega); rw [hq] at z; exact z)) (by decide) (ws_14 hWc) rfl (by decide) (Nat.le_of_ble_eq_true rfl) (Nat.le_of_ble_eq_true rfl) ?_
          refine Eq_V1 (N := m_X8_slipOf) dX10_spread_79 lk_X10_73 mV_X8_slipOf (c_slipOf14 hWc hMc hSc (by omega)) (by decide) (ws_14 hWc) rfl (by decide) (Nat.le_of_ble_eq_true rfl) (Nat.le_of_ble_eq_true rfl) ?_
          refine Eq_is dX10_spread_82 (by decide) ?_
          refine Eq_inc dX10_spread_84 rfl (by decide) ?_
          refine Eq_aln dX10_spread_87 rfl ?_
          refine Eq_aln dX10_spread_88 rfl ?_
          refine Eq_getR dX10_spread_89 fl_X10_21 (ws_16 hWc) rfl (wp_16_1 hWc) ?_
          refine Eq_ic (v := nI 0) dX10_spread_92 rfl ?_
          refine Eq_iln dX10_spread_93 rfl ?_
          refine Eq_V2 (N := m_X5_fact) dX10_spread_94 lk_X10_53 mV_X5_fact (c_fact hWc hMc (by omega) (by omega)) (by decide) (ws_9 hWc) rfl (by decide) (Nat.le_of_ble_eq_true rfl) (Nat.le_of_ble_eq_true rfl) ?_
          refine Eq_ic (v := nI 1) dX10_spread_97 rfl ?_
          refine Ef_ic_ne dX10_spread_98 (tgt := 109) rfl (by rw [hv]) ?_
          refine Eq_bp (v := nI 100) dX10_spread_101 rfl ?_
          refine Eq_il dX10_spread_103 rfl ?_
          first | refine Eq_sub dX10_spread_105 (by omega) ?_ | refine Eam_x_pu dX10_spread_105 rfl ?_
          refine Eam_x_goto (tgt := 111) dX10_spread_106 rfl ?_
          refine Eq_W1 (N := m_X10_hear) dX10_spread_111 lk_X10_76 mV_X10_hear (c_hear hWc (pp := prt n g F S T w j) (by omega) hp) (by decide) (ws_16 hWc) rfl (by decide) (Nat.le_of_ble_eq_true rfl) (Nat.le_of_ble_eq_true rfl) (fun vq hq1 hq2 => ?_)
          obtain ⟨rfl, hf2, hp2⟩ := hq2
          refine Eq_inc dX10_spread_114 rfl (by decide) ?_
          refine Eam_x_goto (tgt := 36) dX10_spread_117 rfl ?_
          (refine ih (j + 1) hq1 _ (by omega) (hfr.tr hf2) ?_ _ (ct_t (p := fun m => hrd n g F S T m) hh).symm; rw [prt_y hh, hy]; exact hp2)
        · rw [if_neg hv] at hy
          refine Eq_iln dX10_spread_36 rfl ?_
          refine Eq_aln dX10_spread_37 rfl ?_
          refine Eq_getR dX10_spread_38 fl_X10_21 (ws_16 hWc) rfl (wp_16_1 hWc) ?_
          refine Eq_getI dX10_spread_41 fl_X10_44 (ws_9 hWc) rfl (by first | assumption | rfl) ?_
          refine Ef_ic_ge dX10_spread_44 (tgt := 120) rfl (by exact nI_ge (by omega) (by omega)) ?_
          refine Eq_aln dX10_spread_47 rfl ?_
          refine Eq_getR dX10_spread_48 fl_X10_9 (ws_16 hWc) rfl (wp_16_0 hWc) ?_
          refine Eq_iln dX10_spread_51 rfl ?_
          refine Eq_V1 (N := m_X8_isHeard) dX10_spread_52 lk_X10_49 mV_X8_isHeard (c_isHeard14 hWc hMc hSc (by omega)) (by decide) (ws_14 hWc) rfl (by decide) (Nat.le_of_ble_eq_true rfl) (Nat.le_of_ble_eq_true rfl) ?_
          refine Ef_if_eq dX10_spread_55 (tgt := 114) rfl (by rw [if_pos hh]; decide +kernel) ?_
          refine Eq_iln dX10_spread_58 rfl ?_
          refine Eq_iln dX10_spread_59 rfl ?_
          refine Et_ic_ne 67 dX10_spread_60 rfl (by exact fun z => hwj ((nI_oN (by omega) (fun k hk => by have := hw k hk; omega)).mp z)) ?_
          refine Eq_aln dX10_spread_67 rfl ?_
          refine Eq_getR dX10_spread_68 fl_X10_9 (ws_16 hWc) rfl (wp_16_0 hWc) ?_
          refine Eq_aln dX10_spread_71 rfl ?_
          refine Eq_getR dX10_spread_72 fl_X10_9 (ws_16 hWc) rfl (wp_16_0 hWc) ?_
          refine Eq_iln dX10_spread_75 rfl ?_
          refine Eq_V1 (N := m_X8_mouthOf) dX10_spread_76 lk_X10_70 mV_X8_mouthOf ((by have z := c_mouthOf14 hWc hMc hSc (m := j) (by omega); rw [hq] at z; exact z)) (by decide) (ws_14 hWc) rfl (by decide) (Nat.le_of_ble_eq_true rfl) (Nat.le_of_ble_eq_true rfl) ?_
          refine Eq_V1 (N := m_X8_slipOf) dX10_spread_79 lk_X10_73 mV_X8_slipOf (c_slipOf14 hWc hMc hSc (by omega)) (by decide) (ws_14 hWc) rfl (by decide) (Nat.le_of_ble_eq_true rfl) (Nat.le_of_ble_eq_true rfl) ?_
          refine Eq_is dX10_spread_82 (by decide) ?_
          refine Eq_inc dX10_spread_84 rfl (by decide) ?_
          refine Eq_aln dX10_spread_87 rfl ?_
          refine Eq_aln dX10_spread_88 rfl ?_
          refine Eq_getR dX10_spread_89 fl_X10_21 (ws_16 hWc) rfl (wp_16_1 hWc) ?_
          refine Eq_ic (v := nI 0) dX10_spread_92 rfl ?_
          refine Eq_iln dX10_spread_93 rfl ?_
          refine Eq_V2 (N := m_X5_fact) dX10_spread_94 lk_X10_53 mV_X5_fact (c_fact hWc hMc (by omega) (by omega)) (by decide) (ws_9 hWc) rfl (by decide) (Nat.le_of_ble_eq_true rfl) (Nat.le_of_ble_eq_true rfl) ?_
          refine Eq_ic (v := nI 1) dX10_spread_97 rfl ?_
          refine Et_ic_ne 109 dX10_spread_98 rfl (by exact fun z => hv ((nI_eq (by omega) (by omega)).mp z)) ?_
          refine Eq_il dX10_spread_109 rfl ?_
          refine Eq_W1 (N := m_X10_hear) dX10_spread_111 lk_X10_76 mV_X10_hear (c_hear hWc (pp := prt n g F S T w j) (by omega) hp) (by decide) (ws_16 hWc) rfl (by decide) (Nat.le_of_ble_eq_true rfl) (Nat.le_of_ble_eq_true rfl) (fun vq hq1 hq2 => ?_)
          obtain ⟨rfl, hf2, hp2⟩ := hq2
          refine Eq_inc dX10_spread_114 rfl (by decide) ?_
          refine Eam_x_goto (tgt := 36) dX10_spread_117 rfl ?_
          (refine ih (j + 1) hq1 _ (by omega) (hfr.tr hf2) ?_ _ (ct_t (p := fun m => hrd n g F S T m) hh).symm; rw [prt_y hh, hy]; exact hp2)
    · refine Eq_iln dX10_spread_36 rfl ?_
      refine Eq_aln dX10_spread_37 rfl ?_
      refine Eq_getR dX10_spread_38 fl_X10_21 (ws_16 hWc) rfl (wp_16_1 hWc) ?_
      refine Eq_getI dX10_spread_41 fl_X10_44 (ws_9 hWc) rfl (by first | assumption | rfl) ?_
      refine Ef_ic_ge dX10_spread_44 (tgt := 120) rfl (by exact nI_ge (by omega) (by omega)) ?_
      refine Eq_aln dX10_spread_47 rfl ?_
      refine Eq_getR dX10_spread_48 fl_X10_9 (ws_16 hWc) rfl (wp_16_0 hWc) ?_
      refine Eq_iln dX10_spread_51 rfl ?_
      refine Eq_V1 (N := m_X8_isHeard) dX10_spread_52 lk_X10_49 mV_X8_isHeard (c_isHeard14 hWc hMc hSc (by omega)) (by decide) (ws_14 hWc) rfl (by decide) (Nat.le_of_ble_eq_true rfl) (Nat.le_of_ble_eq_true rfl) ?_
      refine Et_if_eq 114 dX10_spread_55 rfl (by rw [if_neg hh]; rfl) ?_
      refine Eq_inc dX10_spread_114 rfl (by decide) ?_
      refine Eam_x_goto (tgt := 36) dX10_spread_117 rfl ?_
      (refine ih (j + 1) hc _ (by omega) hfr ?_ _ (ct_f (p := fun m => hrd n g F S T m) hh).symm; rw [prt_n hh]; exact hp)
set_option maxHeartbeats 2000000 in
theorem c_spread_in {h : am_H} {n : Nat} {g : Bool} {F : Nat → Nat → Nat} (hW : Wd h) (hM : MB h n g F) {S T : Nat → Nat} (hS : SB 11 12 13 h n S T) {w : Option Nat} (hw : ∀ k, w = some k → k < n)  : ∀ k j hc (x3 x4 : Option Value), j + k = 8 → Fr [17] h hc → (∀ i, i < j → am_l hc 17 i = lN (if i = 0 then 1 else 0)) → am_E 3 m_X10_spread 2 [some (.ref 16), some (.int (oN w)), some (.int (nI j)), x3, x4] [] hc (fun v h2 => v = some (.int (nI (ct (fun m => hrd n g F S T m) n))) ∧ Fr [17] h h2 ∧ ∀ i, i < 8 → am_l h2 17 i = lN (prt n g F S T w n i)) := by
  obtain ⟨hn, hg, h7, hF, hB⟩ := id hM
  intro k
  induction k with
  | zero =>
    intro j hc x3 x4 hj hfr hp
    have hj8 : j = 8 := by omega
    subst hj8
    have hWc := hfr.Wd hW
    refine Eq_iln dX10_spread_2 rfl ?_
    refine Eq_aln dX10_spread_3 rfl ?_
    refine Eq_getR dX10_spread_4 fl_X10_22 (ws_16 hWc) rfl (wp_16_2 hWc) ?_
    refine Eam_x_alen dX10_spread_7 (ws_17 hWc) (by decide) ?_
    refine Et_ic_ge 32 dX10_spread_8 rfl (by decide +kernel) ?_
    refine Eq_ic (v := nI 0) dX10_spread_32 rfl ?_
    refine Eq_isn dX10_spread_33 (by decide) ?_
    refine Eq_ic (v := nI 0) dX10_spread_34 rfl ?_
    refine Eq_isn dX10_spread_35 (by decide) ?_
    exact c_spread_lp hW hM hS hw n 0 hc _ (by omega) hfr (fun i hi => by rw [hp i hi]; rfl) _ rfl
  | succ k ih =>
    intro j hc x3 x4 hj hfr hp
    have hWc := hfr.Wd hW
    refine Eq_iln dX10_spread_2 rfl ?_
    refine Eq_aln dX10_spread_3 rfl ?_
    refine Eq_getR dX10_spread_4 fl_X10_22 (ws_16 hWc) rfl (wp_16_2 hWc) ?_
    refine Eam_x_alen dX10_spread_7 (ws_17 hWc) (by decide) ?_
    refine Ef_ic_ge dX10_spread_8 (tgt := 32) rfl (by exact nI_ge (by omega) (by omega)) ?_
    refine Eq_aln dX10_spread_11 rfl ?_
    refine Eq_getR dX10_spread_12 fl_X10_22 (ws_16 hWc) rfl (wp_16_2 hWc) ?_
    refine Eq_iln dX10_spread_15 rfl ?_
    refine Eq_iln dX10_spread_16 rfl ?_
    first | refine En_if_ne 24 dX10_spread_17 rfl (by omega) (fun c17 => ?_) (fun c17 => ?_) | refine Eb_if_ne 24 dX10_spread_17 rfl (fun c17 => ?_) (fun c17 => ?_)
    · first
      | (exfalso; omega)
      | (refine Eq_lc (v := lN 0) dX10_spread_24 rfl ?_
         refine Eq_lst dX10_spread_25 (ws_17 hWc) (by omega) (by omega) ?_
         refine Eq_inc dX10_spread_26 rfl (by decide) ?_
         refine Eam_x_goto (tgt := 2) dX10_spread_29 rfl ?_
         (refine ih (j + 1) _ _ _ (by omega) (hfr.tr (Fr.wL (by decide))) (fun i hi => ?_); rw [wL_eq]; exact in_step (by simp [c17]) (fun z => hp i (by omega))))
    · first
      | (exfalso; omega)
      | (refine Eq_lc (v := lN 1) dX10_spread_20 rfl ?_
         refine Eam_x_goto (tgt := 25) dX10_spread_21 rfl ?_
         refine Eq_lst dX10_spread_25 (ws_17 hWc) (by omega) (by omega) ?_
         refine Eq_inc dX10_spread_26 rfl (by decide) ?_
         refine Eam_x_goto (tgt := 2) dX10_spread_29 rfl ?_
         (refine ih (j + 1) _ _ _ (by omega) (hfr.tr (Fr.wL (by decide))) (fun i hi => ?_); rw [wL_eq]; exact in_step (by simp [c17]) (fun z => hp i (by omega))))
set_option maxHeartbeats 2000000 in
theorem c_spread {h : am_H} {n : Nat} {g : Bool} {F : Nat → Nat → Nat} (hW : Wd h) (hM : MB h n g F) {S T : Nat → Nat} (hS : SB 11 12 13 h n S T) {w : Option Nat} (hw : ∀ k, w = some k → k < n)  : am_D 3 m_X10_spread [.ref 16, .int (oN w)] h (fun v h2 => v = some (.int (nI (ct (fun m => hrd n g F S T m) n))) ∧ Fr [17] h h2 ∧ ∀ i, i < 8 → am_l h2 17 i = lN (prt n g F S T w n i)) := by
  refine Eq_ic (v := nI 0) dX10_spread_0 rfl ?_
  refine Eq_isn dX10_spread_1 (by decide) ?_
  exact c_spread_in hW hM hS hw 8 0 h _ _ (by omega) Fr.rf (fun i hi => by omega)
