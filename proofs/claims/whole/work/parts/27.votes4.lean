set_option maxHeartbeats 2000000 in
theorem c_whoTurns {h : am_H} {n : Nat} {g : Bool} {F : Nat → Nat → Nat} (hW : Wd h) (hM : MB h n g F) {S T : Nat → Nat} (hS : SB 11 12 13 h n S T)  : am_D 5 m_X10_whoTurns [.ref 16] h (fun v h2 => v = some (.int (oN ((tn n g F S T n).map Prod.fst))) ∧ Fr [17] h h2) := by
  have h7 := hM.2.2.1
  have a1 : yct n g F S T ≤ n := ct_le _ n
  have a2 : hct n g F S T ≤ n := ct_le _ n
  refine Eq_aln dX10_whoTurns_0 rfl ?_
  refine Eq_V0 (N := m_X10_heardBits) dX10_whoTurns_1 lk_X10_57 mV_X10_heardBits (c_heardBits hW hM hS) (by decide) (ws_16 hW) rfl (by decide) (Nat.le_of_ble_eq_true rfl) (Nat.le_of_ble_eq_true rfl) ?_
  refine Eq_isn dX10_whoTurns_4 (by decide) ?_
  refine Eq_aln dX10_whoTurns_5 rfl ?_
  refine Eq_V0 (N := m_X10_plainYes) dX10_whoTurns_6 lk_X10_87 mV_X10_plainYes (c_plainYes hW hM hS) (by decide) (ws_16 hW) rfl (by decide) (Nat.le_of_ble_eq_true rfl) (Nat.le_of_ble_eq_true rfl) ?_
  refine Eq_aln dX10_whoTurns_9 rfl ?_
  refine Eq_V0 (N := m_X10_heard) dX10_whoTurns_10 lk_X10_90 mV_X10_heard (c_heard hW hM hS) (by decide) (ws_16 hW) rfl (by decide) (Nat.le_of_ble_eq_true rfl) (Nat.le_of_ble_eq_true rfl) ?_
  refine Eq_S2 (N := m_X10_passes) dX10_whoTurns_13 lk_X10_83 mS_X10_passes (c_passes (a := yct n g F S T) (b := hct n g F S T) (by omega) (by omega)) (by decide) (Nat.le_of_ble_eq_true rfl) (Nat.le_of_ble_eq_true rfl) ?_
  refine Eq_isn dX10_whoTurns_16 (by decide) ?_
  refine Eq_ic (v := -1) dX10_whoTurns_17 rfl ?_
  refine Eq_isn dX10_whoTurns_18 (by decide) ?_
  refine Eq_lc (v := lN 0) dX10_whoTurns_19 rfl ?_
  refine Eq_ls dX10_whoTurns_20 (by decide) ?_
  refine Eq_ic (v := nI 0) dX10_whoTurns_22 rfl ?_
  refine Eq_is dX10_whoTurns_23 (by decide) ?_
  (have q := c_whoTurns_lp hW hM hS n 0 h none none none none (by omega) Fr.rf; have e : (if due n g F S T = true then 1 else 0 : Nat) = (if hct n g F S T < yct n g F S T * 2 then 1 else 0) := (by simp [due]); rw [e] at q; exact q)
set_option maxHeartbeats 2000000 in
theorem r_lay_in {n : Nat} {w : Option Nat} {h0 : am_H} {y j e3 : Nat} {pp : Nat → Nat} {P : Option Value → am_H → Prop} (hW : Wd h0) (hy : y ≤ 100) (kk : ∀ hc, Fr [64] h0 hc → (∀ i, i < 8 → am_l hc 64 i = lN (hrP y pp i)) → am_E 3 m_X12_layParts 145 [some (.ref 50), some (.int (oN w)), some (.int (nI j)), some (.int (nI e3)), some (.int (nI y)), some (.int (-1))] [] hc P) : ∀ k hc, k ≤ 8 → Fr [64] h0 hc → (∀ i, i < 8 → am_l hc 64 i = lN (if k ≤ i then hrP y pp i else pp i)) → am_E 3 m_X12_layParts 90 [some (.ref 50), some (.int (oN w)), some (.int (nI j)), some (.int (nI e3)), some (.int (nI y)), some (.int (dk k))] [] hc P := by
  intro k
  induction k with
  | zero =>
    intro hc hk hfr hc1
    refine Eq_il dX12_layParts_90 rfl ?_
    refine Et_if_lt 145 dX12_layParts_92 rfl (by exact m1_neg) ?_
    exact kk hc hfr (fun i hi => by rw [hc1 i hi, if_pos (by omega)])
  | succ k ih =>
    intro hc hk hfr hc1
    have hWc := hfr.Wd hW
    show am_E 3 m_X12_layParts 90 [some (.ref 50), some (.int (oN w)), some (.int (nI j)), some (.int (nI e3)), some (.int (nI y)), some (.int (nI k))] [] hc _
    refine Eq_il dX12_layParts_90 rfl ?_
    refine En_if_lt (tgt := 145) dX12_layParts_92 rfl (by omega) ?_
    refine Eq_aln dX12_layParts_95 rfl ?_
    refine Eq_getR dX12_layParts_96 fl_X12_53 (ws_50 hWc) rfl (wp_50_29 hWc) ?_
    refine Eq_il dX12_layParts_99 rfl ?_
    refine Eq_aln dX12_layParts_101 rfl ?_
    refine Eq_getR dX12_layParts_102 fl_X12_53 (ws_50 hWc) rfl (wp_50_29 hWc) ?_
    refine Eq_il dX12_layParts_105 rfl ?_
    refine Eq_lld dX12_layParts_107 (ws_64 hWc) (by omega) (by omega) (hc1 _ (by omega)) ?_
    refine Eq_bp (v := nI 100) dX12_layParts_108 rfl ?_
    refine Eq_il dX12_layParts_110 rfl ?_
    first | refine Eq_sub dX12_layParts_112 (by omega) ?_ | refine Eam_x_pu dX12_layParts_112 rfl ?_
    first | refine Eq_i2l dX12_layParts_113 (by omega) ?_ | refine Eam_x_pu dX12_layParts_113 rfl ?_
    first | refine Eq_lmul dX12_layParts_114 ?_ | refine Eam_x_pu dX12_layParts_114 rfl ?_
    refine Eq_il dX12_layParts_115 rfl ?_
    first | refine En_if_le 136 dX12_layParts_117 rfl (by omega) (fun c117 => ?_) (fun c117 => ?_) | refine Eb_if_le 136 dX12_layParts_117 rfl (fun c117 => ?_) (fun c117 => ?_)
    · first
      | (exfalso; omega)
      | (refine Eq_lc (v := lN 0) dX12_layParts_136 rfl ?_
         first | refine Eq_ladd dX12_layParts_137 ?_ | refine Eam_x_pu dX12_layParts_137 rfl ?_
         refine Eq_lst dX12_layParts_138 (ws_64 hWc) (by omega) (by omega) ?_
         refine Eq_dk dX12_layParts_139 rfl (by decide) ?_
         refine Eam_x_goto (tgt := 90) dX12_layParts_142 rfl ?_
         (refine ih _ (by omega) (hfr.tr (Fr.wL (by decide))) (fun i hi => ?_); rw [wL_eq, hc1 i hi]; refine hr_step ?_; first | (rw [if_neg (show ¬ k + 1 ≤ k by omega), if_neg (show ¬ k + 1 ≤ k - 1 by omega)]; simp only [hrP]; rw [if_pos (show 0 < k by omega)]) | (rw [if_neg (show ¬ k + 1 ≤ k by omega)]; simp [hrP]; omega)))
    · first
      | (exfalso; omega)
      | (refine Eq_aln dX12_layParts_120 rfl ?_
         refine Eq_getR dX12_layParts_121 fl_X12_53 (ws_50 hWc) rfl (wp_50_29 hWc) ?_
         refine Eq_il dX12_layParts_124 rfl ?_
         refine Eq_ic (v := nI 1) dX12_layParts_126 rfl ?_
         first | refine Eq_sub dX12_layParts_127 (by omega) ?_ | refine Eam_x_pu dX12_layParts_127 rfl ?_
         refine Eq_lld dX12_layParts_128 (ws_64 hWc) (by omega) (by omega) (hc1 _ (by omega)) ?_
         refine Eq_il dX12_layParts_129 rfl ?_
         first | refine Eq_i2l dX12_layParts_131 (by omega) ?_ | refine Eam_x_pu dX12_layParts_131 rfl ?_
         first | refine Eq_lmul dX12_layParts_132 ?_ | refine Eam_x_pu dX12_layParts_132 rfl ?_
         refine Eam_x_goto (tgt := 137) dX12_layParts_133 rfl ?_
         first | refine Eq_ladd dX12_layParts_137 ?_ | refine Eam_x_pu dX12_layParts_137 rfl ?_
         refine Eq_lst dX12_layParts_138 (ws_64 hWc) (by omega) (by omega) ?_
         refine Eq_dk dX12_layParts_139 rfl (by decide) ?_
         refine Eam_x_goto (tgt := 90) dX12_layParts_142 rfl ?_
         (refine ih _ (by omega) (hfr.tr (Fr.wL (by decide))) (fun i hi => ?_); rw [wL_eq, hc1 i hi]; refine hr_step ?_; first | (rw [if_neg (show ¬ k + 1 ≤ k by omega), if_neg (show ¬ k + 1 ≤ k - 1 by omega)]; simp only [hrP]; rw [if_pos (show 0 < k by omega)]) | (rw [if_neg (show ¬ k + 1 ≤ k by omega)]; simp [hrP]; omega)))
set_option maxHeartbeats 2000000 in
theorem r_lay_lp {h : am_H} {n : Nat} {g : Bool} {F : Nat → Nat → Nat} {S T : Nat → Nat} (hW : Wd h) (hR : RB h n g F S T) {w : Option Nat} (hw : ∀ k, w = some k → k < n)  : ∀ k j hc (x3 x4 x5 : Option Value), j + k = n → Fr [64] h hc → (∀ i, i < 8 → am_l hc 64 i = lN (prt n g F S T w j i)) → am_E 3 m_X12_layParts 31 [some (.ref 50), some (.int (oN w)), some (.int (nI j)), x3, x4, x5] [] hc (fun v h2 => v = none ∧ Fr [64] h h2 ∧ ∀ i, i < 8 → am_l h2 64 i = lN (prt n g F S T w n i)) := by
  obtain ⟨hn, hg, h7, hF, hB, hS, hT⟩ := id hR
  intro k
  induction k with
  | zero =>
    intro j hc x3 x4 x5 hj hfr hp
    have hjn : j = n := by omega
    subst hjn
    have hWc := hfr.Wd hW
    have hRc := hR.fr hfr (by decide) (by decide) (by decide)
    have hn := hRc.1
    refine Eq_iln dX12_layParts_31 rfl ?_
    refine Eq_aln dX12_layParts_32 rfl ?_
    refine Eq_getI dX12_layParts_33 fl_X12_252 (ws_50 hWc) rfl (by first | assumption | rfl) ?_
    refine Et_ic_ge 151 dX12_layParts_36 rfl (by exact nI_le (by omega) (by omega)) ?_
    refine Eq_vr dX12_layParts_151 rfl ?_
    exact ⟨rfl, hfr, hp⟩
  | succ k ih =>
    intro j hc x3 x4 x5 hj hfr hp
    have hWc := hfr.Wd hW
    have hRc := hR.fr hfr (by decide) (by decide) (by decide)
    have hn := hRc.1
    by_cases hh : hrd n g F S T j = true
    · obtain ⟨q, hq⟩ := hrd_m hh
      have hqn := mth_lt hR.S hR.T (by omega) hq
      have hsl := slp_le (fun i m hi hm => (hF i m hi hm).2) hqn
      have hbj := hB j (by omega)
      by_cases hwj : some j = w
      · have hy := yp_s (n := n) (g := g) (F := F) (S := S) (T := T) hwj
        by_cases hv : F 0 j = 1
        · rw [if_pos hv] at hy
          refine Eq_iln dX12_layParts_31 rfl ?_
          refine Eq_aln dX12_layParts_32 rfl ?_
          refine Eq_getI dX12_layParts_33 fl_X12_252 (ws_50 hWc) rfl (by first | assumption | rfl) ?_
          refine Ef_ic_ge dX12_layParts_36 (tgt := 151) rfl (by exact nI_ge (by omega) (by omega)) ?_
          refine Eq_aln dX12_layParts_39 rfl ?_
          refine Eq_iln dX12_layParts_40 rfl ?_
          refine Eq_V1 (N := m_X12_isHeard) dX12_layParts_41 lk_X12_291 mV_X12_isHeard (r_isHeard hWc hRc (by omega)) (by decide) (ws_50 hWc) rfl (by decide) (Nat.le_of_ble_eq_true rfl) (Nat.le_of_ble_eq_true rfl) ?_
          refine Ef_if_eq dX12_layParts_44 (tgt := 145) rfl (by rw [if_pos hh]; decide +kernel) ?_
          refine Eq_iln dX12_layParts_47 rfl ?_
          refine Eq_iln dX12_layParts_48 rfl ?_
          refine Ef_ic_ne dX12_layParts_49 (tgt := 56) rfl (by exact (nI_oN (by omega) (fun k hk => by have := hw k hk; omega)).mpr hwj) ?_
          refine Eq_ic (v := nI 0) dX12_layParts_52 rfl ?_
          refine Eam_x_goto (tgt := 65) dX12_layParts_53 rfl ?_
          refine Eq_isn dX12_layParts_65 (by decide) ?_
          refine Eq_aln dX12_layParts_66 rfl ?_
          refine Eq_iln dX12_layParts_67 rfl ?_
          refine Eq_ic (v := nI 0) dX12_layParts_68 rfl ?_
          refine Eq_V2 (N := m_X12_of) dX12_layParts_69 lk_X12_258 mV_X12_of (r_of hWc hRc (by omega) (by omega)) (by decide) (ws_50 hWc) rfl (by decide) (Nat.le_of_ble_eq_true rfl) (Nat.le_of_ble_eq_true rfl) ?_
          refine Eq_ic (v := nI 1) dX12_layParts_72 rfl ?_
          refine Ef_ic_ne dX12_layParts_73 (tgt := 83) rfl (by rw [hv]) ?_
          refine Eq_bp (v := nI 100) dX12_layParts_76 rfl ?_
          refine Eq_iln dX12_layParts_78 rfl ?_
          first | refine Eq_sub dX12_layParts_79 (by omega) ?_ | refine Eam_x_pu dX12_layParts_79 rfl ?_
          refine Eam_x_goto (tgt := 84) dX12_layParts_80 rfl ?_
          refine Eq_is dX12_layParts_84 (by decide) ?_
          refine Eq_bp (v := nI 7) dX12_layParts_86 rfl ?_
          refine Eq_is dX12_layParts_88 (by decide) ?_
          (refine r_lay_in (n := n) (pp := prt n g F S T w j) hWc (by omega) (fun hc2 hf2 hp2 => ?_) 8 hc (by omega) Fr.rf (fun i hi => by rw [hp i hi, if_neg (by omega)]); refine Eq_inc dX12_layParts_145 rfl (by decide) ?_; refine Eam_x_goto (tgt := 31) dX12_layParts_148 rfl ?_; refine ih (j + 1) hc2 _ _ _ (by omega) (hfr.tr hf2) ?_; rw [prt_y hh, hy]; exact hp2)
        · rw [if_neg hv] at hy
          refine Eq_iln dX12_layParts_31 rfl ?_
          refine Eq_aln dX12_layParts_32 rfl ?_
          refine Eq_getI dX12_layParts_33 fl_X12_252 (ws_50 hWc) rfl (by first | assumption | rfl) ?_
          refine Ef_ic_ge dX12_layParts_36 (tgt := 151) rfl (by exact nI_ge (by omega) (by omega)) ?_
          refine Eq_aln dX12_layParts_39 rfl ?_
          refine Eq_iln dX12_layParts_40 rfl ?_
          refine Eq_V1 (N := m_X12_isHeard) dX12_layParts_41 lk_X12_291 mV_X12_isHeard (r_isHeard hWc hRc (by omega)) (by decide) (ws_50 hWc) rfl (by decide) (Nat.le_of_ble_eq_true rfl) (Nat.le_of_ble_eq_true rfl) ?_
          refine Ef_if_eq dX12_layParts_44 (tgt := 145) rfl (by rw [if_pos hh]; decide +kernel) ?_
          refine Eq_iln dX12_layParts_47 rfl ?_
          refine Eq_iln dX12_layParts_48 rfl ?_
          refine Ef_ic_ne dX12_layParts_49 (tgt := 56) rfl (by exact (nI_oN (by omega) (fun k hk => by have := hw k hk; omega)).mpr hwj) ?_
          refine Eq_ic (v := nI 0) dX12_layParts_52 rfl ?_
          refine Eam_x_goto (tgt := 65) dX12_layParts_53 rfl ?_
          refine Eq_isn dX12_layParts_65 (by decide) ?_
          refine Eq_aln dX12_layParts_66 rfl ?_
          refine Eq_iln dX12_layParts_67 rfl ?_
          refine Eq_ic (v := nI 0) dX12_layParts_68 rfl ?_
          refine Eq_V2 (N := m_X12_of) dX12_layParts_69 lk_X12_258 mV_X12_of (r_of hWc hRc (by omega) (by omega)) (by decide) (ws_50 hWc) rfl (by decide) (Nat.le_of_ble_eq_true rfl) (Nat.le_of_ble_eq_true rfl) ?_
          refine Eq_ic (v := nI 1) dX12_layParts_72 rfl ?_
          refine Et_ic_ne 83 dX12_layParts_73 rfl (by exact fun z => hv ((nI_eq (by omega) (by omega)).mp z)) ?_
          refine Eq_iln dX12_layParts_83 rfl ?_
          refine Eq_is dX12_layParts_84 (by decide) ?_
          refine Eq_bp (v := nI 7) dX12_layParts_86 rfl ?_
          refine Eq_is dX12_layParts_88 (by decide) ?_
          (refine r_lay_in (n := n) (pp := prt n g F S T w j) hWc (by omega) (fun hc2 hf2 hp2 => ?_) 8 hc (by omega) Fr.rf (fun i hi => by rw [hp i hi, if_neg (by omega)]); refine Eq_inc dX12_layParts_145 rfl (by decide) ?_; refine Eam_x_goto (tgt := 31) dX12_layParts_148 rfl ?_; refine ih (j + 1) hc2 _ _ _ (by omega) (hfr.tr hf2) ?_; rw [prt_y hh, hy]; exact hp2)
      · have hy := yp_o (n := n) (g := g) (F := F) (S := S) (T := T) hwj hq
        by_cases hv : F 0 j = 1
        · rw [if_pos hv] at hy
          refine Eq_iln dX12_layParts_31 rfl ?_
          refine Eq_aln dX12_layParts_32 rfl ?_
          refine Eq_getI dX12_layParts_33 fl_X12_252 (ws_50 hWc) rfl (by first | assumption | rfl) ?_
          refine Ef_ic_ge dX12_layParts_36 (tgt := 151) rfl (by exact nI_ge (by omega) (by omega)) ?_
          refine Eq_aln dX12_layParts_39 rfl ?_
          refine Eq_iln dX12_layParts_40 rfl ?_
          refine Eq_V1 (N := m_X12_isHeard) dX12_layParts_41 lk_X12_291 mV_X12_isHeard (r_isHeard hWc hRc (by omega)) (by decide) (ws_50 hWc) rfl (by decide) (Nat.le_of_ble_eq_true rfl) (Nat.le_of_ble_eq_true rfl) ?_
          refine Ef_if_eq dX12_layParts_44 (tgt := 145) rfl (by rw [if_pos hh]; decide +kernel) ?_
          refine Eq_iln dX12_layParts_47 rfl ?_
          refine Eq_iln dX12_layParts_48 rfl ?_
          refine Et_ic_ne 56 dX12_layParts_49 rfl (by exact fun z => hwj ((nI_oN (by omega) (fun k hk => by have := hw k hk; omega)).mp z)) ?_
          refine Eq_aln dX12_layParts_56 rfl ?_
          refine Eq_aln dX12_layParts_57 rfl ?_
          refine Eq_iln dX12_layParts_58 rfl ?_
          refine Eq_V1 (N := m_X12_mouthOf) dX12_layParts_59 lk_X12_282 mV_X12_mouthOf ((by have z := r_mouthOf hWc hRc (m := j) (by omega); rw [hq] at z; exact z)) (by decide) (ws_50 hWc) rfl (by decide) (Nat.le_of_ble_eq_true rfl) (Nat.le_of_ble_eq_true rfl) ?_
          refine Eq_V1 (N := m_X12_errorOf) dX12_layParts_62 lk_X12_316 mV_X12_errorOf (r_errorOf hWc hRc (by omega)) (by decide) (ws_50 hWc) rfl (by decide) (Nat.le_of_ble_eq_true rfl) (Nat.le_of_ble_eq_true rfl) ?_
          refine Eq_isn dX12_layParts_65 (by decide) ?_
          refine Eq_aln dX12_layParts_66 rfl ?_
          refine Eq_iln dX12_layParts_67 rfl ?_
          refine Eq_ic (v := nI 0) dX12_layParts_68 rfl ?_
          refine Eq_V2 (N := m_X12_of) dX12_layParts_69 lk_X12_258 mV_X12_of (r_of hWc hRc (by omega) (by omega)) (by decide) (ws_50 hWc) rfl (by decide) (Nat.le_of_ble_eq_true rfl) (Nat.le_of_ble_eq_true rfl) ?_
          refine Eq_ic (v := nI 1) dX12_layParts_72 rfl ?_
          refine Ef_ic_ne dX12_layParts_73 (tgt := 83) rfl (by rw [hv]) ?_
          refine Eq_bp (v := nI 100) dX12_layParts_76 rfl ?_
          refine Eq_iln dX12_layParts_78 rfl ?_
          first | refine Eq_sub dX12_layParts_79 (by omega) ?_ | refine Eam_x_pu dX12_layParts_79 rfl ?_
          refine Eam_x_goto (tgt := 84) dX12_layParts_80 rfl ?_
          refine Eq_is dX12_layParts_84 (by decide) ?_
          refine Eq_bp (v := nI 7) dX12_layParts_86 rfl ?_
          refine Eq_is dX12_layParts_88 (by decide) ?_
          (refine r_lay_in (n := n) (pp := prt n g F S T w j) hWc (by omega) (fun hc2 hf2 hp2 => ?_) 8 hc (by omega) Fr.rf (fun i hi => by rw [hp i hi, if_neg (by omega)]); refine Eq_inc dX12_layParts_145 rfl (by decide) ?_; refine Eam_x_goto (tgt := 31) dX12_layParts_148 rfl ?_; refine ih (j + 1) hc2 _ _ _ (by omega) (hfr.tr hf2) ?_; rw [prt_y hh, hy]; exact hp2)
        · rw [if_neg hv] at hy
          refine Eq_iln dX12_layParts_31 rfl ?_
          refine Eq_aln dX12_layParts_32 rfl ?_
          refine Eq_getI dX12_layParts_33 fl_X12_252 (ws_50 hWc) rfl (by first | assumption | rfl) ?_
          refine Ef_ic_ge dX12_layParts_36 (tgt := 151) rfl (by exact nI_ge (by omega) (by omega)) ?_
          refine Eq_aln dX12_layParts_39 rfl ?_
          refine Eq_iln dX12_layParts_40 rfl ?_
          refine Eq_V1 (N := m_X12_isHeard) dX12_layParts_41 lk_X12_291 mV_X12_isHeard (r_isHeard hWc hRc (by omega)) (by decide) (ws_50 hWc) rfl (by decide) (Nat.le_of_ble_eq_true rfl) (Nat.le_of_ble_eq_true rfl) ?_
          refine Ef_if_eq dX12_layParts_44 (tgt := 145) rfl (by rw [if_pos hh]; decide +kernel) ?_
          refine Eq_iln dX12_layParts_47 rfl ?_
          refine Eq_iln dX12_layParts_48 rfl ?_
          refine Et_ic_ne 56 dX12_layParts_49 rfl (by exact fun z => hwj ((nI_oN (by omega) (fun k hk => by have := hw k hk; omega)).mp z)) ?_
          refine Eq_aln dX12_layParts_56 rfl ?_
          refine Eq_aln dX12_layParts_57 rfl ?_
          refine Eq_iln dX12_layParts_58 rfl ?_
          refine Eq_V1 (N := m_X12_mouthOf) dX12_layParts_59 lk_X12_282 mV_X12_mouthOf ((by have z := r_mouthOf hWc hRc (m := j) (by omega); rw [hq] at z; exact z)) (by decide) (ws_50 hWc) rfl (by decide) (Nat.le_of_ble_eq_true rfl) (Nat.le_of_ble_eq_true rfl) ?_
          refine Eq_V1 (N := m_X12_errorOf) dX12_layParts_62 lk_X12_316 mV_X12_errorOf (r_errorOf hWc hRc (by omega)) (by decide) (ws_50 hWc) rfl (by decide) (Nat.le_of_ble_eq_true rfl) (Nat.le_of_ble_eq_true rfl) ?_
          refine Eq_isn dX12_layParts_65 (by decide) ?_
          refine Eq_aln dX12_layParts_66 rfl ?_
          refine Eq_iln dX12_layParts_67 rfl ?_
          refine Eq_ic (v := nI 0) dX12_layParts_68 rfl ?_
          refine Eq_V2 (N := m_X12_of) dX12_layParts_69 lk_X12_258 mV_X12_of (r_of hWc hRc (by omega) (by omega)) (by decide) (ws_50 hWc) rfl (by decide) (Nat.le_of_ble_eq_true rfl) (Nat.le_of_ble_eq_true rfl) ?_
          refine Eq_ic (v := nI 1) dX12_layParts_72 rfl ?_
          refine Et_ic_ne 83 dX12_layParts_73 rfl (by exact fun z => hv ((nI_eq (by omega) (by omega)).mp z)) ?_
          refine Eq_iln dX12_layParts_83 rfl ?_
          refine Eq_is dX12_layParts_84 (by decide) ?_
          refine Eq_bp (v := nI 7) dX12_layParts_86 rfl ?_
          refine Eq_is dX12_layParts_88 (by decide) ?_
          (refine r_lay_in (n := n) (pp := prt n g F S T w j) hWc (by omega) (fun hc2 hf2 hp2 => ?_) 8 hc (by omega) Fr.rf (fun i hi => by rw [hp i hi, if_neg (by omega)]); refine Eq_inc dX12_layParts_145 rfl (by decide) ?_; refine Eam_x_goto (tgt := 31) dX12_layParts_148 rfl ?_; refine ih (j + 1) hc2 _ _ _ (by omega) (hfr.tr hf2) ?_; rw [prt_y hh, hy]; exact hp2)
    · refine Eq_iln dX12_layParts_31 rfl ?_
      refine Eq_aln dX12_layParts_32 rfl ?_
      refine Eq_getI dX12_layParts_33 fl_X12_252 (ws_50 hWc) rfl (by first | assumption | rfl) ?_
      refine Ef_ic_ge dX12_layParts_36 (tgt := 151) rfl (by exact nI_ge (by omega) (by omega)) ?_
      refine Eq_aln dX12_layParts_39 rfl ?_
      refine Eq_iln dX12_layParts_40 rfl ?_
      refine Eq_V1 (N := m_X12_isHeard) dX12_layParts_41 lk_X12_291 mV_X12_isHeard (r_isHeard hWc hRc (by omega)) (by decide) (ws_50 hWc) rfl (by decide) (Nat.le_of_ble_eq_true rfl) (Nat.le_of_ble_eq_true rfl) ?_
      refine Et_if_eq 145 dX12_layParts_44 rfl (by rw [if_neg hh]; rfl) ?_
      refine Eq_inc dX12_layParts_145 rfl (by decide) ?_
      refine Eam_x_goto (tgt := 31) dX12_layParts_148 rfl ?_
      (refine ih (j + 1) hc _ _ _ (by omega) hfr ?_; rw [prt_n hh]; exact hp)
set_option maxHeartbeats 2000000 in
theorem r_lay_0 {h : am_H} {n : Nat} {g : Bool} {F : Nat → Nat → Nat} {S T : Nat → Nat} (hW : Wd h) (hR : RB h n g F S T) {w : Option Nat} (hw : ∀ k, w = some k → k < n)  : ∀ k j hc (x3 x4 x5 : Option Value), j + k = 8 → Fr [64] h hc → (∀ i, i < j → am_l hc 64 i = lN (if i = 0 then 1 else 0)) → am_E 3 m_X12_layParts 2 [some (.ref 50), some (.int (oN w)), some (.int (nI j)), x3, x4, x5] [] hc (fun v h2 => v = none ∧ Fr [64] h h2 ∧ ∀ i, i < 8 → am_l h2 64 i = lN (prt n g F S T w n i)) := by
  obtain ⟨hn, hg, h7, hF, hB, hS, hT⟩ := id hR
  intro k
  induction k with
  | zero =>
    intro j hc x3 x4 x5 hj hfr hp
    have hj8 : j = 8 := by omega
    subst hj8
    have hWc := hfr.Wd hW
    refine Eq_iln dX12_layParts_2 rfl ?_
    refine Eq_bp (v := nI 7) dX12_layParts_3 rfl ?_
    refine Et_ic_gt 29 dX12_layParts_5 rfl (by decide +kernel) ?_
    refine Eq_ic (v := nI 0) dX12_layParts_29 rfl ?_
    refine Eq_isn dX12_layParts_30 (by decide) ?_
    exact r_lay_lp hW hR hw n 0 hc _ _ _ (by omega) hfr (fun i hi => by rw [hp i hi]; rfl)
  | succ k ih =>
    intro j hc x3 x4 x5 hj hfr hp
    have hWc := hfr.Wd hW
    refine Eq_iln dX12_layParts_2 rfl ?_
    refine Eq_bp (v := nI 7) dX12_layParts_3 rfl ?_
    refine Ef_ic_gt dX12_layParts_5 (tgt := 29) rfl (by exact nI_nlt (by omega) (by omega)) ?_
    refine Eq_aln dX12_layParts_8 rfl ?_
    refine Eq_getR dX12_layParts_9 fl_X12_53 (ws_50 hWc) rfl (wp_50_29 hWc) ?_
    refine Eq_iln dX12_layParts_12 rfl ?_
    refine Eq_iln dX12_layParts_13 rfl ?_
    first | refine En_if_ne 21 dX12_layParts_14 rfl (by omega) (fun c14 => ?_) (fun c14 => ?_) | refine Eb_if_ne 21 dX12_layParts_14 rfl (fun c14 => ?_) (fun c14 => ?_)
    · first
      | (exfalso; omega)
      | (refine Eq_lc (v := lN 0) dX12_layParts_21 rfl ?_
         refine Eq_lst dX12_layParts_22 (ws_64 hWc) (by omega) (by omega) ?_
         refine Eq_inc dX12_layParts_23 rfl (by decide) ?_
         refine Eam_x_goto (tgt := 2) dX12_layParts_26 rfl ?_
         (refine ih (j + 1) _ _ _ _ (by omega) (hfr.tr (Fr.wL (by decide))) (fun i hi => ?_); rw [wL_eq]; exact in_step (by simp [c14]) (fun z => hp i (by omega))))
    · first
      | (exfalso; omega)
      | (refine Eq_lc (v := lN 1) dX12_layParts_17 rfl ?_
         refine Eam_x_goto (tgt := 22) dX12_layParts_18 rfl ?_
         refine Eq_lst dX12_layParts_22 (ws_64 hWc) (by omega) (by omega) ?_
         refine Eq_inc dX12_layParts_23 rfl (by decide) ?_
         refine Eam_x_goto (tgt := 2) dX12_layParts_26 rfl ?_
         (refine ih (j + 1) _ _ _ _ (by omega) (hfr.tr (Fr.wL (by decide))) (fun i hi => ?_); rw [wL_eq]; exact in_step (by simp [c14]) (fun z => hp i (by omega))))
set_option maxHeartbeats 2000000 in
theorem r_layParts {h : am_H} {n : Nat} {g : Bool} {F : Nat → Nat → Nat} {S T : Nat → Nat} (hW : Wd h) (hR : RB h n g F S T) {w : Option Nat} (hw : ∀ k, w = some k → k < n)  : am_D 3 m_X12_layParts [.ref 50, .int (oN w)] h (fun v h2 => v = none ∧ Fr [64] h h2 ∧ ∀ i, i < 8 → am_l h2 64 i = lN (prt n g F S T w n i)) := by
  refine Eq_ic (v := nI 0) dX12_layParts_0 rfl ?_
  refine Eq_isn dX12_layParts_1 (by decide) ?_
  exact r_lay_0 hW hR hw 8 0 h _ _ _ (by omega) Fr.rf (fun i hi => by omega)
