theorem wLi2 {h : am_H} {v : Int64} : am_l (am_wL h 50 42 v) 73 = am_l h 73 := wL_ne (by decide)
theorem bdec {a b : Nat} (hs : a < 1000) (h2 : b < 1000) : (nI 2 * nI a ≤ nI b) = ¬ (b < a * 2) := by
  rw [pk_mul]
  apply propext
  rw [nI_leI (by omega) (by omega)]
  omega
set_option maxHeartbeats 2000000 in
theorem r_sitting_lp {h : am_H} {n : Nat} {g : Bool} {F : Nat → Nat → Nat} {S T : Nat → Nat} (hW : Wd h) (hR : RB h n g F S T) {hd : Nat} {y : Nat → Nat} {p : Nat → Bool} {st : Nat → Int64} {dr : Int64} (hTB : TB 50 41 42 71 72 73 h hd y p st dr) (hlt : hd < 40) : ∀ k j hc (x3 : Option Value), j + k = n → Fx [73] [(50, 42)] h hc → am_l hc 50 42 = (sg n g F S T dr j).1 → (∀ k, am_l hc 73 k = if k = hd then dr else am_l h 73 k) → am_E 4 m_X12_sitting 35 [some (.ref 50), some (.int (nI (sg n g F S T dr j).2)), some (.int (nI j)), x3] [] hc (fun v h2 => v = some (.int (nI (sg n g F S T dr n).2)) ∧ Fx [71, 72, 73] [(50, 41), (50, 42)] h h2 ∧ TB 50 41 42 71 72 73 h2 (hd + 1) (up1 y hd (sg n g F S T dr n).2) (up1 p hd (decide (hct n g F S T < (sg n g F S T dr n).2 * 2))) (up1 st hd dr) (sg n g F S T dr n).1 ∧ ∀ k, k ≠ hd → am_i h2 72 k = am_i h 72 k) := by
  obtain ⟨hn, hg, h7, hF, hB, hS, hT⟩ := id hR
  obtain ⟨hd0, h40, hdr, hk1⟩ := id hTB
  intro k
  induction k with
  | zero =>
    intro j hc x3 hj hfr hsl h73
    have hjn : j = n := by omega
    subst hjn
    have hsle := sg_le (n := j) (g := g) (F := F) (S := S) (T := T) (s0 := dr) j
    have a2 : ct (fun m => hrd j g F S T m) j ≤ j := ct_le _ j
    have hWc := hfr.Wd hW
    have hRc := hR.fx hfr (by decide)
    have hn := hRc.1
    have hdc : am_i hc 50 41 = nI hd := (hfr.i (by decide) (by decide)).trans hd0
    refine Eq_iln dX12_sitting_35 rfl ?_
    refine Eq_aln dX12_sitting_36 rfl ?_
    refine Eq_getI dX12_sitting_37 fl_X12_252 (ws_50 hWc) rfl (by first | assumption | rfl) ?_
    refine Et_ic_ge 131 dX12_sitting_40 rfl (by exact nI_le (by omega) (by omega)) ?_
    skip
    by_cases hc2 : ct (fun m => hrd j g F S T m) j < (sg j g F S T dr j).2 * 2
    · refine Eq_aln dX12_sitting_131 rfl ?_
      refine Eq_getR dX12_sitting_132 fl_X12_76 (ws_50 hWc) rfl (wp_50_38 hWc) ?_
      refine Eq_aln dX12_sitting_135 rfl ?_
      refine Eq_getI dX12_sitting_136 fl_X12_264 (ws_50 hWc) rfl hdc ?_
      refine Eq_iln dX12_sitting_139 rfl ?_
      refine Eq_ast dX12_sitting_140 (ws_71 hWc) (by omega) (by omega) ?_
      refine Eq_aln dX12_sitting_141 rfl ?_
      refine Eq_getR dX12_sitting_142 fl_X12_79 (ws_50 hWc) rfl (wp_50_39 hWc) ?_
      refine Eq_aln dX12_sitting_145 rfl ?_
      refine Eq_getI dX12_sitting_146 fl_X12_264 (ws_50 hWc) rfl hdc ?_
      refine Eq_ic (v := nI 2) dX12_sitting_149 rfl ?_
      refine Eq_iln dX12_sitting_150 rfl ?_
      first | refine Eq_mul dX12_sitting_151 ?_ | refine Eam_x_pu dX12_sitting_151 rfl ?_
      refine Eq_aln dX12_sitting_152 rfl ?_
      refine Eq_V0 (N := m_X12_heardMany) dX12_sitting_153 lk_X12_326 mV_X12_heardMany (r_heardMany (Fx.Wd (Fx.wI (A := [71]) (B := []) (Or.inl (by decide))) hWc) (hRc.fx (Fx.wI (A := [71]) (B := []) (Or.inl (by decide))) (by decide))) (by decide) (ws_50 hWc) rfl (by decide) (Nat.le_of_ble_eq_true rfl) (Nat.le_of_ble_eq_true rfl) ?_
      refine Ef_ic_le dX12_sitting_156 (tgt := 163) rfl (by exact nI_ge (by omega) (by omega)) ?_
      refine Eq_ic (v := nI 1) dX12_sitting_159 rfl ?_
      refine Eam_x_goto (tgt := 164) dX12_sitting_160 rfl ?_
      refine Eq_zst dX12_sitting_164 (ws_72 hWc) (by omega) (by omega) (by first | exact Or.inl rfl | exact Or.inr rfl | assumption) ?_
      refine Eq_aln dX12_sitting_165 rfl ?_
      refine Eam_x_pu dX12_sitting_166 rfl ?_
      refine Eq_getI dX12_sitting_167 fl_X12_264 (ws_50 hWc) rfl hdc ?_
      refine Eq_ic (v := nI 1) dX12_sitting_170 rfl ?_
      first | refine Eq_add dX12_sitting_171 ?_ | refine Eam_x_pu dX12_sitting_171 rfl ?_
      refine Eam_x_putI dX12_sitting_172 (fw_X12_264 rfl) (ws_50 hWc) (Or.inl rfl) ?_
      refine Eq_iln dX12_sitting_175 rfl ?_
      refine Eq_ir dX12_sitting_176 rfl ?_
      refine ⟨rfl, ?_, ?_, fun k hk => ?_⟩
      · exact ((((hfr.mono (by decide) (by decide)).tr (Fx.wI (Or.inl (by decide)))).tr (Fx.wI (Or.inl (by decide)))).tr (Fx.wI (Or.inr (by decide))))
      · refine hTB.put hlt (by omega) (by rw [wI_eq]; rfl) hsl (fun k hk => ?_) (fun k hk => ?_) (fun k hk => ?_)
        · rw [wI_ne (by decide), wI_ne (by decide), wI_eq, hfr.ia (by decide) (by decide)]
        · rw [wI_ne (by decide), wI_eq, wI_ne (by decide), hfr.ia (by decide) (by decide)]
          simp only [decide_eq_true_eq]
          rw [if_pos hc2]
        · rw [wIl, wIl, wIl, h73]
      · rw [wI_ne (by decide), wI_eq, if_neg hk, wI_ne (by decide), hfr.ia (by decide) (by decide)]
    · refine Eq_aln dX12_sitting_131 rfl ?_
      refine Eq_getR dX12_sitting_132 fl_X12_76 (ws_50 hWc) rfl (wp_50_38 hWc) ?_
      refine Eq_aln dX12_sitting_135 rfl ?_
      refine Eq_getI dX12_sitting_136 fl_X12_264 (ws_50 hWc) rfl hdc ?_
      refine Eq_iln dX12_sitting_139 rfl ?_
      refine Eq_ast dX12_sitting_140 (ws_71 hWc) (by omega) (by omega) ?_
      refine Eq_aln dX12_sitting_141 rfl ?_
      refine Eq_getR dX12_sitting_142 fl_X12_79 (ws_50 hWc) rfl (wp_50_39 hWc) ?_
      refine Eq_aln dX12_sitting_145 rfl ?_
      refine Eq_getI dX12_sitting_146 fl_X12_264 (ws_50 hWc) rfl hdc ?_
      refine Eq_ic (v := nI 2) dX12_sitting_149 rfl ?_
      refine Eq_iln dX12_sitting_150 rfl ?_
      first | refine Eq_mul dX12_sitting_151 ?_ | refine Eam_x_pu dX12_sitting_151 rfl ?_
      refine Eq_aln dX12_sitting_152 rfl ?_
      refine Eq_V0 (N := m_X12_heardMany) dX12_sitting_153 lk_X12_326 mV_X12_heardMany (r_heardMany (Fx.Wd (Fx.wI (A := [71]) (B := []) (Or.inl (by decide))) hWc) (hRc.fx (Fx.wI (A := [71]) (B := []) (Or.inl (by decide))) (by decide))) (by decide) (ws_50 hWc) rfl (by decide) (Nat.le_of_ble_eq_true rfl) (Nat.le_of_ble_eq_true rfl) ?_
      refine Et_ic_le 163 dX12_sitting_156 rfl (by exact nI_le (by omega) (by omega)) ?_
      refine Eq_ic (v := nI 0) dX12_sitting_163 rfl ?_
      refine Eq_zst dX12_sitting_164 (ws_72 hWc) (by omega) (by omega) (by first | exact Or.inl rfl | exact Or.inr rfl | assumption) ?_
      refine Eq_aln dX12_sitting_165 rfl ?_
      refine Eam_x_pu dX12_sitting_166 rfl ?_
      refine Eq_getI dX12_sitting_167 fl_X12_264 (ws_50 hWc) rfl hdc ?_
      refine Eq_ic (v := nI 1) dX12_sitting_170 rfl ?_
      first | refine Eq_add dX12_sitting_171 ?_ | refine Eam_x_pu dX12_sitting_171 rfl ?_
      refine Eam_x_putI dX12_sitting_172 (fw_X12_264 rfl) (ws_50 hWc) (Or.inl rfl) ?_
      refine Eq_iln dX12_sitting_175 rfl ?_
      refine Eq_ir dX12_sitting_176 rfl ?_
      refine ⟨rfl, ?_, ?_, fun k hk => ?_⟩
      · exact ((((hfr.mono (by decide) (by decide)).tr (Fx.wI (Or.inl (by decide)))).tr (Fx.wI (Or.inl (by decide)))).tr (Fx.wI (Or.inr (by decide))))
      · refine hTB.put hlt (by omega) (by rw [wI_eq]; rfl) hsl (fun k hk => ?_) (fun k hk => ?_) (fun k hk => ?_)
        · rw [wI_ne (by decide), wI_ne (by decide), wI_eq, hfr.ia (by decide) (by decide)]
        · rw [wI_ne (by decide), wI_eq, wI_ne (by decide), hfr.ia (by decide) (by decide)]
          simp only [decide_eq_true_eq]
          rw [if_neg hc2]
        · rw [wIl, wIl, wIl, h73]
      · rw [wI_ne (by decide), wI_eq, if_neg hk, wI_ne (by decide), hfr.ia (by decide) (by decide)]
  | succ k ih =>
    intro j hc x3 hj hfr hsl h73
    have hWc := hfr.Wd hW
    have hRc := hR.fx hfr (by decide)
    have hn := hRc.1
    have hdc : am_i hc 50 41 = nI hd := (hfr.i (by decide) (by decide)).trans hd0
    by_cases hh : hrd n g F S T j = true
    · obtain ⟨q, hq⟩ := hrd_m hh
      have hqn := mth_lt hR.S hR.T (by omega) hq
      have hslp := slp_le (fun i m hi hm => (hF i m hi hm).2) hqn
      have hb := hB j (by omega)
      have hfd : Fx [73] [(50, 42)] hc (am_wL hc 50 42 (drw (sg n g F S T dr j).1)) := Fx.wL (Or.inr (by decide))
      have hWd := hfd.Wd hWc
      have hRd := hRc.fx hfd (by decide)
      have hle : am_l (am_wL hc 50 42 (drw (sg n g F S T dr j).1)) 50 42 = drw (sg n g F S T dr j).1 := by rw [wL_eq, if_pos rfl]
      have hld : am_l (am_wL hc 50 42 (drw (sg n g F S T dr j).1)) 50 42 = (sg n g F S T dr (j + 1)).1 := by rw [hle, sg_y hh hq]
      have hmod := Nat.mod_lt (dru (drw (sg n g F S T dr j).1)) (show 0 < 100 by omega)
      by_cases hv : F 0 j = 1
      · by_cases hwr : dru (drw (sg n g F S T dr j).1) % 100 < slp F q
        · refine Eq_iln dX12_sitting_35 rfl ?_
          refine Eq_aln dX12_sitting_36 rfl ?_
          refine Eq_getI dX12_sitting_37 fl_X12_252 (ws_50 hWc) rfl (by first | assumption | rfl) ?_
          refine Ef_ic_ge dX12_sitting_40 (tgt := 131) rfl (by exact nI_ge (by omega) (by omega)) ?_
          refine Eq_aln dX12_sitting_43 rfl ?_
          refine Eq_iln dX12_sitting_44 rfl ?_
          refine Eq_V1 (N := m_X12_isHeard) dX12_sitting_45 lk_X12_291 mV_X12_isHeard (r_isHeard hWc hRc (by omega)) (by decide) (ws_50 hWc) rfl (by decide) (Nat.le_of_ble_eq_true rfl) (Nat.le_of_ble_eq_true rfl) ?_
          refine Ef_if_eq dX12_sitting_48 (tgt := 125) rfl (by rw [if_pos hh]; decide +kernel) ?_
          refine Eq_aln dX12_sitting_51 rfl ?_
          refine Eq_aln dX12_sitting_52 rfl ?_
          refine Eq_getL dX12_sitting_53 fl_X12_393 (ws_50 hWc) rfl hsl ?_
          refine Eam_x_ldc2 dX12_sitting_56 kc_X12_396 ?_
          refine Eam_x_pu dX12_sitting_59 rfl ?_
          refine Eam_x_ldc2 dX12_sitting_60 kc_X12_398 ?_
          refine Eam_x_pu dX12_sitting_63 rfl ?_
          rw [show (sg n g F S T dr j).1 * 6364136223846793005 + 1442695040888963407 = drw (sg n g F S T dr j).1 from rfl]
          refine Eam_x_putL dX12_sitting_64 (fw_X12_393 rfl) (ws_50 hWc) rfl ?_
          refine Eq_aln dX12_sitting_67 rfl ?_
          refine Eq_getL dX12_sitting_68 fl_X12_393 (ws_50 hWd) rfl hle ?_
          refine Eq_bp (v := nI 33) dX12_sitting_71 rfl ?_
          refine Eam_x_pu dX12_sitting_73 rfl ?_
          rw [dru_eq]
          refine Eam_x_ldc2 dX12_sitting_74 kc_X12_319 ?_
          refine Eam_x_lrem dX12_sitting_77 (by decide +kernel) ?_
          rw [show (100 : Int64) = lN 100 by decide +kernel, lrem100]
          refine Eq_aln dX12_sitting_78 rfl ?_
          refine Eq_aln dX12_sitting_79 rfl ?_
          refine Eq_iln dX12_sitting_80 rfl ?_
          refine Eq_V1 (N := m_X12_mouthOf) dX12_sitting_81 lk_X12_282 mV_X12_mouthOf ((by have z := r_mouthOf hWd hRd (m := j) (by omega); rw [hq] at z; exact z)) (by decide) (ws_50 hWc) rfl (by decide) (Nat.le_of_ble_eq_true rfl) (Nat.le_of_ble_eq_true rfl) ?_
          refine Eq_V1 (N := m_X12_errorOf) dX12_sitting_84 lk_X12_316 mV_X12_errorOf (r_errorOf hWd hRd (by omega)) (by decide) (ws_50 hWc) rfl (by decide) (Nat.le_of_ble_eq_true rfl) (Nat.le_of_ble_eq_true rfl) ?_
          first | refine Eq_i2l dX12_sitting_87 (by omega) ?_ | refine Eam_x_pu dX12_sitting_87 rfl ?_
          refine Eam_x_pu dX12_sitting_88 rfl ?_
          refine Ef_if_ge dX12_sitting_89 (tgt := 96) rfl (by rw [lg_cmp_ge]; exact fun z => absurd ((pk_lLE (by omega) (by omega)).mp z) (by omega)) ?_
          refine Eq_ic (v := nI 1) dX12_sitting_92 rfl ?_
          refine Eam_x_goto (tgt := 97) dX12_sitting_93 rfl ?_
          refine Eq_isn dX12_sitting_97 (by decide) ?_
          refine Eq_iln dX12_sitting_98 rfl ?_
          refine Eq_aln dX12_sitting_99 rfl ?_
          refine Eq_iln dX12_sitting_100 rfl ?_
          refine Eq_ic (v := nI 0) dX12_sitting_101 rfl ?_
          refine Eq_V2 (N := m_X12_of) dX12_sitting_102 lk_X12_258 mV_X12_of (r_of hWd hRd (by omega) (by omega)) (by decide) (ws_50 hWc) rfl (by decide) (Nat.le_of_ble_eq_true rfl) (Nat.le_of_ble_eq_true rfl) ?_
          refine Eq_ic (v := nI 1) dX12_sitting_105 rfl ?_
          refine Ef_ic_ne dX12_sitting_106 (tgt := 113) rfl (by rw [hv]) ?_
          refine Eq_ic (v := nI 1) dX12_sitting_109 rfl ?_
          refine Eam_x_goto (tgt := 114) dX12_sitting_110 rfl ?_
          refine Eq_iln dX12_sitting_114 rfl ?_
          refine Et_ic_eq 122 dX12_sitting_115 rfl (by rfl) ?_
          refine Eq_ic (v := nI 0) dX12_sitting_122 rfl ?_
          first | refine Eq_add dX12_sitting_123 ?_ | refine Eam_x_pu dX12_sitting_123 rfl ?_
          refine Eq_isn dX12_sitting_124 (by decide) ?_
          refine Eq_inc dX12_sitting_125 rfl (by decide) ?_
          refine Eam_x_goto (tgt := 35) dX12_sitting_128 rfl ?_
          (have q := fun x3 => ih (j + 1) _ x3 (by omega) (hfr.tr hfd) hld (by rw [wLi2]; exact h73); simp only [sg_y hh hq] at q; rw [if_pos (by simp [hv, hwr])] at q; exact q _)
        · refine Eq_iln dX12_sitting_35 rfl ?_
          refine Eq_aln dX12_sitting_36 rfl ?_
          refine Eq_getI dX12_sitting_37 fl_X12_252 (ws_50 hWc) rfl (by first | assumption | rfl) ?_
          refine Ef_ic_ge dX12_sitting_40 (tgt := 131) rfl (by exact nI_ge (by omega) (by omega)) ?_
          refine Eq_aln dX12_sitting_43 rfl ?_
          refine Eq_iln dX12_sitting_44 rfl ?_
          refine Eq_V1 (N := m_X12_isHeard) dX12_sitting_45 lk_X12_291 mV_X12_isHeard (r_isHeard hWc hRc (by omega)) (by decide) (ws_50 hWc) rfl (by decide) (Nat.le_of_ble_eq_true rfl) (Nat.le_of_ble_eq_true rfl) ?_
          refine Ef_if_eq dX12_sitting_48 (tgt := 125) rfl (by rw [if_pos hh]; decide +kernel) ?_
          refine Eq_aln dX12_sitting_51 rfl ?_
          refine Eq_aln dX12_sitting_52 rfl ?_
          refine Eq_getL dX12_sitting_53 fl_X12_393 (ws_50 hWc) rfl hsl ?_
          refine Eam_x_ldc2 dX12_sitting_56 kc_X12_396 ?_
          refine Eam_x_pu dX12_sitting_59 rfl ?_
          refine Eam_x_ldc2 dX12_sitting_60 kc_X12_398 ?_
          refine Eam_x_pu dX12_sitting_63 rfl ?_
          rw [show (sg n g F S T dr j).1 * 6364136223846793005 + 1442695040888963407 = drw (sg n g F S T dr j).1 from rfl]
          refine Eam_x_putL dX12_sitting_64 (fw_X12_393 rfl) (ws_50 hWc) rfl ?_
          refine Eq_aln dX12_sitting_67 rfl ?_
          refine Eq_getL dX12_sitting_68 fl_X12_393 (ws_50 hWd) rfl hle ?_
          refine Eq_bp (v := nI 33) dX12_sitting_71 rfl ?_
          refine Eam_x_pu dX12_sitting_73 rfl ?_
          rw [dru_eq]
          refine Eam_x_ldc2 dX12_sitting_74 kc_X12_319 ?_
          refine Eam_x_lrem dX12_sitting_77 (by decide +kernel) ?_
          rw [show (100 : Int64) = lN 100 by decide +kernel, lrem100]
          refine Eq_aln dX12_sitting_78 rfl ?_
          refine Eq_aln dX12_sitting_79 rfl ?_
          refine Eq_iln dX12_sitting_80 rfl ?_
          refine Eq_V1 (N := m_X12_mouthOf) dX12_sitting_81 lk_X12_282 mV_X12_mouthOf ((by have z := r_mouthOf hWd hRd (m := j) (by omega); rw [hq] at z; exact z)) (by decide) (ws_50 hWc) rfl (by decide) (Nat.le_of_ble_eq_true rfl) (Nat.le_of_ble_eq_true rfl) ?_
          refine Eq_V1 (N := m_X12_errorOf) dX12_sitting_84 lk_X12_316 mV_X12_errorOf (r_errorOf hWd hRd (by omega)) (by decide) (ws_50 hWc) rfl (by decide) (Nat.le_of_ble_eq_true rfl) (Nat.le_of_ble_eq_true rfl) ?_
          first | refine Eq_i2l dX12_sitting_87 (by omega) ?_ | refine Eam_x_pu dX12_sitting_87 rfl ?_
          refine Eam_x_pu dX12_sitting_88 rfl ?_
          refine Et_if_ge 96 dX12_sitting_89 rfl (by rw [lg_cmp_ge]; exact (pk_lLE (by omega) (by omega)).mpr (by omega)) ?_
          refine Eq_ic (v := nI 0) dX12_sitting_96 rfl ?_
          refine Eq_isn dX12_sitting_97 (by decide) ?_
          refine Eq_iln dX12_sitting_98 rfl ?_
          refine Eq_aln dX12_sitting_99 rfl ?_
          refine Eq_iln dX12_sitting_100 rfl ?_
          refine Eq_ic (v := nI 0) dX12_sitting_101 rfl ?_
          refine Eq_V2 (N := m_X12_of) dX12_sitting_102 lk_X12_258 mV_X12_of (r_of hWd hRd (by omega) (by omega)) (by decide) (ws_50 hWc) rfl (by decide) (Nat.le_of_ble_eq_true rfl) (Nat.le_of_ble_eq_true rfl) ?_
          refine Eq_ic (v := nI 1) dX12_sitting_105 rfl ?_
          refine Ef_ic_ne dX12_sitting_106 (tgt := 113) rfl (by rw [hv]) ?_
          refine Eq_ic (v := nI 1) dX12_sitting_109 rfl ?_
          refine Eam_x_goto (tgt := 114) dX12_sitting_110 rfl ?_
          refine Eq_iln dX12_sitting_114 rfl ?_
          refine Ef_ic_eq dX12_sitting_115 (tgt := 122) rfl (by decide +kernel) ?_
          refine Eq_ic (v := nI 1) dX12_sitting_118 rfl ?_
          refine Eam_x_goto (tgt := 123) dX12_sitting_119 rfl ?_
          first | refine Eq_add dX12_sitting_123 ?_ | refine Eam_x_pu dX12_sitting_123 rfl ?_
          refine Eq_isn dX12_sitting_124 (by decide) ?_
          refine Eq_inc dX12_sitting_125 rfl (by decide) ?_
          refine Eam_x_goto (tgt := 35) dX12_sitting_128 rfl ?_
          (have q := fun x3 => ih (j + 1) _ x3 (by omega) (hfr.tr hfd) hld (by rw [wLi2]; exact h73); simp only [sg_y hh hq] at q; rw [if_neg (by simp [hv, hwr])] at q; exact q _)
      · by_cases hwr : dru (drw (sg n g F S T dr j).1) % 100 < slp F q
        · refine Eq_iln dX12_sitting_35 rfl ?_
          refine Eq_aln dX12_sitting_36 rfl ?_
          refine Eq_getI dX12_sitting_37 fl_X12_252 (ws_50 hWc) rfl (by first | assumption | rfl) ?_
          refine Ef_ic_ge dX12_sitting_40 (tgt := 131) rfl (by exact nI_ge (by omega) (by omega)) ?_
          refine Eq_aln dX12_sitting_43 rfl ?_
          refine Eq_iln dX12_sitting_44 rfl ?_
          refine Eq_V1 (N := m_X12_isHeard) dX12_sitting_45 lk_X12_291 mV_X12_isHeard (r_isHeard hWc hRc (by omega)) (by decide) (ws_50 hWc) rfl (by decide) (Nat.le_of_ble_eq_true rfl) (Nat.le_of_ble_eq_true rfl) ?_
          refine Ef_if_eq dX12_sitting_48 (tgt := 125) rfl (by rw [if_pos hh]; decide +kernel) ?_
          refine Eq_aln dX12_sitting_51 rfl ?_
          refine Eq_aln dX12_sitting_52 rfl ?_
          refine Eq_getL dX12_sitting_53 fl_X12_393 (ws_50 hWc) rfl hsl ?_
          refine Eam_x_ldc2 dX12_sitting_56 kc_X12_396 ?_
          refine Eam_x_pu dX12_sitting_59 rfl ?_
          refine Eam_x_ldc2 dX12_sitting_60 kc_X12_398 ?_
          refine Eam_x_pu dX12_sitting_63 rfl ?_
          rw [show (sg n g F S T dr j).1 * 6364136223846793005 + 1442695040888963407 = drw (sg n g F S T dr j).1 from rfl]
          refine Eam_x_putL dX12_sitting_64 (fw_X12_393 rfl) (ws_50 hWc) rfl ?_
          refine Eq_aln dX12_sitting_67 rfl ?_
          refine Eq_getL dX12_sitting_68 fl_X12_393 (ws_50 hWd) rfl hle ?_
          refine Eq_bp (v := nI 33) dX12_sitting_71 rfl ?_
          refine Eam_x_pu dX12_sitting_73 rfl ?_
          rw [dru_eq]
          refine Eam_x_ldc2 dX12_sitting_74 kc_X12_319 ?_
          refine Eam_x_lrem dX12_sitting_77 (by decide +kernel) ?_
          rw [show (100 : Int64) = lN 100 by decide +kernel, lrem100]
          refine Eq_aln dX12_sitting_78 rfl ?_
          refine Eq_aln dX12_sitting_79 rfl ?_
          refine Eq_iln dX12_sitting_80 rfl ?_
          refine Eq_V1 (N := m_X12_mouthOf) dX12_sitting_81 lk_X12_282 mV_X12_mouthOf ((by have z := r_mouthOf hWd hRd (m := j) (by omega); rw [hq] at z; exact z)) (by decide) (ws_50 hWc) rfl (by decide) (Nat.le_of_ble_eq_true rfl) (Nat.le_of_ble_eq_true rfl) ?_
          refine Eq_V1 (N := m_X12_errorOf) dX12_sitting_84 lk_X12_316 mV_X12_errorOf (r_errorOf hWd hRd (by omega)) (by decide) (ws_50 hWc) rfl (by decide) (Nat.le_of_ble_eq_true rfl) (Nat.le_of_ble_eq_true rfl) ?_
          first | refine Eq_i2l dX12_sitting_87 (by omega) ?_ | refine Eam_x_pu dX12_sitting_87 rfl ?_
          refine Eam_x_pu dX12_sitting_88 rfl ?_
          refine Ef_if_ge dX12_sitting_89 (tgt := 96) rfl (by rw [lg_cmp_ge]; exact fun z => absurd ((pk_lLE (by omega) (by omega)).mp z) (by omega)) ?_
          refine Eq_ic (v := nI 1) dX12_sitting_92 rfl ?_
          refine Eam_x_goto (tgt := 97) dX12_sitting_93 rfl ?_
          refine Eq_isn dX12_sitting_97 (by decide) ?_
          refine Eq_iln dX12_sitting_98 rfl ?_
          refine Eq_aln dX12_sitting_99 rfl ?_
          refine Eq_iln dX12_sitting_100 rfl ?_
          refine Eq_ic (v := nI 0) dX12_sitting_101 rfl ?_
          refine Eq_V2 (N := m_X12_of) dX12_sitting_102 lk_X12_258 mV_X12_of (r_of hWd hRd (by omega) (by omega)) (by decide) (ws_50 hWc) rfl (by decide) (Nat.le_of_ble_eq_true rfl) (Nat.le_of_ble_eq_true rfl) ?_
          refine Eq_ic (v := nI 1) dX12_sitting_105 rfl ?_
          refine Et_ic_ne 113 dX12_sitting_106 rfl (by exact fun z => hv ((nI_eq (by omega) (by omega)).mp z)) ?_
          refine Eq_ic (v := nI 0) dX12_sitting_113 rfl ?_
          refine Eq_iln dX12_sitting_114 rfl ?_
          refine Ef_ic_eq dX12_sitting_115 (tgt := 122) rfl (by decide +kernel) ?_
          refine Eq_ic (v := nI 1) dX12_sitting_118 rfl ?_
          refine Eam_x_goto (tgt := 123) dX12_sitting_119 rfl ?_
          first | refine Eq_add dX12_sitting_123 ?_ | refine Eam_x_pu dX12_sitting_123 rfl ?_
          refine Eq_isn dX12_sitting_124 (by decide) ?_
          refine Eq_inc dX12_sitting_125 rfl (by decide) ?_
          refine Eam_x_goto (tgt := 35) dX12_sitting_128 rfl ?_
          (have q := fun x3 => ih (j + 1) _ x3 (by omega) (hfr.tr hfd) hld (by rw [wLi2]; exact h73); simp only [sg_y hh hq] at q; rw [if_neg (by simp [hv, hwr])] at q; exact q _)
        · refine Eq_iln dX12_sitting_35 rfl ?_
          refine Eq_aln dX12_sitting_36 rfl ?_
          refine Eq_getI dX12_sitting_37 fl_X12_252 (ws_50 hWc) rfl (by first | assumption | rfl) ?_
          refine Ef_ic_ge dX12_sitting_40 (tgt := 131) rfl (by exact nI_ge (by omega) (by omega)) ?_
          refine Eq_aln dX12_sitting_43 rfl ?_
          refine Eq_iln dX12_sitting_44 rfl ?_
          refine Eq_V1 (N := m_X12_isHeard) dX12_sitting_45 lk_X12_291 mV_X12_isHeard (r_isHeard hWc hRc (by omega)) (by decide) (ws_50 hWc) rfl (by decide) (Nat.le_of_ble_eq_true rfl) (Nat.le_of_ble_eq_true rfl) ?_
          refine Ef_if_eq dX12_sitting_48 (tgt := 125) rfl (by rw [if_pos hh]; decide +kernel) ?_
          refine Eq_aln dX12_sitting_51 rfl ?_
          refine Eq_aln dX12_sitting_52 rfl ?_
          refine Eq_getL dX12_sitting_53 fl_X12_393 (ws_50 hWc) rfl hsl ?_
          refine Eam_x_ldc2 dX12_sitting_56 kc_X12_396 ?_
          refine Eam_x_pu dX12_sitting_59 rfl ?_
          refine Eam_x_ldc2 dX12_sitting_60 kc_X12_398 ?_
          refine Eam_x_pu dX12_sitting_63 rfl ?_
          rw [show (sg n g F S T dr j).1 * 6364136223846793005 + 1442695040888963407 = drw (sg n g F S T dr j).1 from rfl]
          refine Eam_x_putL dX12_sitting_64 (fw_X12_393 rfl) (ws_50 hWc) rfl ?_
          refine Eq_aln dX12_sitting_67 rfl ?_
          refine Eq_getL dX12_sitting_68 fl_X12_393 (ws_50 hWd) rfl hle ?_
          refine Eq_bp (v := nI 33) dX12_sitting_71 rfl ?_
          refine Eam_x_pu dX12_sitting_73 rfl ?_
          rw [dru_eq]
          refine Eam_x_ldc2 dX12_sitting_74 kc_X12_319 ?_
          refine Eam_x_lrem dX12_sitting_77 (by decide +kernel) ?_
          rw [show (100 : Int64) = lN 100 by decide +kernel, lrem100]
          refine Eq_aln dX12_sitting_78 rfl ?_
          refine Eq_aln dX12_sitting_79 rfl ?_
          refine Eq_iln dX12_sitting_80 rfl ?_
          refine Eq_V1 (N := m_X12_mouthOf) dX12_sitting_81 lk_X12_282 mV_X12_mouthOf ((by have z := r_mouthOf hWd hRd (m := j) (by omega); rw [hq] at z; exact z)) (by decide) (ws_50 hWc) rfl (by decide) (Nat.le_of_ble_eq_true rfl) (Nat.le_of_ble_eq_true rfl) ?_
          refine Eq_V1 (N := m_X12_errorOf) dX12_sitting_84 lk_X12_316 mV_X12_errorOf (r_errorOf hWd hRd (by omega)) (by decide) (ws_50 hWc) rfl (by decide) (Nat.le_of_ble_eq_true rfl) (Nat.le_of_ble_eq_true rfl) ?_
          first | refine Eq_i2l dX12_sitting_87 (by omega) ?_ | refine Eam_x_pu dX12_sitting_87 rfl ?_
          refine Eam_x_pu dX12_sitting_88 rfl ?_
          refine Et_if_ge 96 dX12_sitting_89 rfl (by rw [lg_cmp_ge]; exact (pk_lLE (by omega) (by omega)).mpr (by omega)) ?_
          refine Eq_ic (v := nI 0) dX12_sitting_96 rfl ?_
          refine Eq_isn dX12_sitting_97 (by decide) ?_
          refine Eq_iln dX12_sitting_98 rfl ?_
          refine Eq_aln dX12_sitting_99 rfl ?_
          refine Eq_iln dX12_sitting_100 rfl ?_
          refine Eq_ic (v := nI 0) dX12_sitting_101 rfl ?_
          refine Eq_V2 (N := m_X12_of) dX12_sitting_102 lk_X12_258 mV_X12_of (r_of hWd hRd (by omega) (by omega)) (by decide) (ws_50 hWc) rfl (by decide) (Nat.le_of_ble_eq_true rfl) (Nat.le_of_ble_eq_true rfl) ?_
          refine Eq_ic (v := nI 1) dX12_sitting_105 rfl ?_
          refine Et_ic_ne 113 dX12_sitting_106 rfl (by exact fun z => hv ((nI_eq (by omega) (by omega)).mp z)) ?_
          refine Eq_ic (v := nI 0) dX12_sitting_113 rfl ?_
          refine Eq_iln dX12_sitting_114 rfl ?_
          refine Et_ic_eq 122 dX12_sitting_115 rfl (by rfl) ?_
          refine Eq_ic (v := nI 0) dX12_sitting_122 rfl ?_
          first | refine Eq_add dX12_sitting_123 ?_ | refine Eam_x_pu dX12_sitting_123 rfl ?_
          refine Eq_isn dX12_sitting_124 (by decide) ?_
          refine Eq_inc dX12_sitting_125 rfl (by decide) ?_
          refine Eam_x_goto (tgt := 35) dX12_sitting_128 rfl ?_
          (have q := fun x3 => ih (j + 1) _ x3 (by omega) (hfr.tr hfd) hld (by rw [wLi2]; exact h73); simp only [sg_y hh hq] at q; rw [if_pos (by simp [hv, hwr])] at q; exact q _)
    · refine Eq_iln dX12_sitting_35 rfl ?_
      refine Eq_aln dX12_sitting_36 rfl ?_
      refine Eq_getI dX12_sitting_37 fl_X12_252 (ws_50 hWc) rfl (by first | assumption | rfl) ?_
      refine Ef_ic_ge dX12_sitting_40 (tgt := 131) rfl (by exact nI_ge (by omega) (by omega)) ?_
      refine Eq_aln dX12_sitting_43 rfl ?_
      refine Eq_iln dX12_sitting_44 rfl ?_
      refine Eq_V1 (N := m_X12_isHeard) dX12_sitting_45 lk_X12_291 mV_X12_isHeard (r_isHeard hWc hRc (by omega)) (by decide) (ws_50 hWc) rfl (by decide) (Nat.le_of_ble_eq_true rfl) (Nat.le_of_ble_eq_true rfl) ?_
      refine Et_if_eq 125 dX12_sitting_48 rfl (by rw [if_neg hh]; rfl) ?_
      refine Eq_inc dX12_sitting_125 rfl (by decide) ?_
      refine Eam_x_goto (tgt := 35) dX12_sitting_128 rfl ?_
      (have q := ih (j + 1) hc x3 (by omega) hfr (by rw [sg_n hh]; exact hsl) h73; rw [sg_n hh] at q; exact q)
set_option maxHeartbeats 2000000 in
theorem r_sitting {h : am_H} {n : Nat} {g : Bool} {F : Nat → Nat → Nat} {S T : Nat → Nat} (hW : Wd h) (hR : RB h n g F S T) {hd : Nat} {y : Nat → Nat} {p : Nat → Bool} {st : Nat → Int64} {dr : Int64} (hTB : TB 50 41 42 71 72 73 h hd y p st dr) (h0 : ¬ n = 0) (hlt : hd < 40) : am_D 4 m_X12_sitting [.ref 50] h (fun v h2 => v = some (.int (nI (sg n g F S T dr n).2)) ∧ Fx [71, 72, 73] [(50, 41), (50, 42)] h h2 ∧ TB 50 41 42 71 72 73 h2 (hd + 1) (up1 y hd (sg n g F S T dr n).2) (up1 p hd (decide (hct n g F S T < (sg n g F S T dr n).2 * 2))) (up1 st hd dr) (sg n g F S T dr n).1 ∧ ∀ k, k ≠ hd → am_i h2 72 k = am_i h 72 k) := by
  obtain ⟨hn, hg, h7, hF, hB, hS, hT⟩ := id hR
  obtain ⟨hd0, h40, hdr, hk⟩ := id hTB
  refine Eq_aln dX12_sitting_0 rfl ?_
  refine Eq_getI dX12_sitting_1 fl_X12_252 (ws_50 hW) rfl (by first | assumption | rfl) ?_
  refine Ef_if_eq dX12_sitting_4 (tgt := 16) rfl (by exact nI_ne0 (by omega) (by omega)) ?_
  refine Eq_aln dX12_sitting_7 rfl ?_
  refine Eq_getI dX12_sitting_8 fl_X12_264 (ws_50 hW) rfl (by first | assumption | rfl) ?_
  refine Eq_bp (v := nI 40) dX12_sitting_11 rfl ?_
  refine Et_ic_ne 18 dX12_sitting_13 rfl (by exact fun z => absurd ((nI_eq (by omega) (by omega)).mp z) (by omega)) ?_
  refine Eq_aln dX12_sitting_18 rfl ?_
  refine Eq_getR dX12_sitting_19 fl_X12_82 (ws_50 hW) rfl (wp_50_40 hW) ?_
  refine Eq_aln dX12_sitting_22 rfl ?_
  refine Eq_getI dX12_sitting_23 fl_X12_264 (ws_50 hW) rfl (by first | assumption | rfl) ?_
  refine Eq_aln dX12_sitting_26 rfl ?_
  refine Eq_getL dX12_sitting_27 fl_X12_393 (ws_50 hW) rfl (by first | assumption | rfl) ?_
  refine Eq_lst dX12_sitting_30 (ws_73 hW) (by omega) (by omega) ?_
  refine Eq_ic (v := nI 0) dX12_sitting_31 rfl ?_
  refine Eq_isn dX12_sitting_32 (by decide) ?_
  refine Eq_ic (v := nI 0) dX12_sitting_33 rfl ?_
  refine Eq_isn dX12_sitting_34 (by decide) ?_
  exact r_sitting_lp hW hR hTB hlt n 0 _ _ (by omega) (Fx.wL (Or.inl (by decide))) hdr (fun k => wL_eq k)
set_option maxHeartbeats 2000000 in
theorem r_sittingN {h : am_H} {n : Nat} {g : Bool} {F : Nat → Nat → Nat} {S T : Nat → Nat} (hW : Wd h) (hR : RB h n g F S T) {hd : Nat} {y : Nat → Nat} {p : Nat → Bool} {st : Nat → Int64} {dr : Int64} (hTB : TB 50 41 42 71 72 73 h hd y p st dr) (h0 : n = 0 ∨ hd = 40) : am_C 1 m_X12_sitting [.ref 50] h (some (.int (-1)), h) := by
  obtain ⟨hn, hg, h7, hF, hB, hS, hT⟩ := id hR
  obtain ⟨hd0, h40, hdr, hk⟩ := id hTB
  by_cases h1 : n = 0
  · refine q_aln dX12_sitting_0 rfl ?_
    refine q_getI dX12_sitting_1 fl_X12_252 (ws_50 hW) rfl (by first | assumption | rfl) ?_
    refine t_if_eq 16 dX12_sitting_4 rfl (by rw [h1]; rfl) ?_
    refine q_ic (v := -1) dX12_sitting_16 rfl ?_
    refine q_ir dX12_sitting_17 rfl ?_
    rfl
  · refine q_aln dX12_sitting_0 rfl ?_
    refine q_getI dX12_sitting_1 fl_X12_252 (ws_50 hW) rfl (by first | assumption | rfl) ?_
    refine f_if_eq dX12_sitting_4 (tgt := 16) rfl (by exact nI_ne0 (by omega) (by omega)) ?_
    refine q_aln dX12_sitting_7 rfl ?_
    refine q_getI dX12_sitting_8 fl_X12_264 (ws_50 hW) rfl (by first | assumption | rfl) ?_
    refine q_bp (v := nI 40) dX12_sitting_11 rfl ?_
    refine f_ic_ne dX12_sitting_13 (tgt := 18) rfl (by rw [show hd = 40 by omega]) ?_
    refine q_ic (v := -1) dX12_sitting_16 rfl ?_
    refine q_ir dX12_sitting_17 rfl ?_
    rfl
set_option maxHeartbeats 2000000 in
theorem r_sat {h : am_H} (hW : Wd h) {hd : Nat} {y : Nat → Nat} {p : Nat → Bool} {st : Nat → Int64} {dr : Int64} (hTB : TB 50 41 42 71 72 73 h hd y p st dr) {x1 x2 : Int32} : am_C 1 m_X12_sat [.ref 50, .int x1, .int x2] h (some (.int (saV hd y p x1 x2)), h) := by
  obtain ⟨hd0, h40, hdr, hk⟩ := id hTB
  cases hr : rg x1 hd with
  | none =>
    rw [saV_n hr]
    refine q_iln dX12_sat_0 rfl ?_
    refine q_ic (v := nI 0) dX12_sat_1 rfl ?_
    refine q_aln dX12_sat_2 rfl ?_
    refine q_getI dX12_sat_3 fl_X12_264 (ws_50 hW) rfl (by first | assumption | rfl) ?_
    refine q_ic (v := nI 1) dX12_sat_6 rfl ?_
    refine am_x_pu dX12_sat_7 rfl ?_
    rw [dk_sub]
    refine q_S3 (N := m_X12_in) dX12_sat_8 lk_X12_215 mS_X12_in ((by have z := r_inm (h := h) (x := x1) (n := hd) (by omega); rw [isr_n hr] at z; exact z)) (by decide) (Nat.le_of_ble_eq_true rfl) (Nat.le_of_ble_eq_true rfl) ?_
    refine t_if_eq 23 dX12_sat_11 rfl (by rfl) ?_
    refine q_ic (v := -1) dX12_sat_23 rfl ?_
    refine am_x_goto (tgt := 54) dX12_sat_24 rfl ?_
    refine q_ir dX12_sat_54 rfl ?_
    rfl
  | some w =>
    have hi1 := isr_s hr
    cases hr2 : rg x2 2 with
    | none =>
      rw [saV_m hr2]
      refine q_iln dX12_sat_0 rfl ?_
      refine q_ic (v := nI 0) dX12_sat_1 rfl ?_
      refine q_aln dX12_sat_2 rfl ?_
      refine q_getI dX12_sat_3 fl_X12_264 (ws_50 hW) rfl (by first | assumption | rfl) ?_
      refine q_ic (v := nI 1) dX12_sat_6 rfl ?_
      refine am_x_pu dX12_sat_7 rfl ?_
      rw [dk_sub]
      refine q_S3 (N := m_X12_in) dX12_sat_8 lk_X12_215 mS_X12_in ((by have z := r_inm (h := h) (x := x1) (n := hd) (by omega); rw [hi1] at z; exact z)) (by decide) (Nat.le_of_ble_eq_true rfl) (Nat.le_of_ble_eq_true rfl) ?_
      refine f_if_eq dX12_sat_11 (tgt := 23) rfl (by exact zf1) ?_
      refine q_iln dX12_sat_14 rfl ?_
      refine q_ic (v := nI 0) dX12_sat_15 rfl ?_
      refine q_ic (v := nI 1) dX12_sat_16 rfl ?_
      refine q_S3 (N := m_X12_in) dX12_sat_17 lk_X12_215 mS_X12_in ((by have z := r_inr (h := h) (x := x2) (k := 1) (by omega); rw [isr_n hr2] at z; exact z)) (by decide) (Nat.le_of_ble_eq_true rfl) (Nat.le_of_ble_eq_true rfl) ?_
      refine f_if_ne dX12_sat_20 (tgt := 27) rfl (by rfl) ?_
      refine q_ic (v := -1) dX12_sat_23 rfl ?_
      refine am_x_goto (tgt := 54) dX12_sat_24 rfl ?_
      refine q_ir dX12_sat_54 rfl ?_
      rfl
    | some v =>
      rw [saV_s hr hr2]
      have hi2 := isr_s hr2
      obtain ⟨rfl, hw⟩ := rg_some (by omega) hr
      obtain ⟨rfl, hv⟩ := rg_some (by omega) hr2
      by_cases h0 : v = 0
      · rw [if_pos h0]
        refine q_iln dX12_sat_0 rfl ?_
        refine q_ic (v := nI 0) dX12_sat_1 rfl ?_
        refine q_aln dX12_sat_2 rfl ?_
        refine q_getI dX12_sat_3 fl_X12_264 (ws_50 hW) rfl (by first | assumption | rfl) ?_
        refine q_ic (v := nI 1) dX12_sat_6 rfl ?_
        refine am_x_pu dX12_sat_7 rfl ?_
        rw [dk_sub]
        refine q_S3 (N := m_X12_in) dX12_sat_8 lk_X12_215 mS_X12_in ((by have z := r_inm (h := h) (x := nI w) (n := hd) (by omega); rw [hi1] at z; exact z)) (by decide) (Nat.le_of_ble_eq_true rfl) (Nat.le_of_ble_eq_true rfl) ?_
        refine f_if_eq dX12_sat_11 (tgt := 23) rfl (by exact zf1) ?_
        refine q_iln dX12_sat_14 rfl ?_
        refine q_ic (v := nI 0) dX12_sat_15 rfl ?_
        refine q_ic (v := nI 1) dX12_sat_16 rfl ?_
        refine q_S3 (N := m_X12_in) dX12_sat_17 lk_X12_215 mS_X12_in ((by have z := r_inr (h := h) (x := nI v) (k := 1) (by omega); rw [hi2] at z; exact z)) (by decide) (Nat.le_of_ble_eq_true rfl) (Nat.le_of_ble_eq_true rfl) ?_
        refine t_if_ne 27 dX12_sat_20 rfl (by exact zf1) ?_
        refine q_iln dX12_sat_27 rfl ?_
        refine f_if_ne dX12_sat_28 (tgt := 40) rfl (by rw [h0]; rfl) ?_
        refine q_aln dX12_sat_31 rfl ?_
        refine q_getR dX12_sat_32 fl_X12_76 (ws_50 hW) rfl (wp_50_38 hW) ?_
        refine q_iln dX12_sat_35 rfl ?_
        refine q_ald dX12_sat_36 (ws_71 hW) (by omega) (by omega) (hk w hw).1 ?_
        refine am_x_goto (tgt := 54) dX12_sat_37 rfl ?_
        refine q_ir dX12_sat_54 rfl ?_
        rfl
      · rw [if_neg h0]
        by_cases hp : p w = true
        · rw [if_pos hp]
          refine q_iln dX12_sat_0 rfl ?_
          refine q_ic (v := nI 0) dX12_sat_1 rfl ?_
          refine q_aln dX12_sat_2 rfl ?_
          refine q_getI dX12_sat_3 fl_X12_264 (ws_50 hW) rfl (by first | assumption | rfl) ?_
          refine q_ic (v := nI 1) dX12_sat_6 rfl ?_
          refine am_x_pu dX12_sat_7 rfl ?_
          rw [dk_sub]
          refine q_S3 (N := m_X12_in) dX12_sat_8 lk_X12_215 mS_X12_in ((by have z := r_inm (h := h) (x := nI w) (n := hd) (by omega); rw [hi1] at z; exact z)) (by decide) (Nat.le_of_ble_eq_true rfl) (Nat.le_of_ble_eq_true rfl) ?_
          refine f_if_eq dX12_sat_11 (tgt := 23) rfl (by exact zf1) ?_
          refine q_iln dX12_sat_14 rfl ?_
          refine q_ic (v := nI 0) dX12_sat_15 rfl ?_
          refine q_ic (v := nI 1) dX12_sat_16 rfl ?_
          refine q_S3 (N := m_X12_in) dX12_sat_17 lk_X12_215 mS_X12_in ((by have z := r_inr (h := h) (x := nI v) (k := 1) (by omega); rw [hi2] at z; exact z)) (by decide) (Nat.le_of_ble_eq_true rfl) (Nat.le_of_ble_eq_true rfl) ?_
          refine t_if_ne 27 dX12_sat_20 rfl (by exact zf1) ?_
          refine q_iln dX12_sat_27 rfl ?_
          refine t_if_ne 40 dX12_sat_28 rfl (by exact nI_ne0 (by omega) (by omega)) ?_
          refine q_aln dX12_sat_40 rfl ?_
          refine q_getR dX12_sat_41 fl_X12_79 (ws_50 hW) rfl (wp_50_39 hW) ?_
          refine q_iln dX12_sat_44 rfl ?_
          refine q_zld dX12_sat_45 (ws_72 hW) (by omega) (by omega) (hk w hw).2.2.1 ?_
          refine f_if_eq dX12_sat_46 (tgt := 53) rfl (by rw [if_pos hp]; exact zf1) ?_
          refine q_ic (v := nI 1) dX12_sat_49 rfl ?_
          refine am_x_goto (tgt := 54) dX12_sat_50 rfl ?_
          refine q_ir dX12_sat_54 rfl ?_
          rfl
        · rw [if_neg hp]
          refine q_iln dX12_sat_0 rfl ?_
          refine q_ic (v := nI 0) dX12_sat_1 rfl ?_
          refine q_aln dX12_sat_2 rfl ?_
          refine q_getI dX12_sat_3 fl_X12_264 (ws_50 hW) rfl (by first | assumption | rfl) ?_
          refine q_ic (v := nI 1) dX12_sat_6 rfl ?_
          refine am_x_pu dX12_sat_7 rfl ?_
          rw [dk_sub]
          refine q_S3 (N := m_X12_in) dX12_sat_8 lk_X12_215 mS_X12_in ((by have z := r_inm (h := h) (x := nI w) (n := hd) (by omega); rw [hi1] at z; exact z)) (by decide) (Nat.le_of_ble_eq_true rfl) (Nat.le_of_ble_eq_true rfl) ?_
          refine f_if_eq dX12_sat_11 (tgt := 23) rfl (by exact zf1) ?_
          refine q_iln dX12_sat_14 rfl ?_
          refine q_ic (v := nI 0) dX12_sat_15 rfl ?_
          refine q_ic (v := nI 1) dX12_sat_16 rfl ?_
          refine q_S3 (N := m_X12_in) dX12_sat_17 lk_X12_215 mS_X12_in ((by have z := r_inr (h := h) (x := nI v) (k := 1) (by omega); rw [hi2] at z; exact z)) (by decide) (Nat.le_of_ble_eq_true rfl) (Nat.le_of_ble_eq_true rfl) ?_
          refine t_if_ne 27 dX12_sat_20 rfl (by exact zf1) ?_
          refine q_iln dX12_sat_27 rfl ?_
          refine t_if_ne 40 dX12_sat_28 rfl (by exact nI_ne0 (by omega) (by omega)) ?_
          refine q_aln dX12_sat_40 rfl ?_
          refine q_getR dX12_sat_41 fl_X12_79 (ws_50 hW) rfl (wp_50_39 hW) ?_
          refine q_iln dX12_sat_44 rfl ?_
          refine q_zld dX12_sat_45 (ws_72 hW) (by omega) (by omega) (hk w hw).2.2.1 ?_
          refine t_if_eq 53 dX12_sat_46 rfl (by rw [if_neg hp]; rfl) ?_
          refine q_ic (v := nI 0) dX12_sat_53 rfl ?_
          refine q_ir dX12_sat_54 rfl ?_
          rfl
set_option maxHeartbeats 2000000 in
theorem r_undo {h : am_H} (hW : Wd h) {hd : Nat} {y : Nat → Nat} {p : Nat → Bool} {st : Nat → Int64} {dr : Int64} (hTB : TB 50 41 42 71 72 73 h (hd + 1) y p st dr)  : am_D 0 m_X12_undo [.ref 50] h (fun v h2 => v = some (.int (nI hd)) ∧ Fx [] [(50, 41), (50, 42)] h h2 ∧ TB 50 41 42 71 72 73 h2 hd y p st (st hd)) := by
  obtain ⟨hd0, h40, hdr, hk⟩ := id hTB
  refine Eq_aln dX12_undo_0 rfl ?_
  refine Eq_getI dX12_undo_1 fl_X12_264 (ws_50 hW) rfl (by first | assumption | rfl) ?_
  refine Et_if_ne 9 dX12_undo_4 rfl (by exact nI_ne0 (by omega) (by omega)) ?_
  refine Eq_aln dX12_undo_9 rfl ?_
  refine Eam_x_pu dX12_undo_10 rfl ?_
  refine Eq_getI dX12_undo_11 fl_X12_264 (ws_50 hW) rfl (by first | assumption | rfl) ?_
  refine Eq_ic (v := nI 1) dX12_undo_14 rfl ?_
  first | refine Eq_sub dX12_undo_15 (by omega) ?_ | refine Eam_x_pu dX12_undo_15 rfl ?_
  refine Eam_x_putI dX12_undo_16 (fw_X12_264 rfl) (ws_50 hW) (Or.inl rfl) ?_
  refine Eq_aln dX12_undo_19 rfl ?_
  refine Eq_aln dX12_undo_20 rfl ?_
  refine Eq_getR dX12_undo_21 fl_X12_82 (ws_50 hW) rfl (wp_50_40 hW) ?_
  refine Eq_aln dX12_undo_24 rfl ?_
  refine Eq_getI dX12_undo_25 fl_X12_264 (ws_50 hW) rfl (wI_eq (h := h) (r := 50) (j := 41) (v := nI hd) 41) ?_
  rw [if_pos rfl]
  refine Eq_lld dX12_undo_28 (ws_73 hW) (by omega) (by omega) (hk hd (by omega)).2.2.2 ?_
  refine Eam_x_putL dX12_undo_29 (fw_X12_393 rfl) (ws_50 hW) rfl ?_
  refine Eq_aln dX12_undo_32 rfl ?_
  refine Eq_getI dX12_undo_33 fl_X12_264 (ws_50 hW) rfl (wI_eq (h := h) (r := 50) (j := 41) (v := nI hd) 41) ?_
  rw [if_pos rfl]
  refine Eq_ir dX12_undo_36 rfl ?_
  refine ⟨rfl, (Fx.wI (Or.inr (by decide))).tr (Fx.wL (Or.inr (by decide))), hTB.undo (wI_eq (h := h) (r := 50) (j := 41) (v := nI hd) 41) ?_ ?_ ?_ ?_⟩
  · rw [wL_eq, if_pos rfl]
  · rw [wLi, wI_ne (by decide)]
  · rw [wLi, wI_ne (by decide)]
  · exact wL_ne (by decide)
set_option maxHeartbeats 2000000 in
theorem r_undoN {h : am_H} (hW : Wd h) (hd0 : am_i h 50 41 = nI 0) : am_C 0 m_X12_undo [.ref 50] h (some (.int (-1)), h) := by
  refine q_aln dX12_undo_0 rfl ?_
  refine q_getI dX12_undo_1 fl_X12_264 (ws_50 hW) rfl (by first | assumption | rfl) ?_
  refine f_if_ne dX12_undo_4 (tgt := 9) rfl (by rfl) ?_
  refine q_ic (v := -1) dX12_undo_7 rfl ?_
  refine q_ir dX12_undo_8 rfl ?_
  rfl
set_option maxHeartbeats 2000000 in
theorem r_passedMany_lp {h : am_H} (hW : Wd h) {hd : Nat} {y : Nat → Nat} {p : Nat → Bool} {st : Nat → Int64} {dr : Int64} (hTB : TB 50 41 42 71 72 73 h hd y p st dr)  : ∀ k j, j + k = hd → am_Sem 0 m_X12_passedMany 4 [some (.ref 50), some (.int (nI (ct p j))), some (.int (nI j))] [] h (some (.int (nI (ct p hd))), h) := by
  obtain ⟨hd0, h40, hdr, hk⟩ := id hTB
  intro k
  induction k with
  | zero =>
    intro j hj
    have hjn : j = hd := by omega
    subst hjn
    refine q_iln dX12_passedMany_4 rfl ?_
    refine q_aln dX12_passedMany_5 rfl ?_
    refine q_getI dX12_passedMany_6 fl_X12_264 (ws_50 hW) rfl (by first | assumption | rfl) ?_
    refine t_ic_ge 35 dX12_passedMany_9 rfl (by exact nI_le (by omega) (by omega)) ?_
    refine q_iln dX12_passedMany_35 rfl ?_
    refine q_ir dX12_passedMany_36 rfl ?_
    rfl
  | succ k ih =>
    intro j hj
    have q := ih (j + 1) (by omega)
    by_cases hp : p j = true
    · rw [ct_t hp] at q
      refine q_iln dX12_passedMany_4 rfl ?_
      refine q_aln dX12_passedMany_5 rfl ?_
      refine q_getI dX12_passedMany_6 fl_X12_264 (ws_50 hW) rfl (by first | assumption | rfl) ?_
      refine f_ic_ge dX12_passedMany_9 (tgt := 35) rfl (by exact nI_ge (by omega) (by omega)) ?_
      refine q_iln dX12_passedMany_12 rfl ?_
      refine q_aln dX12_passedMany_13 rfl ?_
      refine q_getR dX12_passedMany_14 fl_X12_79 (ws_50 hW) rfl (wp_50_39 hW) ?_
      refine q_iln dX12_passedMany_17 rfl ?_
      refine q_zld dX12_passedMany_18 (ws_72 hW) (by omega) (by omega) (hk j (by omega)).2.2.1 ?_
      refine f_if_eq dX12_passedMany_19 (tgt := 26) rfl (by rw [if_pos hp]; exact zf1) ?_
      refine q_ic (v := nI 1) dX12_passedMany_22 rfl ?_
      refine am_x_goto (tgt := 27) dX12_passedMany_23 rfl ?_
      first | refine q_add dX12_passedMany_27 ?_ | refine am_x_pu dX12_passedMany_27 rfl ?_
      refine q_isn dX12_passedMany_28 (by decide) ?_
      refine q_inc dX12_passedMany_29 rfl (by decide) ?_
      refine am_x_goto (tgt := 4) dX12_passedMany_32 rfl ?_
      exact q
    · rw [ct_f hp] at q
      refine q_iln dX12_passedMany_4 rfl ?_
      refine q_aln dX12_passedMany_5 rfl ?_
      refine q_getI dX12_passedMany_6 fl_X12_264 (ws_50 hW) rfl (by first | assumption | rfl) ?_
      refine f_ic_ge dX12_passedMany_9 (tgt := 35) rfl (by exact nI_ge (by omega) (by omega)) ?_
      refine q_iln dX12_passedMany_12 rfl ?_
      refine q_aln dX12_passedMany_13 rfl ?_
      refine q_getR dX12_passedMany_14 fl_X12_79 (ws_50 hW) rfl (wp_50_39 hW) ?_
      refine q_iln dX12_passedMany_17 rfl ?_
      refine q_zld dX12_passedMany_18 (ws_72 hW) (by omega) (by omega) (hk j (by omega)).2.2.1 ?_
      refine t_if_eq 26 dX12_passedMany_19 rfl (by rw [if_neg hp]; rfl) ?_
      refine q_ic (v := nI 0) dX12_passedMany_26 rfl ?_
      first | refine q_add dX12_passedMany_27 ?_ | refine am_x_pu dX12_passedMany_27 rfl ?_
      refine q_isn dX12_passedMany_28 (by decide) ?_
      refine q_inc dX12_passedMany_29 rfl (by decide) ?_
      refine am_x_goto (tgt := 4) dX12_passedMany_32 rfl ?_
      exact q
set_option maxHeartbeats 2000000 in
theorem r_passedMany {h : am_H} (hW : Wd h) {hd : Nat} {y : Nat → Nat} {p : Nat → Bool} {st : Nat → Int64} {dr : Int64} (hTB : TB 50 41 42 71 72 73 h hd y p st dr)  : am_C 0 m_X12_passedMany [.ref 50] h (some (.int (nI (ct p hd))), h) := by
  refine q_ic (v := nI 0) dX12_passedMany_0 rfl ?_
  refine q_isn dX12_passedMany_1 (by decide) ?_
  refine q_ic (v := nI 0) dX12_passedMany_2 rfl ?_
  refine q_isn dX12_passedMany_3 (by decide) ?_
  exact r_passedMany_lp hW hTB hd 0 (by omega)
set_option maxHeartbeats 2000000 in
theorem r_seed {h : am_H} (hW : Wd h) {s : Int64} : am_C 0 m_X12_seed [.ref 50, .long s] h (some (.int (nI 1)), am_wL h 50 42 s) := by
  refine q_aln dX12_seed_0 rfl ?_
  refine q_lln dX12_seed_1 rfl ?_
  refine am_x_putL dX12_seed_2 (fw_X12_393 rfl) (ws_50 hW) rfl ?_
  refine q_ic (v := nI 1) dX12_seed_5 rfl ?_
  first | refine q_zrn dX12_seed_6 rfl (by first | omega | exact b2_le) ?_ | refine q_zr dX12_seed_6 rfl (by first | exact Or.inl rfl | exact Or.inr rfl | assumption) ?_
  rfl
