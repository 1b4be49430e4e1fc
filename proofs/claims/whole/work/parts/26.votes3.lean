set_option maxHeartbeats 2000000 in
theorem c_pp_lp {n : Nat} {g : Bool} {F : Nat → Nat → Nat} {S T : Nat → Nat} {w : Option Nat} (h7 : n ≤ 7) {hc : am_H} (hW : Wd hc) (hp : ∀ i, i < 8 → am_l hc 17 i = lN (prt n g F S T w n i)) : ∀ k j (x1 : Option Value), j + k = 8 → am_Sem 4 m_X10_passingParts 11 [some (.ref 16), x1, some (.int (nI (hct n g F S T))), some (.long (lN (pas n g F S T w true j))), none, some (.int (nI j))] [] hc (some (.long (lN (pas n g F S T w true 8))), hc) := by
  have hct7 : hct n g F S T ≤ n := ct_le _ n
  intro k
  induction k with
  | zero =>
    intro j x1 hj
    have hj8 : j = 8 := by omega
    subst hj8
    refine q_il dX10_passingParts_11 rfl ?_
    refine q_aln dX10_passingParts_13 rfl ?_
    refine q_getR dX10_passingParts_14 fl_X10_22 (ws_16 hW) rfl (wp_16_2 hW) ?_
    refine am_x_alen dX10_passingParts_17 (ws_17 hW) (by decide) ?_
    refine t_ic_ge 50 dX10_passingParts_18 rfl (by decide +kernel) ?_
    refine q_lln dX10_passingParts_50 rfl ?_
    refine q_lr dX10_passingParts_51 rfl ?_
    rfl
  | succ k ih =>
    intro j x1 hj
    have q := ih (j + 1) x1 (by omega)
    have e1 : hct n g F S T < j * 2 → pas n g F S T w true (j + 1) = pas n g F S T w true j + prt n g F S T w n j := fun z => by
      simp only [pas, sm]; rw [if_pos (decide_eq_true (show ct (fun m => hrd n g F S T m) n < 2 * j by have z2 : ct (fun m => hrd n g F S T m) n < j * 2 := z; omega))]
    have e2 : ¬ hct n g F S T < j * 2 → pas n g F S T w true (j + 1) = pas n g F S T w true j + 0 := fun z => by
      simp only [pas, sm]; rw [if_neg (by rw [decide_eq_false (show ¬ ct (fun m => hrd n g F S T m) n < 2 * j by have z2 : ¬ ct (fun m => hrd n g F S T m) n < j * 2 := z; omega)]; decide)]
    refine q_il dX10_passingParts_11 rfl ?_
    refine q_aln dX10_passingParts_13 rfl ?_
    refine q_getR dX10_passingParts_14 fl_X10_22 (ws_16 hW) rfl (wp_16_2 hW) ?_
    refine am_x_alen dX10_passingParts_17 (ws_17 hW) (by decide) ?_
    refine f_ic_ge dX10_passingParts_18 (tgt := 50) rfl (by exact nI_ge (by omega) (by omega)) ?_
    refine q_lln dX10_passingParts_21 rfl ?_
    refine q_il dX10_passingParts_22 rfl ?_
    refine q_iln dX10_passingParts_24 rfl ?_
    refine q_S2 (N := m_X10_passes) dX10_passingParts_25 lk_X10_83 mS_X10_passes (c_passes (by omega) (by omega)) (by decide) (Nat.le_of_ble_eq_true rfl) (Nat.le_of_ble_eq_true rfl) ?_
    first | refine p_if_eq 41 dX10_passingParts_28 rfl (fun c28 => ?_) (fun c28 => ?_) | refine n_if_eq 41 dX10_passingParts_28 rfl (by omega) (fun c28 => ?_) (fun c28 => ?_) | refine b_if_eq 41 dX10_passingParts_28 rfl (fun c28 => ?_) (fun c28 => ?_)
    · first
      | (exfalso; omega)
      | (refine q_lc (v := lN 0) dX10_passingParts_41 rfl ?_
         first | refine q_ladd dX10_passingParts_42 ?_ | refine am_x_pu dX10_passingParts_42 rfl ?_
         refine q_lsn dX10_passingParts_43 (by decide) ?_
         refine q_inc dX10_passingParts_44 rfl (by decide) ?_
         refine am_x_goto (tgt := 11) dX10_passingParts_47 rfl ?_
         (first | (rw [e1 c28] at q; exact q) | (rw [e2 c28] at q; exact q)))
    · first
      | (exfalso; omega)
      | (refine q_aln dX10_passingParts_31 rfl ?_
         refine q_getR dX10_passingParts_32 fl_X10_22 (ws_16 hW) rfl (wp_16_2 hW) ?_
         refine q_il dX10_passingParts_35 rfl ?_
         refine q_lld dX10_passingParts_37 (ws_17 hW) (by omega) (by omega) (hp _ (by omega)) ?_
         refine am_x_goto (tgt := 42) dX10_passingParts_38 rfl ?_
         first | refine q_ladd dX10_passingParts_42 ?_ | refine am_x_pu dX10_passingParts_42 rfl ?_
         refine q_lsn dX10_passingParts_43 (by decide) ?_
         refine q_inc dX10_passingParts_44 rfl (by decide) ?_
         refine am_x_goto (tgt := 11) dX10_passingParts_47 rfl ?_
         (first | (rw [e1 c28] at q; exact q) | (rw [e2 c28] at q; exact q)))
set_option maxHeartbeats 2000000 in
theorem c_passingParts {h : am_H} {n : Nat} {g : Bool} {F : Nat → Nat → Nat} (hW : Wd h) (hM : MB h n g F) {S T : Nat → Nat} (hS : SB 11 12 13 h n S T) {w : Option Nat} (hw : ∀ k, w = some k → k < n)  : am_D 4 m_X10_passingParts [.ref 16, .int (oN w)] h (fun v h2 => v = some (.long (lN (pas n g F S T w true 8))) ∧ Fr [17] h h2) := by
  have h7 := hM.2.2.1
  refine Eq_aln dX10_passingParts_0 rfl ?_
  refine Eq_iln dX10_passingParts_1 rfl ?_
  refine Eq_W1 (N := m_X10_spread) dX10_passingParts_2 lk_X10_80 mV_X10_spread (c_spread hW hM hS hw) (by decide) (ws_16 hW) rfl (by decide) (Nat.le_of_ble_eq_true rfl) (Nat.le_of_ble_eq_true rfl) (fun vq hq1 hq2 => ?_)
  obtain ⟨rfl, hf2, hp2⟩ := hq2
  refine Eq_isn dX10_passingParts_5 (by decide) ?_
  refine Eq_lc (v := lN 0) dX10_passingParts_6 rfl ?_
  refine Eq_lsn dX10_passingParts_7 (by decide) ?_
  refine Eq_ic (v := nI 0) dX10_passingParts_8 rfl ?_
  refine Eq_is dX10_passingParts_9 (by decide) ?_
  exact ⟨_, _, c_pp_lp h7 (hf2.Wd hW) hp2 8 0 _ (by omega), rfl, hf2⟩
set_option maxHeartbeats 2000000 in
theorem c_partsOf {h : am_H} {n : Nat} {g : Bool} {F : Nat → Nat → Nat} (hW : Wd h) (hM : MB h n g F) {S T : Nat → Nat} (hS : SB 11 12 13 h n S T) {y : Nat} (hy : y < 8) : am_D 4 m_X10_partsOf [.ref 16, .int (nI y)] h (fun v h2 => v = some (.long (lN (prt n g F S T none n y))) ∧ Fr [17] h h2) := by
  refine Eq_aln dX10_partsOf_0 rfl ?_
  refine Eq_ic (v := -1) dX10_partsOf_1 rfl ?_
  refine Eq_W1 (N := m_X10_spread) dX10_partsOf_2 lk_X10_80 mV_X10_spread (c_spread (w := none) hW hM hS (fun k hk => nomatch hk)) (by decide) (ws_16 hW) rfl (by decide) (Nat.le_of_ble_eq_true rfl) (Nat.le_of_ble_eq_true rfl) (fun vq hq1 hq2 => ?_)
  obtain ⟨rfl, hf2, hp2⟩ := hq2
  have hW2 := hf2.Wd hW
  refine Eam_x_pu dX10_partsOf_5 rfl ?_
  refine Eq_iln dX10_partsOf_6 rfl ?_
  refine En_if_lt (tgt := 28) dX10_partsOf_7 rfl (by omega) ?_
  refine Eq_iln dX10_partsOf_10 rfl ?_
  refine Eq_aln dX10_partsOf_11 rfl ?_
  refine Eq_getR dX10_partsOf_12 fl_X10_22 (ws_16 hW2) rfl (wp_16_2 hW2) ?_
  refine Eam_x_alen dX10_partsOf_15 (ws_17 hW2) (by decide) ?_
  refine Ef_ic_ge dX10_partsOf_16 (tgt := 28) rfl (by exact nI_ge (by omega) (by omega)) ?_
  refine Eq_aln dX10_partsOf_19 rfl ?_
  refine Eq_getR dX10_partsOf_20 fl_X10_22 (ws_16 hW2) rfl (wp_16_2 hW2) ?_
  refine Eq_iln dX10_partsOf_23 rfl ?_
  refine Eq_lld dX10_partsOf_24 (ws_17 hW2) (by omega) (by omega) (hp2 _ (by omega)) ?_
  refine Eam_x_goto (tgt := 29) dX10_partsOf_25 rfl ?_
  refine Eq_lr dX10_partsOf_29 rfl ?_
  exact ⟨rfl, hf2⟩
set_option maxHeartbeats 2000000 in
theorem c_partsOfX {h : am_H} {n : Nat} {g : Bool} {F : Nat → Nat → Nat} (hW : Wd h) (hM : MB h n g F) {S T : Nat → Nat} (hS : SB 11 12 13 h n S T) {y : Int32} (hy : ¬ y < 0) (hy2 : nI 8 ≤ y) : am_D 4 m_X10_partsOf [.ref 16, .int y] h (fun v h2 => v = some (.long (lN 0)) ∧ Fr [17] h h2) := by
  refine Eq_aln dX10_partsOf_0 rfl ?_
  refine Eq_ic (v := -1) dX10_partsOf_1 rfl ?_
  refine Eq_W1 (N := m_X10_spread) dX10_partsOf_2 lk_X10_80 mV_X10_spread (c_spread (w := none) hW hM hS (fun k hk => nomatch hk)) (by decide) (ws_16 hW) rfl (by decide) (Nat.le_of_ble_eq_true rfl) (Nat.le_of_ble_eq_true rfl) (fun vq hq1 hq2 => ?_)
  obtain ⟨rfl, hf2, hp2⟩ := hq2
  have hW2 := hf2.Wd hW
  refine Eam_x_pu dX10_partsOf_5 rfl ?_
  refine Eq_iln dX10_partsOf_6 rfl ?_
  refine Ef_if_lt dX10_partsOf_7 (tgt := 28) rfl (by exact hy) ?_
  refine Eq_iln dX10_partsOf_10 rfl ?_
  refine Eq_aln dX10_partsOf_11 rfl ?_
  refine Eq_getR dX10_partsOf_12 fl_X10_22 (ws_16 hW2) rfl (wp_16_2 hW2) ?_
  refine Eam_x_alen dX10_partsOf_15 (ws_17 hW2) (by decide) ?_
  refine Et_ic_ge 28 dX10_partsOf_16 rfl (by exact hy2) ?_
  refine Eq_lc (v := lN 0) dX10_partsOf_28 rfl ?_
  refine Eq_lr dX10_partsOf_29 rfl ?_
  exact ⟨rfl, hf2⟩
set_option maxHeartbeats 2000000 in
theorem c_whoTurns_lp {h : am_H} {n : Nat} {g : Bool} {F : Nat → Nat → Nat} (hW : Wd h) (hM : MB h n g F) {S T : Nat → Nat} (hS : SB 11 12 13 h n S T)  : ∀ k j hc (x7 x8 x9 x10 : Option Value), j + k = n → Fr [17] h hc → am_E 5 m_X10_whoTurns 25 [some (.ref 16), some (.int (nI (bt (fun m => hrd n g F S T m) n))), some (.int (nI (if due n g F S T = true then 1 else 0))), some (.int (oN ((tn n g F S T j).map Prod.fst))), some (.long (agm n g F S T (tn n g F S T j))), none, some (.int (nI j)), x7, x8, x9, x10] [] hc (fun v h2 => v = some (.int (oN ((tn n g F S T n).map Prod.fst))) ∧ Fr [17] h h2) := by
  obtain ⟨hn, hg, h7, hF, hB⟩ := id hM
  have hF9 : ∀ i m, i < 7 → m < n → F i m ≤ 99 := fun i m hi hm => (hF i m hi hm).2
  have tnle : ∀ k q, tn n g F S T k = some q → q.2 ≤ 100 ^ hct n g F S T := by
    intro k
    induction k with
    | zero => intro q h; simp [tn] at h
    | succ k ih =>
      intro q h
      by_cases hh : hrd n g F S T k = true
      · cases hq : tn n g F S T k with
        | none => rw [tn_n hh hq] at h; cases h; exact pas_le h7 hF9 hS.S hS.T
        | some p =>
          by_cases hl : p.2 < pas n g F S T (some k) (due n g F S T) 8
          · rw [tn_l hh hq hl] at h; cases h; exact pas_le h7 hF9 hS.S hS.T
          · rw [tn_g hh hq hl] at h; cases h; exact ih _ hq
      · rw [tn_o hh] at h; exact ih q h
  have hbt := bt_128 (fun m => hrd n g F S T m) h7
  intro k
  induction k with
  | zero =>
    intro j hc x7 x8 x9 x10 hj hfr
    have hjn : j = n := by omega
    subst hjn
    have hWc := hfr.Wd hW
    have hMc := hM.fr hfr (by decide) (by decide)
    have hSc := hS.fr hfr (by decide) (by decide) (by decide)
    have hn := hMc.1
    refine Eq_il dX10_whoTurns_25 rfl ?_
    refine Eq_aln dX10_whoTurns_27 rfl ?_
    refine Eq_getR dX10_whoTurns_28 fl_X10_21 (ws_16 hWc) rfl (wp_16_1 hWc) ?_
    refine Eq_getI dX10_whoTurns_31 fl_X10_44 (ws_9 hWc) rfl (by first | assumption | rfl) ?_
    refine Et_ic_ge 94 dX10_whoTurns_34 rfl (by exact nI_le (by omega) (by omega)) ?_
    refine Eq_iln dX10_whoTurns_94 rfl ?_
    refine Eq_ir dX10_whoTurns_95 rfl ?_
    exact ⟨rfl, hfr⟩
  | succ k ih =>
    intro j hc x7 x8 x9 x10 hj hfr
    have hWc := hfr.Wd hW
    have hMc := hM.fr hfr (by decide) (by decide)
    have hSc := hS.fr hfr (by decide) (by decide) (by decide)
    have hn := hMc.1
    by_cases hh : hrd n g F S T j = true
    · by_cases hd : due n g F S T = true
      · have e1 : lN (pas n g F S T (some j) true 8) = ag n g F S T (pas n g F S T (some j) (due n g F S T) 8) := by
            rw [ag, if_pos hd, hd]
        cases hq : tn n g F S T j with
        | none =>
            refine Eq_il dX10_whoTurns_25 rfl ?_
            refine Eq_aln dX10_whoTurns_27 rfl ?_
            refine Eq_getR dX10_whoTurns_28 fl_X10_21 (ws_16 hWc) rfl (wp_16_1 hWc) ?_
            refine Eq_getI dX10_whoTurns_31 fl_X10_44 (ws_9 hWc) rfl (by first | assumption | rfl) ?_
            refine Ef_ic_ge dX10_whoTurns_34 (tgt := 94) rfl (by exact nI_ge (by omega) (by omega)) ?_
            refine Eq_iln dX10_whoTurns_37 rfl ?_
            refine Eq_il dX10_whoTurns_38 rfl ?_
            first | refine Eq_shr dX10_whoTurns_40 (by omega) (by omega) ?_ | refine Eam_x_pu dX10_whoTurns_40 rfl ?_
            refine Eq_ic (v := nI 1) dX10_whoTurns_41 rfl ?_
            first | refine Eq_and dX10_whoTurns_42 ?_ | refine Eam_x_pu dX10_whoTurns_42 rfl ?_
            refine Ef_if_eq dX10_whoTurns_43 (tgt := 88) rfl (by rw [bt_bit (by omega), if_pos hh]; decide +kernel) ?_
            refine Eq_aln dX10_whoTurns_46 rfl ?_
            refine Eq_il dX10_whoTurns_47 rfl ?_
            refine Eq_W1 (N := m_X10_passingParts) dX10_whoTurns_49 lk_X10_93 mV_X10_passingParts (c_passingParts (w := some j) hWc hMc hSc (fun k hk => by cases hk; omega)) (by decide) (ws_16 hWc) rfl (by decide) (Nat.le_of_ble_eq_true rfl) (Nat.le_of_ble_eq_true rfl) (fun vq hq1 hq2 => ?_)
            obtain ⟨rfl, hf2⟩ := hq2
            refine Eq_ls dX10_whoTurns_52 (by decide) ?_
            refine Eq_iln dX10_whoTurns_54 rfl ?_
            refine Ef_if_eq dX10_whoTurns_55 (tgt := 63) rfl (by rw [if_pos hd]; decide +kernel) ?_
            refine Eq_ll dX10_whoTurns_58 rfl ?_
            refine Eam_x_goto (tgt := 66) dX10_whoTurns_60 rfl ?_
            rw [e1]
            refine Eq_ls dX10_whoTurns_66 (by decide) ?_
            refine Eq_iln dX10_whoTurns_68 rfl ?_
            refine Eq_ic (v := -1) dX10_whoTurns_69 rfl ?_
            refine Et_ic_eq 81 dX10_whoTurns_70 rfl (by rfl) ?_
            refine Eq_il dX10_whoTurns_81 rfl ?_
            refine Eq_isn dX10_whoTurns_83 (by decide) ?_
            refine Eq_ll dX10_whoTurns_84 rfl ?_
            refine Eq_ls dX10_whoTurns_86 (by decide) ?_
            refine Eq_inc dX10_whoTurns_88 rfl (by decide) ?_
            refine Eam_x_goto (tgt := 25) dX10_whoTurns_91 rfl ?_
            (have q := fun x7 x8 x9 x10 => ih (j + 1) hq1 x7 x8 x9 x10 (by omega) (hfr.tr hf2); simp only [tn_n hh hq] at q; exact q _ _ _ _)
        | some p =>
            have hpl := tn_lt j p hq
            have hpc := tnle j p hq
            by_cases hl : p.2 < pas n g F S T (some j) (due n g F S T) 8
            · have hcmp : ¬ ag n g F S T (pas n g F S T (some j) (due n g F S T) 8) ≤ ag n g F S T p.2 := by rw [ag_le h7 (pas_le h7 hF9 hS.S hS.T) hpc]; omega
              refine Eq_il dX10_whoTurns_25 rfl ?_
              refine Eq_aln dX10_whoTurns_27 rfl ?_
              refine Eq_getR dX10_whoTurns_28 fl_X10_21 (ws_16 hWc) rfl (wp_16_1 hWc) ?_
              refine Eq_getI dX10_whoTurns_31 fl_X10_44 (ws_9 hWc) rfl (by first | assumption | rfl) ?_
              refine Ef_ic_ge dX10_whoTurns_34 (tgt := 94) rfl (by exact nI_ge (by omega) (by omega)) ?_
              refine Eq_iln dX10_whoTurns_37 rfl ?_
              refine Eq_il dX10_whoTurns_38 rfl ?_
              first | refine Eq_shr dX10_whoTurns_40 (by omega) (by omega) ?_ | refine Eam_x_pu dX10_whoTurns_40 rfl ?_
              refine Eq_ic (v := nI 1) dX10_whoTurns_41 rfl ?_
              first | refine Eq_and dX10_whoTurns_42 ?_ | refine Eam_x_pu dX10_whoTurns_42 rfl ?_
              refine Ef_if_eq dX10_whoTurns_43 (tgt := 88) rfl (by rw [bt_bit (by omega), if_pos hh]; decide +kernel) ?_
              refine Eq_aln dX10_whoTurns_46 rfl ?_
              refine Eq_il dX10_whoTurns_47 rfl ?_
              refine Eq_W1 (N := m_X10_passingParts) dX10_whoTurns_49 lk_X10_93 mV_X10_passingParts (c_passingParts (w := some j) hWc hMc hSc (fun k hk => by cases hk; omega)) (by decide) (ws_16 hWc) rfl (by decide) (Nat.le_of_ble_eq_true rfl) (Nat.le_of_ble_eq_true rfl) (fun vq hq1 hq2 => ?_)
              obtain ⟨rfl, hf2⟩ := hq2
              refine Eq_ls dX10_whoTurns_52 (by decide) ?_
              refine Eq_iln dX10_whoTurns_54 rfl ?_
              refine Ef_if_eq dX10_whoTurns_55 (tgt := 63) rfl (by rw [if_pos hd]; decide +kernel) ?_
              refine Eq_ll dX10_whoTurns_58 rfl ?_
              refine Eam_x_goto (tgt := 66) dX10_whoTurns_60 rfl ?_
              rw [e1]
              refine Eq_ls dX10_whoTurns_66 (by decide) ?_
              refine Eq_iln dX10_whoTurns_68 rfl ?_
              refine Eq_ic (v := -1) dX10_whoTurns_69 rfl ?_
              refine Ef_ic_eq dX10_whoTurns_70 (tgt := 81) rfl (by exact nI_m1 (by omega)) ?_
              refine Eq_ll dX10_whoTurns_73 rfl ?_
              refine Eq_ll dX10_whoTurns_75 rfl ?_
              refine Eam_x_pu dX10_whoTurns_77 rfl ?_
              refine Ef_if_le dX10_whoTurns_78 (tgt := 88) rfl (by rw [lg_cmp_le]; exact hcmp) ?_
              refine Eq_il dX10_whoTurns_81 rfl ?_
              refine Eq_isn dX10_whoTurns_83 (by decide) ?_
              refine Eq_ll dX10_whoTurns_84 rfl ?_
              refine Eq_ls dX10_whoTurns_86 (by decide) ?_
              refine Eq_inc dX10_whoTurns_88 rfl (by decide) ?_
              refine Eam_x_goto (tgt := 25) dX10_whoTurns_91 rfl ?_
              (have q := fun x7 x8 x9 x10 => ih (j + 1) hq1 x7 x8 x9 x10 (by omega) (hfr.tr hf2); simp only [tn_l hh hq hl] at q; exact q _ _ _ _)
            · have hcmp : ag n g F S T (pas n g F S T (some j) (due n g F S T) 8) ≤ ag n g F S T p.2 := by rw [ag_le h7 (pas_le h7 hF9 hS.S hS.T) hpc]; omega
              refine Eq_il dX10_whoTurns_25 rfl ?_
              refine Eq_aln dX10_whoTurns_27 rfl ?_
              refine Eq_getR dX10_whoTurns_28 fl_X10_21 (ws_16 hWc) rfl (wp_16_1 hWc) ?_
              refine Eq_getI dX10_whoTurns_31 fl_X10_44 (ws_9 hWc) rfl (by first | assumption | rfl) ?_
              refine Ef_ic_ge dX10_whoTurns_34 (tgt := 94) rfl (by exact nI_ge (by omega) (by omega)) ?_
              refine Eq_iln dX10_whoTurns_37 rfl ?_
              refine Eq_il dX10_whoTurns_38 rfl ?_
              first | refine Eq_shr dX10_whoTurns_40 (by omega) (by omega) ?_ | refine Eam_x_pu dX10_whoTurns_40 rfl ?_
              refine Eq_ic (v := nI 1) dX10_whoTurns_41 rfl ?_
              first | refine Eq_and dX10_whoTurns_42 ?_ | refine Eam_x_pu dX10_whoTurns_42 rfl ?_
              refine Ef_if_eq dX10_whoTurns_43 (tgt := 88) rfl (by rw [bt_bit (by omega), if_pos hh]; decide +kernel) ?_
              refine Eq_aln dX10_whoTurns_46 rfl ?_
              refine Eq_il dX10_whoTurns_47 rfl ?_
              refine Eq_W1 (N := m_X10_passingParts) dX10_whoTurns_49 lk_X10_93 mV_X10_passingParts (c_passingParts (w := some j) hWc hMc hSc (fun k hk => by cases hk; omega)) (by decide) (ws_16 hWc) rfl (by decide) (Nat.le_of_ble_eq_true rfl) (Nat.le_of_ble_eq_true rfl) (fun vq hq1 hq2 => ?_)
              obtain ⟨rfl, hf2⟩ := hq2
              refine Eq_ls dX10_whoTurns_52 (by decide) ?_
              refine Eq_iln dX10_whoTurns_54 rfl ?_
              refine Ef_if_eq dX10_whoTurns_55 (tgt := 63) rfl (by rw [if_pos hd]; decide +kernel) ?_
              refine Eq_ll dX10_whoTurns_58 rfl ?_
              refine Eam_x_goto (tgt := 66) dX10_whoTurns_60 rfl ?_
              rw [e1]
              refine Eq_ls dX10_whoTurns_66 (by decide) ?_
              refine Eq_iln dX10_whoTurns_68 rfl ?_
              refine Eq_ic (v := -1) dX10_whoTurns_69 rfl ?_
              refine Ef_ic_eq dX10_whoTurns_70 (tgt := 81) rfl (by exact nI_m1 (by omega)) ?_
              refine Eq_ll dX10_whoTurns_73 rfl ?_
              refine Eq_ll dX10_whoTurns_75 rfl ?_
              refine Eam_x_pu dX10_whoTurns_77 rfl ?_
              refine Et_if_le 88 dX10_whoTurns_78 rfl (by rw [lg_cmp_le]; exact hcmp) ?_
              refine Eq_inc dX10_whoTurns_88 rfl (by decide) ?_
              refine Eam_x_goto (tgt := 25) dX10_whoTurns_91 rfl ?_
              (have q := fun x7 x8 x9 x10 => ih (j + 1) hq1 x7 x8 x9 x10 (by omega) (hfr.tr hf2); simp only [tn_g hh hq hl] at q; exact q _ _ _ _)
      · have e1 : -(lN (pas n g F S T (some j) true 8)) = ag n g F S T (pas n g F S T (some j) (due n g F S T) 8) := by
            rw [ag, if_neg hd, Bool.eq_false_iff.mpr hd, ← pas_sum (w := some j) (g := g) h7 hF9 hS.S hS.T, Nat.add_sub_cancel]
        cases hq : tn n g F S T j with
        | none =>
            refine Eq_il dX10_whoTurns_25 rfl ?_
            refine Eq_aln dX10_whoTurns_27 rfl ?_
            refine Eq_getR dX10_whoTurns_28 fl_X10_21 (ws_16 hWc) rfl (wp_16_1 hWc) ?_
            refine Eq_getI dX10_whoTurns_31 fl_X10_44 (ws_9 hWc) rfl (by first | assumption | rfl) ?_
            refine Ef_ic_ge dX10_whoTurns_34 (tgt := 94) rfl (by exact nI_ge (by omega) (by omega)) ?_
            refine Eq_iln dX10_whoTurns_37 rfl ?_
            refine Eq_il dX10_whoTurns_38 rfl ?_
            first | refine Eq_shr dX10_whoTurns_40 (by omega) (by omega) ?_ | refine Eam_x_pu dX10_whoTurns_40 rfl ?_
            refine Eq_ic (v := nI 1) dX10_whoTurns_41 rfl ?_
            first | refine Eq_and dX10_whoTurns_42 ?_ | refine Eam_x_pu dX10_whoTurns_42 rfl ?_
            refine Ef_if_eq dX10_whoTurns_43 (tgt := 88) rfl (by rw [bt_bit (by omega), if_pos hh]; decide +kernel) ?_
            refine Eq_aln dX10_whoTurns_46 rfl ?_
            refine Eq_il dX10_whoTurns_47 rfl ?_
            refine Eq_W1 (N := m_X10_passingParts) dX10_whoTurns_49 lk_X10_93 mV_X10_passingParts (c_passingParts (w := some j) hWc hMc hSc (fun k hk => by cases hk; omega)) (by decide) (ws_16 hWc) rfl (by decide) (Nat.le_of_ble_eq_true rfl) (Nat.le_of_ble_eq_true rfl) (fun vq hq1 hq2 => ?_)
            obtain ⟨rfl, hf2⟩ := hq2
            refine Eq_ls dX10_whoTurns_52 (by decide) ?_
            refine Eq_iln dX10_whoTurns_54 rfl ?_
            refine Et_if_eq 63 dX10_whoTurns_55 rfl (by rw [if_neg hd]; rfl) ?_
            refine Eq_ll dX10_whoTurns_63 rfl ?_
            refine Eam_x_pu dX10_whoTurns_65 rfl ?_
            rw [e1]
            refine Eq_ls dX10_whoTurns_66 (by decide) ?_
            refine Eq_iln dX10_whoTurns_68 rfl ?_
            refine Eq_ic (v := -1) dX10_whoTurns_69 rfl ?_
            refine Et_ic_eq 81 dX10_whoTurns_70 rfl (by rfl) ?_
            refine Eq_il dX10_whoTurns_81 rfl ?_
            refine Eq_isn dX10_whoTurns_83 (by decide) ?_
            refine Eq_ll dX10_whoTurns_84 rfl ?_
            refine Eq_ls dX10_whoTurns_86 (by decide) ?_
            refine Eq_inc dX10_whoTurns_88 rfl (by decide) ?_
            refine Eam_x_goto (tgt := 25) dX10_whoTurns_91 rfl ?_
            (have q := fun x7 x8 x9 x10 => ih (j + 1) hq1 x7 x8 x9 x10 (by omega) (hfr.tr hf2); simp only [tn_n hh hq] at q; exact q _ _ _ _)
        | some p =>
            have hpl := tn_lt j p hq
            have hpc := tnle j p hq
            by_cases hl : p.2 < pas n g F S T (some j) (due n g F S T) 8
            · have hcmp : ¬ ag n g F S T (pas n g F S T (some j) (due n g F S T) 8) ≤ ag n g F S T p.2 := by rw [ag_le h7 (pas_le h7 hF9 hS.S hS.T) hpc]; omega
              refine Eq_il dX10_whoTurns_25 rfl ?_
              refine Eq_aln dX10_whoTurns_27 rfl ?_
              refine Eq_getR dX10_whoTurns_28 fl_X10_21 (ws_16 hWc) rfl (wp_16_1 hWc) ?_
              refine Eq_getI dX10_whoTurns_31 fl_X10_44 (ws_9 hWc) rfl (by first | assumption | rfl) ?_
              refine Ef_ic_ge dX10_whoTurns_34 (tgt := 94) rfl (by exact nI_ge (by omega) (by omega)) ?_
              refine Eq_iln dX10_whoTurns_37 rfl ?_
              refine Eq_il dX10_whoTurns_38 rfl ?_
              first | refine Eq_shr dX10_whoTurns_40 (by omega) (by omega) ?_ | refine Eam_x_pu dX10_whoTurns_40 rfl ?_
              refine Eq_ic (v := nI 1) dX10_whoTurns_41 rfl ?_
              first | refine Eq_and dX10_whoTurns_42 ?_ | refine Eam_x_pu dX10_whoTurns_42 rfl ?_
              refine Ef_if_eq dX10_whoTurns_43 (tgt := 88) rfl (by rw [bt_bit (by omega), if_pos hh]; decide +kernel) ?_
              refine Eq_aln dX10_whoTurns_46 rfl ?_
              refine Eq_il dX10_whoTurns_47 rfl ?_
              refine Eq_W1 (N := m_X10_passingParts) dX10_whoTurns_49 lk_X10_93 mV_X10_passingParts (c_passingParts (w := some j) hWc hMc hSc (fun k hk => by cases hk; omega)) (by decide) (ws_16 hWc) rfl (by decide) (Nat.le_of_ble_eq_true rfl) (Nat.le_of_ble_eq_true rfl) (fun vq hq1 hq2 => ?_)
              obtain ⟨rfl, hf2⟩ := hq2
              refine Eq_ls dX10_whoTurns_52 (by decide) ?_
              refine Eq_iln dX10_whoTurns_54 rfl ?_
              refine Et_if_eq 63 dX10_whoTurns_55 rfl (by rw [if_neg hd]; rfl) ?_
              refine Eq_ll dX10_whoTurns_63 rfl ?_
              refine Eam_x_pu dX10_whoTurns_65 rfl ?_
              rw [e1]
              refine Eq_ls dX10_whoTurns_66 (by decide) ?_
              refine Eq_iln dX10_whoTurns_68 rfl ?_
              refine Eq_ic (v := -1) dX10_whoTurns_69 rfl ?_
              refine Ef_ic_eq dX10_whoTurns_70 (tgt := 81) rfl (by exact nI_m1 (by omega)) ?_
              refine Eq_ll dX10_whoTurns_73 rfl ?_
              refine Eq_ll dX10_whoTurns_75 rfl ?_
              refine Eam_x_pu dX10_whoTurns_77 rfl ?_
              refine Ef_if_le dX10_whoTurns_78 (tgt := 88) rfl (by rw [lg_cmp_le]; exact hcmp) ?_
              refine Eq_il dX10_whoTurns_81 rfl ?_
              refine Eq_isn dX10_whoTurns_83 (by decide) ?_
              refine Eq_ll dX10_whoTurns_84 rfl ?_
              refine Eq_ls dX10_whoTurns_86 (by decide) ?_
              refine Eq_inc dX10_whoTurns_88 rfl (by decide) ?_
              refine Eam_x_goto (tgt := 25) dX10_whoTurns_91 rfl ?_
              (have q := fun x7 x8 x9 x10 => ih (j + 1) hq1 x7 x8 x9 x10 (by omega) (hfr.tr hf2); simp only [tn_l hh hq hl] at q; exact q _ _ _ _)
            · have hcmp : ag n g F S T (pas n g F S T (some j) (due n g F S T) 8) ≤ ag n g F S T p.2 := by rw [ag_le h7 (pas_le h7 hF9 hS.S hS.T) hpc]; omega
              refine Eq_il dX10_whoTurns_25 rfl ?_
              refine Eq_aln dX10_whoTurns_27 rfl ?_
              refine Eq_getR dX10_whoTurns_28 fl_X10_21 (ws_16 hWc) rfl (wp_16_1 hWc) ?_
              refine Eq_getI dX10_whoTurns_31 fl_X10_44 (ws_9 hWc) rfl (by first | assumption | rfl) ?_
              refine Ef_ic_ge dX10_whoTurns_34 (tgt := 94) rfl (by exact nI_ge (by omega) (by omega)) ?_
              refine Eq_iln dX10_whoTurns_37 rfl ?_
              refine Eq_il dX10_whoTurns_38 rfl ?_
              first | refine Eq_shr dX10_whoTurns_40 (by omega) (by omega) ?_ | refine Eam_x_pu dX10_whoTurns_40 rfl ?_
              refine Eq_ic (v := nI 1) dX10_whoTurns_41 rfl ?_
              first | refine Eq_and dX10_whoTurns_42 ?_ | refine Eam_x_pu dX10_whoTurns_42 rfl ?_
              refine Ef_if_eq dX10_whoTurns_43 (tgt := 88) rfl (by rw [bt_bit (by omega), if_pos hh]; decide +kernel) ?_
              refine Eq_aln dX10_whoTurns_46 rfl ?_
              refine Eq_il dX10_whoTurns_47 rfl ?_
              refine Eq_W1 (N := m_X10_passingParts) dX10_whoTurns_49 lk_X10_93 mV_X10_passingParts (c_passingParts (w := some j) hWc hMc hSc (fun k hk => by cases hk; omega)) (by decide) (ws_16 hWc) rfl (by decide) (Nat.le_of_ble_eq_true rfl) (Nat.le_of_ble_eq_true rfl) (fun vq hq1 hq2 => ?_)
              obtain ⟨rfl, hf2⟩ := hq2
              refine Eq_ls dX10_whoTurns_52 (by decide) ?_
              refine Eq_iln dX10_whoTurns_54 rfl ?_
              refine Et_if_eq 63 dX10_whoTurns_55 rfl (by rw [if_neg hd]; rfl) ?_
              refine Eq_ll dX10_whoTurns_63 rfl ?_
              refine Eam_x_pu dX10_whoTurns_65 rfl ?_
              rw [e1]
              refine Eq_ls dX10_whoTurns_66 (by decide) ?_
              refine Eq_iln dX10_whoTurns_68 rfl ?_
              refine Eq_ic (v := -1) dX10_whoTurns_69 rfl ?_
              refine Ef_ic_eq dX10_whoTurns_70 (tgt := 81) rfl (by exact nI_m1 (by omega)) ?_
              refine Eq_ll dX10_whoTurns_73 rfl ?_
              refine Eq_ll dX10_whoTurns_75 rfl ?_
              refine Eam_x_pu dX10_whoTurns_77 rfl ?_
              refine Et_if_le 88 dX10_whoTurns_78 rfl (by rw [lg_cmp_le]; exact hcmp) ?_
              refine Eq_inc dX10_whoTurns_88 rfl (by decide) ?_
              refine Eam_x_goto (tgt := 25) dX10_whoTurns_91 rfl ?_
              (have q := fun x7 x8 x9 x10 => ih (j + 1) hq1 x7 x8 x9 x10 (by omega) (hfr.tr hf2); simp only [tn_g hh hq hl] at q; exact q _ _ _ _)
    · refine Eq_il dX10_whoTurns_25 rfl ?_
      refine Eq_aln dX10_whoTurns_27 rfl ?_
      refine Eq_getR dX10_whoTurns_28 fl_X10_21 (ws_16 hWc) rfl (wp_16_1 hWc) ?_
      refine Eq_getI dX10_whoTurns_31 fl_X10_44 (ws_9 hWc) rfl (by first | assumption | rfl) ?_
      refine Ef_ic_ge dX10_whoTurns_34 (tgt := 94) rfl (by exact nI_ge (by omega) (by omega)) ?_
      refine Eq_iln dX10_whoTurns_37 rfl ?_
      refine Eq_il dX10_whoTurns_38 rfl ?_
      first | refine Eq_shr dX10_whoTurns_40 (by omega) (by omega) ?_ | refine Eam_x_pu dX10_whoTurns_40 rfl ?_
      refine Eq_ic (v := nI 1) dX10_whoTurns_41 rfl ?_
      first | refine Eq_and dX10_whoTurns_42 ?_ | refine Eam_x_pu dX10_whoTurns_42 rfl ?_
      refine Et_if_eq 88 dX10_whoTurns_43 rfl (by rw [bt_bit (by omega), if_neg hh]; rfl) ?_
      refine Eq_inc dX10_whoTurns_88 rfl (by decide) ?_
      refine Eam_x_goto (tgt := 25) dX10_whoTurns_91 rfl ?_
      (have q := ih (j + 1) hc x7 x8 x9 x10 (by omega) hfr; rw [tn_o hh] at q; exact q)
