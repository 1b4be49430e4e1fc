theorem nI_ge0 {a : Nat} (h : a < 2 ^ 31) : ¬ nI a < 0 := nI_nlt (a := a) (b := 0) (by omega) h
def odV (n : Nat) (g : Bool) (F : Nat → Nat → Nat) (S T : Nat → Nat) (x : Int32) : Int64 := if n = 0 then -1 else if x < 0 then -1 else match rg x 8 with
  | none => lN 0
  | some w => lN (prt n g F S T none n w)
theorem odV_0 {n : Nat} {g : Bool} {F : Nat → Nat → Nat} {S T : Nat → Nat} {x : Int32} (h : n = 0) : odV n g F S T x = -1 := if_pos h
theorem odV_n {n : Nat} {g : Bool} {F : Nat → Nat → Nat} {S T : Nat → Nat} {x : Int32} (h : x < 0) : odV n g F S T x = -1 := by
  unfold odV
  rw [if_pos h]
  split <;> rfl
theorem odV_m {n : Nat} {g : Bool} {F : Nat → Nat → Nat} {S T : Nat → Nat} {x : Int32} (h0 : ¬ n = 0) (hx : ¬ x < 0) (h : rg x 8 = none) : odV n g F S T x = lN 0 := by
  unfold odV
  rw [h, if_neg h0, if_neg hx]
theorem odV_s {n : Nat} {g : Bool} {F : Nat → Nat → Nat} {S T : Nat → Nat} {w : Nat} (h0 : ¬ n = 0) (hw : w < 8) : odV n g F S T (nI w) = lN (prt n g F S T none n w) := by
  unfold odV
  rw [rg_nI hw (by omega), if_neg h0, if_neg (nI_ge0 (by omega))]
def paV (n : Nat) (g : Bool) (F : Nat → Nat → Nat) (S T : Nat → Nat) : Int64 := if n = 0 then -1 else lN (pas n g F S T none true 8)
def tuV (n : Nat) (g : Bool) (F : Nat → Nat → Nat) (S T : Nat → Nat) : Int32 := oN ((tn n g F S T n).map Prod.fst)
def brV (n : Nat) (g : Bool) (F : Nat → Nat → Nat) (S T : Nat → Nat) (x : Int32) : Int32 := if n = 0 then -1 else match rg x 2 with
  | none => -1
  | some w => oN ((bb n g F S T (2 ^ n)).map (fun q => if w = 1 then q.1 else q.2))
theorem brV_0 {n : Nat} {g : Bool} {F : Nat → Nat → Nat} {S T : Nat → Nat} {x : Int32} (h : n = 0) : brV n g F S T x = -1 := if_pos h
theorem brV_n {n : Nat} {g : Bool} {F : Nat → Nat → Nat} {S T : Nat → Nat} {x : Int32} (h : rg x 2 = none) : brV n g F S T x = -1 := by
  unfold brV
  rw [h]
  split <;> rfl
theorem brV_s {n : Nat} {g : Bool} {F : Nat → Nat → Nat} {S T : Nat → Nat} {x : Int32} {w : Nat} (h0 : ¬ n = 0) (h : rg x 2 = some w) : brV n g F S T x = oN ((bb n g F S T (2 ^ n)).map (fun q => if w = 1 then q.1 else q.2)) := by
  unfold brV
  rw [h, if_neg h0]
set_option maxHeartbeats 2000000 in
theorem c_odds {h : am_H} {n : Nat} {g : Bool} {F : Nat → Nat → Nat} (hW : Wd h) (hM : MB h n g F) {S T : Nat → Nat} (hS : SB 11 12 13 h n S T) {x : Int32} : am_D 5 m_X11_odds [.ref 0, .int x] h (fun v h2 => v = some (.long (odV n g F S T x)) ∧ Fr [17] h h2) := by
  obtain ⟨hn, hg, h7, hF, hB⟩ := id hM
  by_cases h0 : n = 0
  · rw [odV_0 h0]
    refine Eq_aln dX11_odds_0 rfl ?_
    refine Eq_getR dX11_odds_1 fl_X11_48 (ws_0 hW) rfl (wp_0_6 hW) ?_
    refine Eq_getI dX11_odds_4 fl_X11_146 (ws_9 hW) rfl (by first | assumption | rfl) ?_
    refine Et_if_eq 14 dX11_odds_7 rfl (by rw [h0]; rfl) ?_
    refine Eam_x_ldc2 dX11_odds_14 kc_X11_212 ?_
    refine Eam_x_goto (tgt := 28) dX11_odds_17 rfl ?_
    refine Eq_lr dX11_odds_28 rfl ?_
    exact ⟨rfl, Fr.rf⟩
  · cases hr : rg x 8 with
    | none =>
      rcases rg_none (by omega) hr with hx | ⟨hx, hy⟩
      · rw [odV_n hx]
        refine Eq_aln dX11_odds_0 rfl ?_
        refine Eq_getR dX11_odds_1 fl_X11_48 (ws_0 hW) rfl (wp_0_6 hW) ?_
        refine Eq_getI dX11_odds_4 fl_X11_146 (ws_9 hW) rfl (by first | assumption | rfl) ?_
        refine Ef_if_eq dX11_odds_7 (tgt := 14) rfl (by exact nI_ne0 (by omega) (by omega)) ?_
        refine Eq_iln dX11_odds_10 rfl ?_
        refine Ef_if_ge dX11_odds_11 (tgt := 20) rfl (by exact fun z => absurd hx (Int32.not_lt.mpr z)) ?_
        refine Eam_x_ldc2 dX11_odds_14 kc_X11_212 ?_
        refine Eam_x_goto (tgt := 28) dX11_odds_17 rfl ?_
        refine Eq_lr dX11_odds_28 rfl ?_
        exact ⟨rfl, Fr.rf⟩
      · rw [odV_m h0 hx hr]
        refine Eq_aln dX11_odds_0 rfl ?_
        refine Eq_getR dX11_odds_1 fl_X11_48 (ws_0 hW) rfl (wp_0_6 hW) ?_
        refine Eq_getI dX11_odds_4 fl_X11_146 (ws_9 hW) rfl (by first | assumption | rfl) ?_
        refine Ef_if_eq dX11_odds_7 (tgt := 14) rfl (by exact nI_ne0 (by omega) (by omega)) ?_
        refine Eq_iln dX11_odds_10 rfl ?_
        refine Et_if_ge 20 dX11_odds_11 rfl (by exact rg_0 hx) ?_
        refine Eq_aln dX11_odds_20 rfl ?_
        refine Eq_getR dX11_odds_21 fl_X11_73 (ws_0 hW) rfl (wp_0_9 hW) ?_
        refine Eq_iln dX11_odds_24 rfl ?_
        refine Eq_W1 (N := m_X10_partsOf) dX11_odds_25 lk_X11_224 mV_X10_partsOf (c_partsOfX hW hM hS hx hy) (by decide) (ws_16 hW) rfl (by decide) (Nat.le_of_ble_eq_true rfl) (Nat.le_of_ble_eq_true rfl) (fun vq hq1 hq2 => ?_)
        obtain ⟨rfl, hf⟩ := hq2
        refine Eq_lr dX11_odds_28 rfl ?_
        exact ⟨rfl, hf⟩
    | some w =>
      obtain ⟨rfl, hw⟩ := rg_some (by omega) hr
      rw [odV_s h0 hw]
      refine Eq_aln dX11_odds_0 rfl ?_
      refine Eq_getR dX11_odds_1 fl_X11_48 (ws_0 hW) rfl (wp_0_6 hW) ?_
      refine Eq_getI dX11_odds_4 fl_X11_146 (ws_9 hW) rfl (by first | assumption | rfl) ?_
      refine Ef_if_eq dX11_odds_7 (tgt := 14) rfl (by exact nI_ne0 (by omega) (by omega)) ?_
      refine Eq_iln dX11_odds_10 rfl ?_
      refine En_if_ge 20 dX11_odds_11 rfl (by omega) ?_
      refine Eq_aln dX11_odds_20 rfl ?_
      refine Eq_getR dX11_odds_21 fl_X11_73 (ws_0 hW) rfl (wp_0_9 hW) ?_
      refine Eq_iln dX11_odds_24 rfl ?_
      refine Eq_W1 (N := m_X10_partsOf) dX11_odds_25 lk_X11_224 mV_X10_partsOf (c_partsOf hW hM hS hw) (by decide) (ws_16 hW) rfl (by decide) (Nat.le_of_ble_eq_true rfl) (Nat.le_of_ble_eq_true rfl) (fun vq hq1 hq2 => ?_)
      obtain ⟨rfl, hf⟩ := hq2
      refine Eq_lr dX11_odds_28 rfl ?_
      exact ⟨rfl, hf⟩
set_option maxHeartbeats 2000000 in
theorem r_odds {h : am_H} {n : Nat} {g : Bool} {F : Nat → Nat → Nat} {S T : Nat → Nat} (hW : Wd h) (hR : RB h n g F S T) {x : Int32} : am_D 4 m_X12_odds [.ref 50, .int x] h (fun v h2 => v = some (.long (odV n g F S T x)) ∧ Fr [64] h h2) := by
  obtain ⟨hn, hg, h7, hF, hB, hS, hT⟩ := id hR
  by_cases h0 : n = 0
  · rw [odV_0 h0]
    refine Eq_aln dX12_odds_0 rfl ?_
    refine Eq_getI dX12_odds_1 fl_X12_252 (ws_50 hW) rfl (by first | assumption | rfl) ?_
    refine Et_if_eq 11 dX12_odds_4 rfl (by rw [h0]; rfl) ?_
    refine Eam_x_ldc2 dX12_odds_11 kc_X12_321 ?_
    refine Eq_lr dX12_odds_14 rfl ?_
    exact ⟨rfl, Fr.rf⟩
  · cases hr : rg x 8 with
    | none =>
      rcases rg_none (by omega) hr with hx | ⟨hx, hy⟩
      · rw [odV_n hx]
        refine Eq_aln dX12_odds_0 rfl ?_
        refine Eq_getI dX12_odds_1 fl_X12_252 (ws_50 hW) rfl (by first | assumption | rfl) ?_
        refine Ef_if_eq dX12_odds_4 (tgt := 11) rfl (by exact nI_ne0 (by omega) (by omega)) ?_
        refine Eq_iln dX12_odds_7 rfl ?_
        refine Ef_if_ge dX12_odds_8 (tgt := 15) rfl (by exact fun z => absurd hx (Int32.not_lt.mpr z)) ?_
        refine Eam_x_ldc2 dX12_odds_11 kc_X12_321 ?_
        refine Eq_lr dX12_odds_14 rfl ?_
        exact ⟨rfl, Fr.rf⟩
      · rw [odV_m h0 hx hr]
        refine Eq_aln dX12_odds_0 rfl ?_
        refine Eq_getI dX12_odds_1 fl_X12_252 (ws_50 hW) rfl (by first | assumption | rfl) ?_
        refine Ef_if_eq dX12_odds_4 (tgt := 11) rfl (by exact nI_ne0 (by omega) (by omega)) ?_
        refine Eq_iln dX12_odds_7 rfl ?_
        refine Et_if_ge 15 dX12_odds_8 rfl (by exact rg_0 hx) ?_
        refine Eq_aln dX12_odds_15 rfl ?_
        refine Eq_ic (v := -1) dX12_odds_16 rfl ?_
        refine Eq_W1 (N := m_X12_layParts) dX12_odds_17 lk_X12_332 mV_X12_layParts (r_layParts (w := none) hW hR (fun k hk => nomatch hk)) (by decide) (ws_50 hW) rfl (by decide) (Nat.le_of_ble_eq_true rfl) (Nat.le_of_ble_eq_true rfl) (fun vq hq1 hq2 => ?_)
        obtain ⟨rfl, hf, hp⟩ := hq2
        have hW2 := hf.Wd hW
        refine Eq_iln dX12_odds_20 rfl ?_
        refine Eq_bp (v := nI 7) dX12_odds_21 rfl ?_
        refine Ef_ic_le dX12_odds_23 (tgt := 30) rfl (by exact rg_gt (by omega) hy) ?_
        refine Eq_lc (v := lN 0) dX12_odds_26 rfl ?_
        refine Eam_x_goto (tgt := 36) dX12_odds_27 rfl ?_
        refine Eq_lr dX12_odds_36 rfl ?_
        exact ⟨rfl, hf⟩
    | some w =>
      obtain ⟨rfl, hw⟩ := rg_some (by omega) hr
      rw [odV_s h0 hw]
      refine Eq_aln dX12_odds_0 rfl ?_
      refine Eq_getI dX12_odds_1 fl_X12_252 (ws_50 hW) rfl (by first | assumption | rfl) ?_
      refine Ef_if_eq dX12_odds_4 (tgt := 11) rfl (by exact nI_ne0 (by omega) (by omega)) ?_
      refine Eq_iln dX12_odds_7 rfl ?_
      refine En_if_ge 15 dX12_odds_8 rfl (by omega) ?_
      refine Eq_aln dX12_odds_15 rfl ?_
      refine Eq_ic (v := -1) dX12_odds_16 rfl ?_
      refine Eq_W1 (N := m_X12_layParts) dX12_odds_17 lk_X12_332 mV_X12_layParts (r_layParts (w := none) hW hR (fun k hk => nomatch hk)) (by decide) (ws_50 hW) rfl (by decide) (Nat.le_of_ble_eq_true rfl) (Nat.le_of_ble_eq_true rfl) (fun vq hq1 hq2 => ?_)
      obtain ⟨rfl, hf, hp⟩ := hq2
      have hW2 := hf.Wd hW
      refine Eq_iln dX12_odds_20 rfl ?_
      refine Eq_bp (v := nI 7) dX12_odds_21 rfl ?_
      refine Et_ic_le 30 dX12_odds_23 rfl (by exact nI_le (by omega) (by omega)) ?_
      refine Eq_aln dX12_odds_30 rfl ?_
      refine Eq_getR dX12_odds_31 fl_X12_53 (ws_50 hW2) rfl (wp_50_29 hW2) ?_
      refine Eq_iln dX12_odds_34 rfl ?_
      refine Eq_lld dX12_odds_35 (ws_64 hW2) (by omega) (by omega) (hp _ (by omega)) ?_
      refine Eq_lr dX12_odds_36 rfl ?_
      exact ⟨rfl, hf⟩
set_option maxHeartbeats 2000000 in
theorem c_passed {h : am_H} {n : Nat} {g : Bool} {F : Nat → Nat → Nat} (hW : Wd h) (hM : MB h n g F) {S T : Nat → Nat} (hS : SB 11 12 13 h n S T)  : am_D 5 m_X11_passed [.ref 0] h (fun v h2 => v = some (.long (paV n g F S T)) ∧ Fr [17] h h2) := by
  obtain ⟨hn, hg, h7, hF, hB⟩ := id hM
  by_cases h0 : n = 0
  · rw [show paV n g F S T = -1 from if_pos h0]
    refine Eq_aln dX11_passed_0 rfl ?_
    refine Eq_getR dX11_passed_1 fl_X11_48 (ws_0 hW) rfl (wp_0_6 hW) ?_
    refine Eq_getI dX11_passed_4 fl_X11_146 (ws_9 hW) rfl (by first | assumption | rfl) ?_
    refine Ef_if_ne dX11_passed_7 (tgt := 16) rfl (by rw [h0]; rfl) ?_
    refine Eam_x_ldc2 dX11_passed_10 kc_X11_212 ?_
    refine Eam_x_goto (tgt := 24) dX11_passed_13 rfl ?_
    refine Eq_lr dX11_passed_24 rfl ?_
    exact ⟨rfl, Fr.rf⟩
  · rw [show paV n g F S T = lN (pas n g F S T none true 8) from if_neg h0]
    refine Eq_aln dX11_passed_0 rfl ?_
    refine Eq_getR dX11_passed_1 fl_X11_48 (ws_0 hW) rfl (wp_0_6 hW) ?_
    refine Eq_getI dX11_passed_4 fl_X11_146 (ws_9 hW) rfl (by first | assumption | rfl) ?_
    refine Et_if_ne 16 dX11_passed_7 rfl (by exact nI_ne0 (by omega) (by omega)) ?_
    refine Eq_aln dX11_passed_16 rfl ?_
    refine Eq_getR dX11_passed_17 fl_X11_73 (ws_0 hW) rfl (wp_0_9 hW) ?_
    refine Eq_ic (v := -1) dX11_passed_20 rfl ?_
    refine Eq_W1 (N := m_X10_passingParts) dX11_passed_21 lk_X11_228 mV_X10_passingParts (c_passingParts (w := none) hW hM hS (fun k hk => nomatch hk)) (by decide) (ws_16 hW) rfl (by decide) (Nat.le_of_ble_eq_true rfl) (Nat.le_of_ble_eq_true rfl) (fun vq hq1 hq2 => ?_)
    obtain ⟨rfl, hf⟩ := hq2
    refine Eq_lr dX11_passed_24 rfl ?_
    exact ⟨rfl, hf⟩
set_option maxHeartbeats 2000000 in
theorem r_passed {h : am_H} {n : Nat} {g : Bool} {F : Nat → Nat → Nat} {S T : Nat → Nat} (hW : Wd h) (hR : RB h n g F S T)  : am_D 5 m_X12_passed [.ref 50] h (fun v h2 => v = some (.long (paV n g F S T)) ∧ Fr [64] h h2) := by
  obtain ⟨hn, hg, h7, hF, hB, hS, hT⟩ := id hR
  by_cases h0 : n = 0
  · rw [show paV n g F S T = -1 from if_pos h0]
    refine Eq_aln dX12_passed_0 rfl ?_
    refine Eq_getI dX12_passed_1 fl_X12_252 (ws_50 hW) rfl (by first | assumption | rfl) ?_
    refine Ef_if_ne dX12_passed_4 (tgt := 11) rfl (by rw [h0]; rfl) ?_
    refine Eam_x_ldc2 dX12_passed_7 kc_X12_321 ?_
    refine Eq_lr dX12_passed_10 rfl ?_
    exact ⟨rfl, Fr.rf⟩
  · rw [show paV n g F S T = lN (pas n g F S T none true 8) from if_neg h0]
    refine Eq_aln dX12_passed_0 rfl ?_
    refine Eq_getI dX12_passed_1 fl_X12_252 (ws_50 hW) rfl (by first | assumption | rfl) ?_
    refine Et_if_ne 11 dX12_passed_4 rfl (by exact nI_ne0 (by omega) (by omega)) ?_
    refine Eq_aln dX12_passed_11 rfl ?_
    refine Eq_ic (v := -1) dX12_passed_12 rfl ?_
    refine Eq_W1 (N := m_X12_layParts) dX12_passed_13 lk_X12_332 mV_X12_layParts (r_layParts (w := none) hW hR (fun k hk => nomatch hk)) (by decide) (ws_50 hW) rfl (by decide) (Nat.le_of_ble_eq_true rfl) (Nat.le_of_ble_eq_true rfl) (fun vq hq1 hq2 => ?_)
    obtain ⟨rfl, hf, hp⟩ := hq2
    have hW2 := hf.Wd hW
    refine Eq_aln dX12_passed_16 rfl ?_
    refine Eq_ic (v := nI 1) dX12_passed_17 rfl ?_
    refine Eq_V1 (N := m_X12_passedParts) dX12_passed_18 lk_X12_335 mV_X12_passedParts (r_passedParts (is := true) hW2 (hR.fr hf (by decide) (by decide) (by decide)) hp) (by decide) (ws_50 hW2) rfl (by decide) (Nat.le_of_ble_eq_true rfl) (Nat.le_of_ble_eq_true rfl) ?_
    refine Eq_lr dX12_passed_21 rfl ?_
    exact ⟨rfl, hf⟩
set_option maxHeartbeats 2000000 in
theorem c_turner {h : am_H} {n : Nat} {g : Bool} {F : Nat → Nat → Nat} (hW : Wd h) (hM : MB h n g F) {S T : Nat → Nat} (hS : SB 11 12 13 h n S T)  : am_D 6 m_X11_turner [.ref 0] h (fun v h2 => v = some (.int (tuV n g F S T)) ∧ Fr [17] h h2) := by
  obtain ⟨hn, hg, h7, hF, hB⟩ := id hM
  by_cases h0 : n = 0
  · subst h0
    refine Eq_aln dX11_turner_0 rfl ?_
    refine Eq_getR dX11_turner_1 fl_X11_48 (ws_0 hW) rfl (wp_0_6 hW) ?_
    refine Eq_getI dX11_turner_4 fl_X11_146 (ws_9 hW) rfl (by first | assumption | rfl) ?_
    refine Ef_if_ne dX11_turner_7 (tgt := 14) rfl (by rfl) ?_
    refine Eq_ic (v := -1) dX11_turner_10 rfl ?_
    refine Eam_x_goto (tgt := 21) dX11_turner_11 rfl ?_
    refine Eq_ir dX11_turner_21 rfl ?_
    exact ⟨rfl, Fr.rf⟩
  · refine Eq_aln dX11_turner_0 rfl ?_
    refine Eq_getR dX11_turner_1 fl_X11_48 (ws_0 hW) rfl (wp_0_6 hW) ?_
    refine Eq_getI dX11_turner_4 fl_X11_146 (ws_9 hW) rfl (by first | assumption | rfl) ?_
    refine Et_if_ne 14 dX11_turner_7 rfl (by exact nI_ne0 (by omega) (by omega)) ?_
    refine Eq_aln dX11_turner_14 rfl ?_
    refine Eq_getR dX11_turner_15 fl_X11_73 (ws_0 hW) rfl (wp_0_9 hW) ?_
    refine Eq_W0 (N := m_X10_whoTurns) dX11_turner_18 lk_X11_231 mV_X10_whoTurns (c_whoTurns hW hM hS) (by decide) (ws_16 hW) rfl (by decide) (Nat.le_of_ble_eq_true rfl) (Nat.le_of_ble_eq_true rfl) (fun vq hq1 hq2 => ?_)
    obtain ⟨rfl, hf⟩ := hq2
    refine Eq_ir dX11_turner_21 rfl ?_
    exact ⟨rfl, hf⟩
set_option maxHeartbeats 2000000 in
theorem c_bribe {h : am_H} {n : Nat} {g : Bool} {F : Nat → Nat → Nat} (hW : Wd h) (hM : MB h n g F) {S T : Nat → Nat} (hS : SB 11 12 13 h n S T) {x : Int32} : am_C 5 m_X11_bribe [.ref 0, .int x] h (some (.int (brV n g F S T x)), h) := by
  obtain ⟨hn, hg, h7, hF, hB⟩ := id hM
  have p2 := p2_128 h7
  by_cases h0 : n = 0
  · rw [brV_0 h0]
    refine q_aln dX11_bribe_0 rfl ?_
    refine q_getR dX11_bribe_1 fl_X11_48 (ws_0 hW) rfl (wp_0_6 hW) ?_
    refine q_getI dX11_bribe_4 fl_X11_146 (ws_9 hW) rfl (by first | assumption | rfl) ?_
    refine t_if_eq 19 dX11_bribe_7 rfl (by rw [h0]; rfl) ?_
    refine q_ic (v := -1) dX11_bribe_19 rfl ?_
    refine q_ir dX11_bribe_20 rfl ?_
    rfl
  · cases hr : rg x (2) with
    | none =>
      rcases rg_none (by omega) hr with hx | ⟨hx, hy⟩
      · rw [brV_n hr]
        refine q_aln dX11_bribe_0 rfl ?_
        refine q_getR dX11_bribe_1 fl_X11_48 (ws_0 hW) rfl (wp_0_6 hW) ?_
        refine q_getI dX11_bribe_4 fl_X11_146 (ws_9 hW) rfl (by first | assumption | rfl) ?_
        refine f_if_eq dX11_bribe_7 (tgt := 19) rfl (by exact nI_ne0 (by omega) (by omega)) ?_
        refine q_iln dX11_bribe_10 rfl ?_
        refine t_if_lt 19 dX11_bribe_11 rfl (by exact hx) ?_
        refine q_ic (v := -1) dX11_bribe_19 rfl ?_
        refine q_ir dX11_bribe_20 rfl ?_
        rfl
      · rw [brV_n hr]
        refine q_aln dX11_bribe_0 rfl ?_
        refine q_getR dX11_bribe_1 fl_X11_48 (ws_0 hW) rfl (wp_0_6 hW) ?_
        refine q_getI dX11_bribe_4 fl_X11_146 (ws_9 hW) rfl (by first | assumption | rfl) ?_
        refine f_if_eq dX11_bribe_7 (tgt := 19) rfl (by exact nI_ne0 (by omega) (by omega)) ?_
        refine q_iln dX11_bribe_10 rfl ?_
        refine f_if_lt dX11_bribe_11 (tgt := 19) rfl (by exact hx) ?_
        refine q_iln dX11_bribe_14 rfl ?_
        refine q_ic (v := nI 1) dX11_bribe_15 rfl ?_
        refine f_ic_le dX11_bribe_16 (tgt := 21) rfl (by exact rg_gt (by omega) hy) ?_
        refine q_ic (v := -1) dX11_bribe_19 rfl ?_
        refine q_ir dX11_bribe_20 rfl ?_
        rfl
    | some w =>
      obtain ⟨rfl, hw⟩ := rg_some (by omega) hr
      rw [brV_s h0 hr]
      cases hb : bb n g F S T (2 ^ n) with
      | none =>
        refine q_aln dX11_bribe_0 rfl ?_
        refine q_getR dX11_bribe_1 fl_X11_48 (ws_0 hW) rfl (wp_0_6 hW) ?_
        refine q_getI dX11_bribe_4 fl_X11_146 (ws_9 hW) rfl (by first | assumption | rfl) ?_
        refine f_if_eq dX11_bribe_7 (tgt := 19) rfl (by exact nI_ne0 (by omega) (by omega)) ?_
        refine q_iln dX11_bribe_10 rfl ?_
        refine n_if_lt (tgt := 19) dX11_bribe_11 rfl (by omega) ?_
        refine q_iln dX11_bribe_14 rfl ?_
        refine q_ic (v := nI 1) dX11_bribe_15 rfl ?_
        refine t_ic_le 21 dX11_bribe_16 rfl (by exact nI_le (by omega) (by omega)) ?_
        refine q_aln dX11_bribe_21 rfl ?_
        refine q_getR dX11_bribe_22 fl_X11_73 (ws_0 hW) rfl (wp_0_9 hW) ?_
        refine q_V0 (N := m_X10_cheapest) dX11_bribe_25 lk_X11_234 mV_X10_cheapest ((by have z := c_cheapest hW hM hS; rw [hb] at z; exact z)) (by decide) (ws_16 hW) rfl (by decide) (Nat.le_of_ble_eq_true rfl) (Nat.le_of_ble_eq_true rfl) ?_
        refine q_isn dX11_bribe_28 (by decide) ?_
        refine q_iln dX11_bribe_29 rfl ?_
        refine q_ic (v := -1) dX11_bribe_30 rfl ?_
        refine t_ic_eq 39 dX11_bribe_31 rfl (by rfl) ?_
        refine q_iln dX11_bribe_39 rfl ?_
        refine am_x_goto (tgt := 51) dX11_bribe_40 rfl ?_
        refine q_ir dX11_bribe_51 rfl ?_
        rfl
      | some q =>
        have hq := bb_lt _ q hb
        refine q_aln dX11_bribe_0 rfl ?_
        refine q_getR dX11_bribe_1 fl_X11_48 (ws_0 hW) rfl (wp_0_6 hW) ?_
        refine q_getI dX11_bribe_4 fl_X11_146 (ws_9 hW) rfl (by first | assumption | rfl) ?_
        refine f_if_eq dX11_bribe_7 (tgt := 19) rfl (by exact nI_ne0 (by omega) (by omega)) ?_
        refine q_iln dX11_bribe_10 rfl ?_
        refine n_if_lt (tgt := 19) dX11_bribe_11 rfl (by omega) ?_
        refine q_iln dX11_bribe_14 rfl ?_
        refine q_ic (v := nI 1) dX11_bribe_15 rfl ?_
        refine t_ic_le 21 dX11_bribe_16 rfl (by exact nI_le (by omega) (by omega)) ?_
        refine q_aln dX11_bribe_21 rfl ?_
        refine q_getR dX11_bribe_22 fl_X11_73 (ws_0 hW) rfl (wp_0_9 hW) ?_
        refine q_V0 (N := m_X10_cheapest) dX11_bribe_25 lk_X11_234 mV_X10_cheapest ((by have z := c_cheapest hW hM hS; rw [hb] at z; exact z)) (by decide) (ws_16 hW) rfl (by decide) (Nat.le_of_ble_eq_true rfl) (Nat.le_of_ble_eq_true rfl) ?_
        refine q_isn dX11_bribe_28 (by decide) ?_
        refine q_iln dX11_bribe_29 rfl ?_
        refine q_ic (v := -1) dX11_bribe_30 rfl ?_
        refine f_ic_eq dX11_bribe_31 (tgt := 39) rfl (by exact nI_m1 (by omega)) ?_
        refine q_iln dX11_bribe_34 rfl ?_
        refine q_ic (v := nI 1) dX11_bribe_35 rfl ?_
        first | refine n_ic_ne 43 dX11_bribe_36 rfl (by omega) (by omega) (fun c36 => ?_) (fun c36 => ?_) | refine b_ic_ne 43 dX11_bribe_36 rfl (fun c36 => ?_) (fun c36 => ?_)
        · first
          | (exfalso; omega)
          | (refine q_aln dX11_bribe_43 rfl ?_
             refine q_getR dX11_bribe_44 fl_X11_73 (ws_0 hW) rfl (wp_0_9 hW) ?_
             refine q_iln dX11_bribe_47 rfl ?_
             refine q_V1 (N := m_X10_costOf) dX11_bribe_48 lk_X11_237 mV_X10_costOf (c_costOf hW hM (by omega)) (by decide) (ws_16 hW) rfl (by decide) (Nat.le_of_ble_eq_true rfl) (Nat.le_of_ble_eq_true rfl) ?_
             refine q_ir dX11_bribe_51 rfl ?_
             (apply o_i2; first | (rw [show w = 1 by omega]; rfl) | (show nI _ = nI (if w = 1 then q.1 else q.2); rw [if_neg (by omega), hq.2])))
        · first
          | (exfalso; omega)
          | (refine q_iln dX11_bribe_39 rfl ?_
             refine am_x_goto (tgt := 51) dX11_bribe_40 rfl ?_
             refine q_ir dX11_bribe_51 rfl ?_
             (apply o_i2; first | (rw [show w = 1 by omega]; rfl) | (show nI _ = nI (if w = 1 then q.1 else q.2); rw [if_neg (by omega), hq.2])))
set_option maxHeartbeats 2000000 in
theorem r_bribe_in {h : am_H} {n : Nat} {g : Bool} {F : Nat → Nat → Nat} {S T : Nat → Nat} (hW : Wd h) (hR : RB h n g F S T) {x : Int32} {b2 b3 : Option Value} {b : Nat} {o : am_O} (hb : b < 128) (kk : am_Sem 5 m_X12_bribe 116 [some (.ref 50), some (.int x), b2, b3, some (.int (nI b)), some (.int (nI (cst n F b n))), some (.int (nI (if alB (can1 F b) n = true then 1 else 0))), some (.int (nI n))] [] h o) : ∀ k j, j + k = n → am_Sem 5 m_X12_bribe 45 [some (.ref 50), some (.int x), b2, b3, some (.int (nI b)), some (.int (nI (cst n F b j))), some (.int (nI (if alB (can1 F b) j = true then 1 else 0))), some (.int (nI j))] [] h o := by
  obtain ⟨hn, hg, h7, hF, hB, hS, hT⟩ := id hR
  intro k
  induction k with
  | zero =>
    intro j hj
    have hjn : j = n := by omega
    subst hjn
    refine q_il dX12_bribe_45 rfl ?_
    refine q_aln dX12_bribe_47 rfl ?_
    refine q_getI dX12_bribe_48 fl_X12_252 (ws_50 hW) rfl (by first | assumption | rfl) ?_
    refine t_ic_ge 116 dX12_bribe_51 rfl (by exact nI_le (by omega) (by omega)) ?_
    exact kk
  | succ k ih =>
    intro j hj
    have hbb := hB j (by omega)
    have q := ih (j + 1) (by omega)
    rw [show cst n F b (j + 1) = cst n F b j + (if b.testBit j = true then F 6 j else 0) from rfl] at q
    by_cases hbj : b.testBit j = true
    · have e2 : alB (can1 F b) (j + 1) = (alB (can1 F b) j && (decide (F 3 j ≠ 1) && decide (F 0 j = 0))) := by simp [alB, can1, hbj]
      by_cases ha : alB (can1 F b) j = true
      · by_cases hk : F 3 j = 1
        · refine q_il dX12_bribe_45 rfl ?_
          refine q_aln dX12_bribe_47 rfl ?_
          refine q_getI dX12_bribe_48 fl_X12_252 (ws_50 hW) rfl (by first | assumption | rfl) ?_
          refine f_ic_ge dX12_bribe_51 (tgt := 116) rfl (by exact nI_ge (by omega) (by omega)) ?_
          refine q_il dX12_bribe_54 rfl ?_
          refine q_il dX12_bribe_56 rfl ?_
          refine q_S2 (N := m_X12_has) dX12_bribe_58 lk_X12_228 mS_X12_has (r_has (by omega) (by omega)) (by decide) (Nat.le_of_ble_eq_true rfl) (Nat.le_of_ble_eq_true rfl) ?_
          refine f_if_eq dX12_bribe_61 (tgt := 110) rfl (by rw [if_pos hbj]; decide +kernel) ?_
          refine q_il dX12_bribe_64 rfl ?_
          refine q_aln dX12_bribe_66 rfl ?_
          refine q_il dX12_bribe_67 rfl ?_
          refine q_bp (v := nI 6) dX12_bribe_69 rfl ?_
          refine q_V2 (N := m_X12_of) dX12_bribe_71 lk_X12_258 mV_X12_of (r_of hW hR (by omega) (by omega)) (by decide) (ws_50 hW) rfl (by decide) (Nat.le_of_ble_eq_true rfl) (Nat.le_of_ble_eq_true rfl) ?_
          first | refine q_add dX12_bribe_74 ?_ | refine am_x_pu dX12_bribe_74 rfl ?_
          refine q_is dX12_bribe_75 (by decide) ?_
          refine q_il dX12_bribe_77 rfl ?_
          refine f_if_eq dX12_bribe_79 (tgt := 107) rfl (by rw [if_pos ha]; decide +kernel) ?_
          refine q_aln dX12_bribe_82 rfl ?_
          refine q_il dX12_bribe_83 rfl ?_
          refine q_ic (v := nI 3) dX12_bribe_85 rfl ?_
          refine q_V2 (N := m_X12_of) dX12_bribe_86 lk_X12_258 mV_X12_of (r_of hW hR (by omega) (by omega)) (by decide) (ws_50 hW) rfl (by decide) (Nat.le_of_ble_eq_true rfl) (Nat.le_of_ble_eq_true rfl) ?_
          refine q_ic (v := nI 1) dX12_bribe_89 rfl ?_
          refine t_ic_eq 107 dX12_bribe_90 rfl (by rw [hk]) ?_
          refine q_ic (v := nI 0) dX12_bribe_107 rfl ?_
          refine q_is dX12_bribe_108 (by decide) ?_
          refine q_inc dX12_bribe_110 rfl (by decide) ?_
          refine am_x_goto (tgt := 45) dX12_bribe_113 rfl ?_
          (rw [if_pos hbj] at q; rw [if_neg (by rw [e2, hk]; simp)] at q; exact q)
        · by_cases hv : F 0 j = 0
          · refine q_il dX12_bribe_45 rfl ?_
            refine q_aln dX12_bribe_47 rfl ?_
            refine q_getI dX12_bribe_48 fl_X12_252 (ws_50 hW) rfl (by first | assumption | rfl) ?_
            refine f_ic_ge dX12_bribe_51 (tgt := 116) rfl (by exact nI_ge (by omega) (by omega)) ?_
            refine q_il dX12_bribe_54 rfl ?_
            refine q_il dX12_bribe_56 rfl ?_
            refine q_S2 (N := m_X12_has) dX12_bribe_58 lk_X12_228 mS_X12_has (r_has (by omega) (by omega)) (by decide) (Nat.le_of_ble_eq_true rfl) (Nat.le_of_ble_eq_true rfl) ?_
            refine f_if_eq dX12_bribe_61 (tgt := 110) rfl (by rw [if_pos hbj]; decide +kernel) ?_
            refine q_il dX12_bribe_64 rfl ?_
            refine q_aln dX12_bribe_66 rfl ?_
            refine q_il dX12_bribe_67 rfl ?_
            refine q_bp (v := nI 6) dX12_bribe_69 rfl ?_
            refine q_V2 (N := m_X12_of) dX12_bribe_71 lk_X12_258 mV_X12_of (r_of hW hR (by omega) (by omega)) (by decide) (ws_50 hW) rfl (by decide) (Nat.le_of_ble_eq_true rfl) (Nat.le_of_ble_eq_true rfl) ?_
            first | refine q_add dX12_bribe_74 ?_ | refine am_x_pu dX12_bribe_74 rfl ?_
            refine q_is dX12_bribe_75 (by decide) ?_
            refine q_il dX12_bribe_77 rfl ?_
            refine f_if_eq dX12_bribe_79 (tgt := 107) rfl (by rw [if_pos ha]; decide +kernel) ?_
            refine q_aln dX12_bribe_82 rfl ?_
            refine q_il dX12_bribe_83 rfl ?_
            refine q_ic (v := nI 3) dX12_bribe_85 rfl ?_
            refine q_V2 (N := m_X12_of) dX12_bribe_86 lk_X12_258 mV_X12_of (r_of hW hR (by omega) (by omega)) (by decide) (ws_50 hW) rfl (by decide) (Nat.le_of_ble_eq_true rfl) (Nat.le_of_ble_eq_true rfl) ?_
            refine q_ic (v := nI 1) dX12_bribe_89 rfl ?_
            refine f_ic_eq dX12_bribe_90 (tgt := 107) rfl (by exact fun z => hk ((nI_eq (by omega) (by omega)).mp z)) ?_
            refine q_aln dX12_bribe_93 rfl ?_
            refine q_il dX12_bribe_94 rfl ?_
            refine q_ic (v := nI 0) dX12_bribe_96 rfl ?_
            refine q_V2 (N := m_X12_of) dX12_bribe_97 lk_X12_258 mV_X12_of (r_of hW hR (by omega) (by omega)) (by decide) (ws_50 hW) rfl (by decide) (Nat.le_of_ble_eq_true rfl) (Nat.le_of_ble_eq_true rfl) ?_
            refine f_if_ne dX12_bribe_100 (tgt := 107) rfl (by rw [hv]; rfl) ?_
            refine q_ic (v := nI 1) dX12_bribe_103 rfl ?_
            refine am_x_goto (tgt := 108) dX12_bribe_104 rfl ?_
            refine q_is dX12_bribe_108 (by decide) ?_
            refine q_inc dX12_bribe_110 rfl (by decide) ?_
            refine am_x_goto (tgt := 45) dX12_bribe_113 rfl ?_
            (rw [if_pos hbj] at q; rw [if_pos (by rw [e2, ha]; simp [hk, hv])] at q; exact q)
          · refine q_il dX12_bribe_45 rfl ?_
            refine q_aln dX12_bribe_47 rfl ?_
            refine q_getI dX12_bribe_48 fl_X12_252 (ws_50 hW) rfl (by first | assumption | rfl) ?_
            refine f_ic_ge dX12_bribe_51 (tgt := 116) rfl (by exact nI_ge (by omega) (by omega)) ?_
            refine q_il dX12_bribe_54 rfl ?_
            refine q_il dX12_bribe_56 rfl ?_
            refine q_S2 (N := m_X12_has) dX12_bribe_58 lk_X12_228 mS_X12_has (r_has (by omega) (by omega)) (by decide) (Nat.le_of_ble_eq_true rfl) (Nat.le_of_ble_eq_true rfl) ?_
            refine f_if_eq dX12_bribe_61 (tgt := 110) rfl (by rw [if_pos hbj]; decide +kernel) ?_
            refine q_il dX12_bribe_64 rfl ?_
            refine q_aln dX12_bribe_66 rfl ?_
            refine q_il dX12_bribe_67 rfl ?_
            refine q_bp (v := nI 6) dX12_bribe_69 rfl ?_
            refine q_V2 (N := m_X12_of) dX12_bribe_71 lk_X12_258 mV_X12_of (r_of hW hR (by omega) (by omega)) (by decide) (ws_50 hW) rfl (by decide) (Nat.le_of_ble_eq_true rfl) (Nat.le_of_ble_eq_true rfl) ?_
            first | refine q_add dX12_bribe_74 ?_ | refine am_x_pu dX12_bribe_74 rfl ?_
            refine q_is dX12_bribe_75 (by decide) ?_
            refine q_il dX12_bribe_77 rfl ?_
            refine f_if_eq dX12_bribe_79 (tgt := 107) rfl (by rw [if_pos ha]; decide +kernel) ?_
            refine q_aln dX12_bribe_82 rfl ?_
            refine q_il dX12_bribe_83 rfl ?_
            refine q_ic (v := nI 3) dX12_bribe_85 rfl ?_
            refine q_V2 (N := m_X12_of) dX12_bribe_86 lk_X12_258 mV_X12_of (r_of hW hR (by omega) (by omega)) (by decide) (ws_50 hW) rfl (by decide) (Nat.le_of_ble_eq_true rfl) (Nat.le_of_ble_eq_true rfl) ?_
            refine q_ic (v := nI 1) dX12_bribe_89 rfl ?_
            refine f_ic_eq dX12_bribe_90 (tgt := 107) rfl (by exact fun z => hk ((nI_eq (by omega) (by omega)).mp z)) ?_
            refine q_aln dX12_bribe_93 rfl ?_
            refine q_il dX12_bribe_94 rfl ?_
            refine q_ic (v := nI 0) dX12_bribe_96 rfl ?_
            refine q_V2 (N := m_X12_of) dX12_bribe_97 lk_X12_258 mV_X12_of (r_of hW hR (by omega) (by omega)) (by decide) (ws_50 hW) rfl (by decide) (Nat.le_of_ble_eq_true rfl) (Nat.le_of_ble_eq_true rfl) ?_
            refine t_if_ne 107 dX12_bribe_100 rfl (by exact nI_ne0 (by omega) (by omega)) ?_
            refine q_ic (v := nI 0) dX12_bribe_107 rfl ?_
            refine q_is dX12_bribe_108 (by decide) ?_
            refine q_inc dX12_bribe_110 rfl (by decide) ?_
            refine am_x_goto (tgt := 45) dX12_bribe_113 rfl ?_
            (rw [if_pos hbj] at q; rw [if_neg (by rw [e2]; simp [hv])] at q; exact q)
      · refine q_il dX12_bribe_45 rfl ?_
        refine q_aln dX12_bribe_47 rfl ?_
        refine q_getI dX12_bribe_48 fl_X12_252 (ws_50 hW) rfl (by first | assumption | rfl) ?_
        refine f_ic_ge dX12_bribe_51 (tgt := 116) rfl (by exact nI_ge (by omega) (by omega)) ?_
        refine q_il dX12_bribe_54 rfl ?_
        refine q_il dX12_bribe_56 rfl ?_
        refine q_S2 (N := m_X12_has) dX12_bribe_58 lk_X12_228 mS_X12_has (r_has (by omega) (by omega)) (by decide) (Nat.le_of_ble_eq_true rfl) (Nat.le_of_ble_eq_true rfl) ?_
        refine f_if_eq dX12_bribe_61 (tgt := 110) rfl (by rw [if_pos hbj]; decide +kernel) ?_
        refine q_il dX12_bribe_64 rfl ?_
        refine q_aln dX12_bribe_66 rfl ?_
        refine q_il dX12_bribe_67 rfl ?_
        refine q_bp (v := nI 6) dX12_bribe_69 rfl ?_
        refine q_V2 (N := m_X12_of) dX12_bribe_71 lk_X12_258 mV_X12_of (r_of hW hR (by omega) (by omega)) (by decide) (ws_50 hW) rfl (by decide) (Nat.le_of_ble_eq_true rfl) (Nat.le_of_ble_eq_true rfl) ?_
        first | refine q_add dX12_bribe_74 ?_ | refine am_x_pu dX12_bribe_74 rfl ?_
        refine q_is dX12_bribe_75 (by decide) ?_
        refine q_il dX12_bribe_77 rfl ?_
        refine t_if_eq 107 dX12_bribe_79 rfl (by rw [if_neg ha]; rfl) ?_
        refine q_ic (v := nI 0) dX12_bribe_107 rfl ?_
        refine q_is dX12_bribe_108 (by decide) ?_
        refine q_inc dX12_bribe_110 rfl (by decide) ?_
        refine am_x_goto (tgt := 45) dX12_bribe_113 rfl ?_
        (rw [if_pos hbj] at q; rw [if_neg (by rw [e2, Bool.eq_false_iff.mpr ha, Bool.false_and]; exact Bool.false_ne_true)] at q; exact q)
    · have e1 : alB (can1 F b) (j + 1) = alB (can1 F b) j := by simp [alB, can1, hbj]
      refine q_il dX12_bribe_45 rfl ?_
      refine q_aln dX12_bribe_47 rfl ?_
      refine q_getI dX12_bribe_48 fl_X12_252 (ws_50 hW) rfl (by first | assumption | rfl) ?_
      refine f_ic_ge dX12_bribe_51 (tgt := 116) rfl (by exact nI_ge (by omega) (by omega)) ?_
      refine q_il dX12_bribe_54 rfl ?_
      refine q_il dX12_bribe_56 rfl ?_
      refine q_S2 (N := m_X12_has) dX12_bribe_58 lk_X12_228 mS_X12_has (r_has (by omega) (by omega)) (by decide) (Nat.le_of_ble_eq_true rfl) (Nat.le_of_ble_eq_true rfl) ?_
      refine t_if_eq 110 dX12_bribe_61 rfl (by rw [if_neg hbj]; rfl) ?_
      refine q_inc dX12_bribe_110 rfl (by decide) ?_
      refine am_x_goto (tgt := 45) dX12_bribe_113 rfl ?_
      (rw [if_neg hbj, Nat.add_zero, e1] at q; exact q)
set_option maxHeartbeats 2000000 in
theorem r_bribe_lp {h : am_H} {n : Nat} {g : Bool} {F : Nat → Nat → Nat} {S T : Nat → Nat} (hW : Wd h) (hR : RB h n g F S T) {w : Nat} (hw : w < 2) : ∀ k j (x5 x6 x7 : Option Value), j + k = 2 ^ n → am_Sem 5 m_X12_bribe 25 [some (.ref 50), some (.int (nI w)), some (.int (oN ((bb n g F S T j).map Prod.fst))), some (.int (nI (bbv (bb n g F S T j)))), some (.int (nI j)), x5, x6, x7] [] h (some (.int (oN ((bb n g F S T (2 ^ n)).map (fun q => if w = 1 then q.1 else q.2)))), h) := by
  obtain ⟨hn, hg, h7, hF, hB, hS, hT⟩ := id hR
  have p2 := p2_128 h7
  have a2 : ct (fun m => hrd n g F S T m) n ≤ n := ct_le _ n
  intro k
  induction k with
  | zero =>
    intro j x5 x6 x7 hj
    have hjn : j = 2 ^ n := by omega
    subst hjn
    cases hb : bb n g F S T (2 ^ n) with
    | none =>
      refine q_il dX12_bribe_25 rfl ?_
      refine q_ic (v := nI 1) dX12_bribe_27 rfl ?_
      refine q_aln dX12_bribe_28 rfl ?_
      refine q_getI dX12_bribe_29 fl_X12_252 (ws_50 hW) rfl (by first | assumption | rfl) ?_
      first | refine q_shl1 dX12_bribe_32 (by omega) ?_ | refine am_x_pu dX12_bribe_32 rfl ?_
      refine t_ic_ge 153 dX12_bribe_33 rfl (by exact nI_le (by omega) (by omega)) ?_
      refine q_iln dX12_bribe_153 rfl ?_
      refine q_ic (v := -1) dX12_bribe_154 rfl ?_
      refine t_ic_eq 163 dX12_bribe_155 rfl (by rfl) ?_
      refine q_iln dX12_bribe_163 rfl ?_
      refine am_x_goto (tgt := 168) dX12_bribe_164 rfl ?_
      refine q_ir dX12_bribe_168 rfl ?_
      rfl
    | some q =>
      have hq := bb_lt _ q hb
      refine q_il dX12_bribe_25 rfl ?_
      refine q_ic (v := nI 1) dX12_bribe_27 rfl ?_
      refine q_aln dX12_bribe_28 rfl ?_
      refine q_getI dX12_bribe_29 fl_X12_252 (ws_50 hW) rfl (by first | assumption | rfl) ?_
      first | refine q_shl1 dX12_bribe_32 (by omega) ?_ | refine am_x_pu dX12_bribe_32 rfl ?_
      refine t_ic_ge 153 dX12_bribe_33 rfl (by exact nI_le (by omega) (by omega)) ?_
      refine q_iln dX12_bribe_153 rfl ?_
      refine q_ic (v := -1) dX12_bribe_154 rfl ?_
      refine f_ic_eq dX12_bribe_155 (tgt := 163) rfl (by exact nI_m1 (by omega)) ?_
      refine q_iln dX12_bribe_158 rfl ?_
      refine q_ic (v := nI 1) dX12_bribe_159 rfl ?_
      first | refine n_ic_ne 167 dX12_bribe_160 rfl (by omega) (by omega) (fun c160 => ?_) (fun c160 => ?_) | refine b_ic_ne 167 dX12_bribe_160 rfl (fun c160 => ?_) (fun c160 => ?_)
      · first
        | (exfalso; omega)
        | (refine q_iln dX12_bribe_167 rfl ?_
           refine q_ir dX12_bribe_168 rfl ?_
           (apply o_i2; first | (rw [show w = 1 by omega]; rfl) | (show nI _ = nI (if w = 1 then q.1 else q.2); rw [if_neg (by omega)]; rfl)))
      · first
        | (exfalso; omega)
        | (refine q_iln dX12_bribe_163 rfl ?_
           refine am_x_goto (tgt := 168) dX12_bribe_164 rfl ?_
           refine q_ir dX12_bribe_168 rfl ?_
           (apply o_i2; first | (rw [show w = 1 by omega]; rfl) | (show nI _ = nI (if w = 1 then q.1 else q.2); rw [if_neg (by omega)]; rfl)))
  | succ k ih =>
    intro j x5 x6 x7 hj
    have q := fun x5 x6 x7 => ih (j + 1) x5 x6 x7 (by omega)
    have a3 : ct (fun m => hrd n g F S T m && (decide (F 0 m = 1) || j.testBit m)) n ≤ n := ct_le _ n
    have a4 := cst_le (b := j) (fun i m hi hm => (hF i m hi hm).2) n (Nat.le_refl n)
    refine q_il dX12_bribe_25 rfl ?_
    refine q_ic (v := nI 1) dX12_bribe_27 rfl ?_
    refine q_aln dX12_bribe_28 rfl ?_
    refine q_getI dX12_bribe_29 fl_X12_252 (ws_50 hW) rfl (by first | assumption | rfl) ?_
    first | refine q_shl1 dX12_bribe_32 (by omega) ?_ | refine am_x_pu dX12_bribe_32 rfl ?_
    refine f_ic_ge dX12_bribe_33 (tgt := 153) rfl (by exact nI_ge (by omega) (by omega)) ?_
    refine q_ic (v := nI 0) dX12_bribe_36 rfl ?_
    refine q_is dX12_bribe_37 (by decide) ?_
    refine q_ic (v := nI 1) dX12_bribe_39 rfl ?_
    refine q_is dX12_bribe_40 (by decide) ?_
    refine q_ic (v := nI 0) dX12_bribe_42 rfl ?_
    refine q_is dX12_bribe_43 (by decide) ?_
    refine r_bribe_in hW hR (by omega) ?_ n 0 (by omega)
    by_cases hcan : alB (can1 F j) n = true
    · by_cases hpas : hct n g F S T < 2 * yb n g F S T j
      · have hok : okb n g F S T j = true := by
          show (alB (can1 F j) n && decide (hct n g F S T < 2 * yb n g F S T j)) = true
          rw [hcan, decide_eq_true hpas]; rfl
        cases hq : bb n g F S T j with
        | none =>
          refine q_il dX12_bribe_116 rfl ?_
          refine f_if_eq dX12_bribe_118 (tgt := 147) rfl (by rw [if_pos hcan]; decide +kernel) ?_
          refine q_iln dX12_bribe_121 rfl ?_
          refine q_ic (v := -1) dX12_bribe_122 rfl ?_
          refine t_ic_eq 132 dX12_bribe_123 rfl (by rfl) ?_
          refine q_aln dX12_bribe_132 rfl ?_
          refine q_il dX12_bribe_133 rfl ?_
          refine q_V1 (N := m_X12_doesPass) dX12_bribe_135 lk_X12_339 mV_X12_doesPass (r_doesPass hW hR (by omega)) (by decide) (ws_50 hW) rfl (by decide) (Nat.le_of_ble_eq_true rfl) (Nat.le_of_ble_eq_true rfl) ?_
          refine f_if_eq dX12_bribe_138 (tgt := 147) rfl (by rw [if_pos hpas]; decide +kernel) ?_
          refine q_il dX12_bribe_141 rfl ?_
          refine q_isn dX12_bribe_143 (by decide) ?_
          refine q_il dX12_bribe_144 rfl ?_
          refine q_isn dX12_bribe_146 (by decide) ?_
          refine q_inc dX12_bribe_147 rfl (by decide) ?_
          refine am_x_goto (tgt := 25) dX12_bribe_150 rfl ?_
          (simp only [bb_n hok hq] at q; exact q _ _ _)
        | some p =>
          have hpl := bb_lt j p hq
          have a5 := cst_le (b := p.1) (fun i m hi hm => (hF i m hi hm).2) n (Nat.le_refl n)
          by_cases hl : cst n F j n < p.2
          · refine q_il dX12_bribe_116 rfl ?_
            refine f_if_eq dX12_bribe_118 (tgt := 147) rfl (by rw [if_pos hcan]; decide +kernel) ?_
            refine q_iln dX12_bribe_121 rfl ?_
            refine q_ic (v := -1) dX12_bribe_122 rfl ?_
            refine f_ic_eq dX12_bribe_123 (tgt := 132) rfl (by exact nI_m1 (by omega)) ?_
            refine q_il dX12_bribe_126 rfl ?_
            refine q_iln dX12_bribe_128 rfl ?_
            refine f_ic_ge dX12_bribe_129 (tgt := 147) rfl (by exact nI_ge (by exact hl) (show p.2 < 2 ^ 31 by omega)) ?_
            refine q_aln dX12_bribe_132 rfl ?_
            refine q_il dX12_bribe_133 rfl ?_
            refine q_V1 (N := m_X12_doesPass) dX12_bribe_135 lk_X12_339 mV_X12_doesPass (r_doesPass hW hR (by omega)) (by decide) (ws_50 hW) rfl (by decide) (Nat.le_of_ble_eq_true rfl) (Nat.le_of_ble_eq_true rfl) ?_
            refine f_if_eq dX12_bribe_138 (tgt := 147) rfl (by rw [if_pos hpas]; decide +kernel) ?_
            refine q_il dX12_bribe_141 rfl ?_
            refine q_isn dX12_bribe_143 (by decide) ?_
            refine q_il dX12_bribe_144 rfl ?_
            refine q_isn dX12_bribe_146 (by decide) ?_
            refine q_inc dX12_bribe_147 rfl (by decide) ?_
            refine am_x_goto (tgt := 25) dX12_bribe_150 rfl ?_
            (simp only [bb_l hok hq hl] at q; exact q _ _ _)
          · refine q_il dX12_bribe_116 rfl ?_
            refine f_if_eq dX12_bribe_118 (tgt := 147) rfl (by rw [if_pos hcan]; decide +kernel) ?_
            refine q_iln dX12_bribe_121 rfl ?_
            refine q_ic (v := -1) dX12_bribe_122 rfl ?_
            refine f_ic_eq dX12_bribe_123 (tgt := 132) rfl (by exact nI_m1 (by omega)) ?_
            refine q_il dX12_bribe_126 rfl ?_
            refine q_iln dX12_bribe_128 rfl ?_
            refine t_ic_ge 147 dX12_bribe_129 rfl (by exact nI_le (show p.2 ≤ cst n F j n by omega) (by omega)) ?_
            refine q_inc dX12_bribe_147 rfl (by decide) ?_
            refine am_x_goto (tgt := 25) dX12_bribe_150 rfl ?_
            (simp only [bb_g hok hq hl] at q; exact q _ _ _)
      · have hok : ¬ okb n g F S T j = true := by
          show ¬ (alB (can1 F j) n && decide (hct n g F S T < 2 * yb n g F S T j)) = true
          rw [decide_eq_false hpas, Bool.and_false]; decide
        cases hq : bb n g F S T j with
        | none =>
          refine q_il dX12_bribe_116 rfl ?_
          refine f_if_eq dX12_bribe_118 (tgt := 147) rfl (by rw [if_pos hcan]; decide +kernel) ?_
          refine q_iln dX12_bribe_121 rfl ?_
          refine q_ic (v := -1) dX12_bribe_122 rfl ?_
          refine t_ic_eq 132 dX12_bribe_123 rfl (by rfl) ?_
          refine q_aln dX12_bribe_132 rfl ?_
          refine q_il dX12_bribe_133 rfl ?_
          refine q_V1 (N := m_X12_doesPass) dX12_bribe_135 lk_X12_339 mV_X12_doesPass (r_doesPass hW hR (by omega)) (by decide) (ws_50 hW) rfl (by decide) (Nat.le_of_ble_eq_true rfl) (Nat.le_of_ble_eq_true rfl) ?_
          refine t_if_eq 147 dX12_bribe_138 rfl (by rw [if_neg hpas]; rfl) ?_
          refine q_inc dX12_bribe_147 rfl (by decide) ?_
          refine am_x_goto (tgt := 25) dX12_bribe_150 rfl ?_
          (simp only [bb_o hok, hq] at q; exact q _ _ _)
        | some p =>
          have hpl := bb_lt j p hq
          have a5 := cst_le (b := p.1) (fun i m hi hm => (hF i m hi hm).2) n (Nat.le_refl n)
          by_cases hl : cst n F j n < p.2
          · refine q_il dX12_bribe_116 rfl ?_
            refine f_if_eq dX12_bribe_118 (tgt := 147) rfl (by rw [if_pos hcan]; decide +kernel) ?_
            refine q_iln dX12_bribe_121 rfl ?_
            refine q_ic (v := -1) dX12_bribe_122 rfl ?_
            refine f_ic_eq dX12_bribe_123 (tgt := 132) rfl (by exact nI_m1 (by omega)) ?_
            refine q_il dX12_bribe_126 rfl ?_
            refine q_iln dX12_bribe_128 rfl ?_
            refine f_ic_ge dX12_bribe_129 (tgt := 147) rfl (by exact nI_ge (by exact hl) (show p.2 < 2 ^ 31 by omega)) ?_
            refine q_aln dX12_bribe_132 rfl ?_
            refine q_il dX12_bribe_133 rfl ?_
            refine q_V1 (N := m_X12_doesPass) dX12_bribe_135 lk_X12_339 mV_X12_doesPass (r_doesPass hW hR (by omega)) (by decide) (ws_50 hW) rfl (by decide) (Nat.le_of_ble_eq_true rfl) (Nat.le_of_ble_eq_true rfl) ?_
            refine t_if_eq 147 dX12_bribe_138 rfl (by rw [if_neg hpas]; rfl) ?_
            refine q_inc dX12_bribe_147 rfl (by decide) ?_
            refine am_x_goto (tgt := 25) dX12_bribe_150 rfl ?_
            (simp only [bb_o hok, hq] at q; exact q _ _ _)
          · refine q_il dX12_bribe_116 rfl ?_
            refine f_if_eq dX12_bribe_118 (tgt := 147) rfl (by rw [if_pos hcan]; decide +kernel) ?_
            refine q_iln dX12_bribe_121 rfl ?_
            refine q_ic (v := -1) dX12_bribe_122 rfl ?_
            refine f_ic_eq dX12_bribe_123 (tgt := 132) rfl (by exact nI_m1 (by omega)) ?_
            refine q_il dX12_bribe_126 rfl ?_
            refine q_iln dX12_bribe_128 rfl ?_
            refine t_ic_ge 147 dX12_bribe_129 rfl (by exact nI_le (show p.2 ≤ cst n F j n by omega) (by omega)) ?_
            refine q_inc dX12_bribe_147 rfl (by decide) ?_
            refine am_x_goto (tgt := 25) dX12_bribe_150 rfl ?_
            (simp only [bb_o hok, hq] at q; exact q _ _ _)
    · have hok : ¬ okb n g F S T j = true := by
        show ¬ (alB (can1 F j) n && _) = true
        rw [Bool.eq_false_iff.mpr hcan, Bool.false_and]; decide
      refine q_il dX12_bribe_116 rfl ?_
      refine t_if_eq 147 dX12_bribe_118 rfl (by rw [if_neg hcan]; rfl) ?_
      refine q_inc dX12_bribe_147 rfl (by decide) ?_
      refine am_x_goto (tgt := 25) dX12_bribe_150 rfl ?_
      (rw [bb_o hok] at q; exact q _ _ _)
set_option maxHeartbeats 2000000 in
theorem r_bribe {h : am_H} {n : Nat} {g : Bool} {F : Nat → Nat → Nat} {S T : Nat → Nat} (hW : Wd h) (hR : RB h n g F S T) {x : Int32} : am_C 5 m_X12_bribe [.ref 50, .int x] h (some (.int (brV n g F S T x)), h) := by
  obtain ⟨hn, hg, h7, hF, hB, hS, hT⟩ := id hR
  by_cases h0 : n = 0
  · rw [brV_0 h0]
    refine q_aln dX12_bribe_0 rfl ?_
    refine q_getI dX12_bribe_1 fl_X12_252 (ws_50 hW) rfl (by first | assumption | rfl) ?_
    refine t_if_eq 16 dX12_bribe_4 rfl (by rw [h0]; rfl) ?_
    refine q_ic (v := -1) dX12_bribe_16 rfl ?_
    refine q_ir dX12_bribe_17 rfl ?_
    rfl
  · cases hr : rg x 2 with
    | none =>
      rw [brV_n hr]
      refine q_aln dX12_bribe_0 rfl ?_
      refine q_getI dX12_bribe_1 fl_X12_252 (ws_50 hW) rfl (by first | assumption | rfl) ?_
      refine f_if_eq dX12_bribe_4 (tgt := 16) rfl (by exact nI_ne0 (by omega) (by omega)) ?_
      refine q_iln dX12_bribe_7 rfl ?_
      refine q_ic (v := nI 0) dX12_bribe_8 rfl ?_
      refine q_ic (v := nI 1) dX12_bribe_9 rfl ?_
      refine q_S3 (N := m_X12_in) dX12_bribe_10 lk_X12_215 mS_X12_in ((by have z := r_inr (h := h) (x := x) (k := 1) (by omega); rw [isr_n hr] at z; exact z)) (by decide) (Nat.le_of_ble_eq_true rfl) (Nat.le_of_ble_eq_true rfl) ?_
      refine f_if_ne dX12_bribe_13 (tgt := 18) rfl (by rfl) ?_
      refine q_ic (v := -1) dX12_bribe_16 rfl ?_
      refine q_ir dX12_bribe_17 rfl ?_
      rfl
    | some w =>
      rw [brV_s h0 hr]
      have hi := isr_s hr
      obtain ⟨rfl, hw⟩ := rg_some (by omega) hr
      refine q_aln dX12_bribe_0 rfl ?_
      refine q_getI dX12_bribe_1 fl_X12_252 (ws_50 hW) rfl (by first | assumption | rfl) ?_
      refine f_if_eq dX12_bribe_4 (tgt := 16) rfl (by exact nI_ne0 (by omega) (by omega)) ?_
      refine q_iln dX12_bribe_7 rfl ?_
      refine q_ic (v := nI 0) dX12_bribe_8 rfl ?_
      refine q_ic (v := nI 1) dX12_bribe_9 rfl ?_
      refine q_S3 (N := m_X12_in) dX12_bribe_10 lk_X12_215 mS_X12_in ((by have z := r_inr (h := h) (x := nI w) (k := 1) (by omega); rw [hi] at z; exact z)) (by decide) (Nat.le_of_ble_eq_true rfl) (Nat.le_of_ble_eq_true rfl) ?_
      refine t_if_ne 18 dX12_bribe_13 rfl (by exact zf1) ?_
      refine q_ic (v := -1) dX12_bribe_18 rfl ?_
      refine q_isn dX12_bribe_19 (by decide) ?_
      refine q_ic (v := nI 0) dX12_bribe_20 rfl ?_
      refine q_isn dX12_bribe_21 (by decide) ?_
      refine q_ic (v := nI 0) dX12_bribe_22 rfl ?_
      refine q_is dX12_bribe_23 (by decide) ?_
      exact r_bribe_lp hW hR hw (2 ^ n) 0 _ _ _ (by omega)
