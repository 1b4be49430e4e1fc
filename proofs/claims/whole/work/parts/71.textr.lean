/-! manners held; faults and texts of the reference -/
def mnO (mc : Nat) (x : Int32) : Option (Option Nat) := if x = -1 then some none else (rg x mc).map some
set_option maxHeartbeats 2000000 in
theorem c_hold {h : am_H} (hW : Wd h) {v : Option Nat} : am_D 1 m_X0_hold [.ref 20, am_rv v] h (fun w h2 => w = none ∧ Fx [26] [] (am_wP h 20 1 v) h2 ∧ ∀ w, w < 3 → am_i h2 26 w = nI 0) := by
  have hWp : Wd (am_wP h 20 1 v) := hW.wP pk20
  cases v with
  | none =>
    refine Eq_aln dX0_hold_0 rfl ?_
    refine Eq_alnN dX0_hold_1 rfl ?_
    refine Eam_x_putR (v := none) dX0_hold_2 (fw_X0_15 rfl) (ws_20 hW) (Or.inl ⟨_, rfl⟩) ?_
    refine Eq_aln dX0_hold_5 rfl ?_
    refine Eq_W0 (N := m_X0_forget) dX0_hold_6 lk_X0_50 mV_X0_forget (c_forgetB hWp) (by decide) (ws_20 hWp) rfl (by decide) (Nat.le_of_ble_eq_true rfl) (Nat.le_of_ble_eq_true rfl) (fun vq hq1 hq2 => ?_)
    obtain ⟨rfl, hf2, hz2⟩ := hq2
    refine Eq_vr dX0_hold_9 rfl ?_
    exact ⟨rfl, hf2, hz2⟩
  | some r =>
    refine Eq_aln dX0_hold_0 rfl ?_
    refine Eq_aln dX0_hold_1 rfl ?_
    refine Eam_x_putR (v := some r) dX0_hold_2 (fw_X0_15 rfl) (ws_20 hW) (Or.inl ⟨_, rfl⟩) ?_
    refine Eq_aln dX0_hold_5 rfl ?_
    refine Eq_W0 (N := m_X0_forget) dX0_hold_6 lk_X0_50 mV_X0_forget (c_forgetB hWp) (by decide) (ws_20 hWp) rfl (by decide) (Nat.le_of_ble_eq_true rfl) (Nat.le_of_ble_eq_true rfl) (fun vq hq1 hq2 => ?_)
    obtain ⟨rfl, hf2, hz2⟩ := hq2
    refine Eq_vr dX0_hold_9 rfl ?_
    exact ⟨rfl, hf2, hz2⟩
set_option maxHeartbeats 2000000 in
theorem c_manners {h : am_H} (hW : Wd h) {mc : Nat} (hmc : am_i h 0 4 = nI mc) (hm4 : mc ≤ 4) (hL : ∀ k, k < mc → am_p h 8 k ≠ none) {x : Int32} : am_D 2 m_X11_manners [.ref 0, .int x] h (fun w h2 => match mnO mc x with
    | none => w = some (.int (nI 0)) ∧ h2 = h
    | some k => w = some (.int (nI 1)) ∧ Fx [26] [(0, 5)] (am_wP h 20 1 (match k with
        | none => none
        | some i => am_p h 8 i)) h2 ∧ (∀ w, w < 3 → am_i h2 26 w = nI 0) ∧ am_i h2 0 5 = oN k) := by
  have hW5 : Wd (am_wI h 0 5 x) := Fx.Wd (Fx.wI (A := []) (B := [(0, 5)]) (Or.inr (by decide))) hW
  have m1 : (-1 : Int32).toInt = -1 := by decide +kernel
  have z0 : (0 : Int32).toInt = 0 := by decide +kernel
  by_cases e : x = -1
  · have hO : mnO mc x = some none := if_pos e
    simp only [hO]
    subst e
    refine Eq_iln dX11_manners_0 rfl ?_
    refine Eq_ic (v := -1) dX11_manners_1 rfl ?_
    refine Ef_ic_lt dX11_manners_2 (tgt := 13) rfl (by decide +kernel) ?_
    refine Eq_iln dX11_manners_5 rfl ?_
    refine Eq_aln dX11_manners_6 rfl ?_
    refine Eq_getI dX11_manners_7 fl_X11_38 (ws_0 hW) rfl hmc ?_
    refine Et_ic_lt 15 dX11_manners_10 rfl (by rw [Int32.lt_iff_toInt_lt, m1, nI_toInt (by omega)]; omega) ?_
    refine Eq_aln dX11_manners_15 rfl ?_
    refine Eq_iln dX11_manners_16 rfl ?_
    refine Eam_x_putI dX11_manners_17 (fw_X11_42 rfl) (ws_0 hW) (Or.inl rfl) ?_
    refine Eq_aln dX11_manners_20 rfl ?_
    refine Eq_getR dX11_manners_21 fl_X11_82 (ws_0 hW) rfl (wp_0_10 hW) ?_
    refine Eq_iln dX11_manners_24 rfl ?_
    refine Eq_ic (v := -1) dX11_manners_25 rfl ?_
    refine Ef_ic_ne dX11_manners_26 (tgt := 33) rfl (by rfl) ?_
    refine Eam_x_pu dX11_manners_29 rfl ?_
    refine Eam_x_goto (tgt := 39) dX11_manners_30 rfl ?_
    refine Eq_W1 (N := m_X0_hold) dX11_manners_39 lk_X11_187 mV_X0_hold (c_hold (v := none) hW5) (by decide) (ws_20 hW) rfl (by decide) (Nat.le_of_ble_eq_true rfl) (Nat.le_of_ble_eq_true rfl) (fun vq hq1 hq2 => ?_)
    obtain ⟨rfl, hf2, hz2⟩ := hq2
    refine Eq_ic (v := nI 1) dX11_manners_42 rfl ?_
    first | refine Eq_zrn dX11_manners_43 rfl (by first | omega | exact b2_le) ?_ | refine Eq_zr dX11_manners_43 rfl (by first | exact Or.inl rfl | exact Or.inr rfl | assumption) ?_
    exact ⟨rfl, (Fx.wI (Or.inr (by decide)) : Fx [26] [(0, 5)] (am_wP h 20 1 none) (am_wI (am_wP h 20 1 none) 0 5 (-1))).tr (hf2.mono (by decide) (by decide)), hz2, (hf2.i (by decide) (by decide)).trans (show am_i (am_wI h 0 5 (-1)) 0 5 = -1 from wI_e0)⟩
  · cases hr : rg x mc with
    | none =>
      have hO : mnO mc x = none := by unfold mnO; rw [if_neg e, hr]; rfl
      simp only [hO]
      have ho := rg_out hr
      by_cases h1 : x < -1
      · refine Eq_iln dX11_manners_0 rfl ?_
        refine Eq_ic (v := -1) dX11_manners_1 rfl ?_
        refine Et_ic_lt 13 dX11_manners_2 rfl (by exact h1) ?_
        refine Eq_ic (v := nI 0) dX11_manners_13 rfl ?_
        first | refine Eq_zrn dX11_manners_14 rfl (by first | omega | exact b2_le) ?_ | refine Eq_zr dX11_manners_14 rfl (by first | exact Or.inl rfl | exact Or.inr rfl | assumption) ?_
        exact ⟨rfl, rfl⟩
      · have hge : ¬ x < nI mc := fun z => by
          rw [Int32.lt_iff_toInt_lt, nI_toInt (by omega)] at z
          rw [Int32.lt_iff_toInt_lt, m1] at h1
          exact e (Int32.toInt_inj.mp (by rw [m1]; omega))
        refine Eq_iln dX11_manners_0 rfl ?_
        refine Eq_ic (v := -1) dX11_manners_1 rfl ?_
        refine Ef_ic_lt dX11_manners_2 (tgt := 13) rfl (by exact h1) ?_
        refine Eq_iln dX11_manners_5 rfl ?_
        refine Eq_aln dX11_manners_6 rfl ?_
        refine Eq_getI dX11_manners_7 fl_X11_38 (ws_0 hW) rfl hmc ?_
        refine Ef_ic_lt dX11_manners_10 (tgt := 15) rfl (by exact hge) ?_
        refine Eq_ic (v := nI 0) dX11_manners_13 rfl ?_
        first | refine Eq_zrn dX11_manners_14 rfl (by first | omega | exact b2_le) ?_ | refine Eq_zr dX11_manners_14 rfl (by first | exact Or.inl rfl | exact Or.inr rfl | assumption) ?_
        exact ⟨rfl, rfl⟩
    | some k =>
      obtain ⟨hxk, hk⟩ := rg_some (by omega) hr
      have hO : mnO mc x = some (some k) := by unfold mnO; rw [if_neg e, hr]; rfl
      simp only [hO]
      subst hxk
      have ck : (nI k).toNatClampNeg = k := nI_clamp (by omega)
      obtain ⟨r, hpr⟩ : ∃ r, am_p h 8 k = some r := Option.ne_none_iff_exists'.mp (hL k hk)
      have hpr5 : am_p (am_wI h 0 5 (nI k)) 8 k = some r := hpr
      refine Eq_iln dX11_manners_0 rfl ?_
      refine Eq_ic (v := -1) dX11_manners_1 rfl ?_
      refine Ef_ic_lt dX11_manners_2 (tgt := 13) rfl (by rw [Int32.lt_iff_toInt_lt, m1, nI_toInt (by omega)]; omega) ?_
      refine Eq_iln dX11_manners_5 rfl ?_
      refine Eq_aln dX11_manners_6 rfl ?_
      refine Eq_getI dX11_manners_7 fl_X11_38 (ws_0 hW) rfl hmc ?_
      refine Et_ic_lt 15 dX11_manners_10 rfl (by exact nI_lt (by omega) (by omega)) ?_
      refine Eq_aln dX11_manners_15 rfl ?_
      refine Eq_iln dX11_manners_16 rfl ?_
      refine Eam_x_putI dX11_manners_17 (fw_X11_42 rfl) (ws_0 hW) (Or.inl rfl) ?_
      refine Eq_aln dX11_manners_20 rfl ?_
      refine Eq_getR dX11_manners_21 fl_X11_82 (ws_0 hW) rfl (wp_0_10 hW) ?_
      refine Eq_iln dX11_manners_24 rfl ?_
      refine Eq_ic (v := -1) dX11_manners_25 rfl ?_
      refine Et_ic_ne 33 dX11_manners_26 rfl (by exact e) ?_
      refine Eq_aln dX11_manners_33 rfl ?_
      refine Eq_getR dX11_manners_34 fl_X11_34 (ws_0 hW) rfl (wp_0_3 hW) ?_
      refine Eq_iln dX11_manners_37 rfl ?_
      refine Eam_x_qald dX11_manners_38 (ws_8 hW5) (vp_in_nI (by omega) (by omega)) ?_
      rw [ck, hpr5]
      refine Eq_W1 (N := m_X0_hold) dX11_manners_39 lk_X11_187 mV_X0_hold (c_hold (v := some r) hW5) (by decide) (ws_20 hW) rfl (by decide) (Nat.le_of_ble_eq_true rfl) (Nat.le_of_ble_eq_true rfl) (fun vq hq1 hq2 => ?_)
      obtain ⟨rfl, hf2, hz2⟩ := hq2
      refine Eq_ic (v := nI 1) dX11_manners_42 rfl ?_
      first | refine Eq_zrn dX11_manners_43 rfl (by first | omega | exact b2_le) ?_ | refine Eq_zr dX11_manners_43 rfl (by first | exact Or.inl rfl | exact Or.inr rfl | assumption) ?_
      rw [hpr]
      exact ⟨rfl, (Fx.wI (Or.inr (by decide)) : Fx [26] [(0, 5)] (am_wP h 20 1 (some r)) (am_wI (am_wP h 20 1 (some r)) 0 5 (nI k))).tr (hf2.mono (by decide) (by decide)), hz2, (hf2.i (by decide) (by decide)).trans (show am_i (am_wI h 0 5 (nI k)) 0 5 = nI k from wI_e0)⟩
set_option maxHeartbeats 2000000 in
theorem r_inG {h : am_H} {x lo hi : Int32} : am_C 0 m_X12_in [.int x, .int lo, .int hi] h (some (.int (nI (if lo ≤ x ∧ x ≤ hi then 1 else 0))), h) := by
  by_cases h1 : x < lo
  · rw [if_neg (fun z => absurd z.1 (Int32.not_le.mpr h1))]
    refine q_iln dX12_in_0 rfl ?_
    refine q_iln dX12_in_1 rfl ?_
    refine t_ic_lt 14 dX12_in_2 rfl (by exact h1) ?_
    refine q_ic (v := nI 0) dX12_in_14 rfl ?_
    first | refine q_zrn dX12_in_15 rfl (by first | omega | exact b2_le) ?_ | refine q_zr dX12_in_15 rfl (by first | exact Or.inl rfl | exact Or.inr rfl | assumption) ?_
    rfl
  · by_cases h2 : hi < x
    · rw [if_neg (fun z => absurd z.2 (Int32.not_le.mpr h2))]
      refine q_iln dX12_in_0 rfl ?_
      refine q_iln dX12_in_1 rfl ?_
      refine f_ic_lt dX12_in_2 (tgt := 14) rfl (by exact h1) ?_
      refine q_iln dX12_in_5 rfl ?_
      refine q_iln dX12_in_6 rfl ?_
      refine t_ic_gt 14 dX12_in_7 rfl (by exact h2) ?_
      refine q_ic (v := nI 0) dX12_in_14 rfl ?_
      first | refine q_zrn dX12_in_15 rfl (by first | omega | exact b2_le) ?_ | refine q_zr dX12_in_15 rfl (by first | exact Or.inl rfl | exact Or.inr rfl | assumption) ?_
      rfl
    · rw [if_pos ⟨Int32.not_lt.mp h1, Int32.not_lt.mp h2⟩]
      refine q_iln dX12_in_0 rfl ?_
      refine q_iln dX12_in_1 rfl ?_
      refine f_ic_lt dX12_in_2 (tgt := 14) rfl (by exact h1) ?_
      refine q_iln dX12_in_5 rfl ?_
      refine q_iln dX12_in_6 rfl ?_
      refine f_ic_gt dX12_in_7 (tgt := 14) rfl (by exact h2) ?_
      refine q_ic (v := nI 1) dX12_in_10 rfl ?_
      refine am_x_goto (tgt := 15) dX12_in_11 rfl ?_
      first | refine q_zrn dX12_in_15 rfl (by first | omega | exact b2_le) ?_ | refine q_zr dX12_in_15 rfl (by first | exact Or.inl rfl | exact Or.inr rfl | assumption) ?_
      rfl
set_option maxHeartbeats 2000000 in
theorem r_manners {h : am_H} (hW : Wd h) {mc : Nat} (hmc : am_i h 50 13 = nI mc) (hm4 : mc ≤ 4) {x : Int32} : am_D 1 m_X12_manners [.ref 50, .int x] h (fun w h2 => match mnO mc x with
    | none => w = some (.int (nI 0)) ∧ h2 = h
    | some k => w = some (.int (nI 1)) ∧ Fx [] [(50, 24)] h h2 ∧ am_i h2 50 24 = oN k) := by
  have m1 : (-1 : Int32).toInt = -1 := by decide +kernel
  have hdk := dk_toInt (n := mc) (by omega)
  by_cases e : x = -1
  · have hO : mnO mc x = some none := if_pos e
    simp only [hO]
    subst e
    have hc : (-1 : Int32) ≤ -1 ∧ (-1 : Int32) ≤ dk mc := ⟨by decide +kernel, by rw [Int32.le_iff_toInt_le, m1, hdk]; omega⟩
    refine Eq_iln dX12_manners_0 rfl ?_
    refine Eq_ic (v := -1) dX12_manners_1 rfl ?_
    refine Eq_aln dX12_manners_2 rfl ?_
    refine Eq_getI dX12_manners_3 fl_X12_273 (ws_50 hW) rfl hmc ?_
    refine Eq_ic (v := nI 1) dX12_manners_6 rfl ?_
    refine Eam_x_pu dX12_manners_7 rfl ?_
    rw [dk_sub]
    refine Eq_S3 (N := m_X12_in) dX12_manners_8 lk_X12_215 mS_X12_in (r_inG) (by decide) (Nat.le_of_ble_eq_true rfl) (Nat.le_of_ble_eq_true rfl) ?_
    refine Et_if_ne 16 dX12_manners_11 rfl (by rw [if_pos hc]; exact zf1) ?_
    refine Eq_aln dX12_manners_16 rfl ?_
    refine Eq_iln dX12_manners_17 rfl ?_
    refine Eam_x_putI dX12_manners_18 (fw_X12_49 rfl) (ws_50 hW) (Or.inl rfl) ?_
    refine Eq_ic (v := nI 1) dX12_manners_21 rfl ?_
    first | refine Eq_zrn dX12_manners_22 rfl (by first | omega | exact b2_le) ?_ | refine Eq_zr dX12_manners_22 rfl (by first | exact Or.inl rfl | exact Or.inr rfl | assumption) ?_
    exact ⟨rfl, Fx.wI (Or.inr (by decide)), wI_e0⟩
  · cases hr : rg x mc with
    | none =>
      have hO : mnO mc x = none := by unfold mnO; rw [if_neg e, hr]; rfl
      simp only [hO]
      have ho := rg_out hr
      have hc : ¬ ((-1 : Int32) ≤ x ∧ x ≤ dk mc) := fun z => by
        rw [Int32.le_iff_toInt_le, m1, Int32.le_iff_toInt_le, hdk] at z
        exact e (Int32.toInt_inj.mp (by rw [m1]; omega))
      refine Eq_iln dX12_manners_0 rfl ?_
      refine Eq_ic (v := -1) dX12_manners_1 rfl ?_
      refine Eq_aln dX12_manners_2 rfl ?_
      refine Eq_getI dX12_manners_3 fl_X12_273 (ws_50 hW) rfl hmc ?_
      refine Eq_ic (v := nI 1) dX12_manners_6 rfl ?_
      refine Eam_x_pu dX12_manners_7 rfl ?_
      rw [dk_sub]
      refine Eq_S3 (N := m_X12_in) dX12_manners_8 lk_X12_215 mS_X12_in (r_inG) (by decide) (Nat.le_of_ble_eq_true rfl) (Nat.le_of_ble_eq_true rfl) ?_
      refine Ef_if_ne dX12_manners_11 (tgt := 16) rfl (by rw [if_neg hc]; rfl) ?_
      refine Eq_ic (v := nI 0) dX12_manners_14 rfl ?_
      first | refine Eq_zrn dX12_manners_15 rfl (by first | omega | exact b2_le) ?_ | refine Eq_zr dX12_manners_15 rfl (by first | exact Or.inl rfl | exact Or.inr rfl | assumption) ?_
      exact ⟨rfl, rfl⟩
    | some k =>
      obtain ⟨hxk, hk⟩ := rg_some (by omega) hr
      have hO : mnO mc x = some (some k) := by unfold mnO; rw [if_neg e, hr]; rfl
      simp only [hO]
      subst hxk
      have hc : (-1 : Int32) ≤ nI k ∧ nI k ≤ dk mc := ⟨by rw [Int32.le_iff_toInt_le, m1, nI_toInt (by omega)]; omega, by rw [Int32.le_iff_toInt_le, nI_toInt (by omega), hdk]; omega⟩
      refine Eq_iln dX12_manners_0 rfl ?_
      refine Eq_ic (v := -1) dX12_manners_1 rfl ?_
      refine Eq_aln dX12_manners_2 rfl ?_
      refine Eq_getI dX12_manners_3 fl_X12_273 (ws_50 hW) rfl hmc ?_
      refine Eq_ic (v := nI 1) dX12_manners_6 rfl ?_
      refine Eam_x_pu dX12_manners_7 rfl ?_
      rw [dk_sub]
      refine Eq_S3 (N := m_X12_in) dX12_manners_8 lk_X12_215 mS_X12_in (r_inG) (by decide) (Nat.le_of_ble_eq_true rfl) (Nat.le_of_ble_eq_true rfl) ?_
      refine Et_if_ne 16 dX12_manners_11 rfl (by rw [if_pos hc]; exact zf1) ?_
      refine Eq_aln dX12_manners_16 rfl ?_
      refine Eq_iln dX12_manners_17 rfl ?_
      refine Eam_x_putI dX12_manners_18 (fw_X12_49 rfl) (ws_50 hW) (Or.inl rfl) ?_
      refine Eq_ic (v := nI 1) dX12_manners_21 rfl ?_
      first | refine Eq_zrn dX12_manners_22 rfl (by first | omega | exact b2_le) ?_ | refine Eq_zr dX12_manners_22 rfl (by first | exact Or.inl rfl | exact Or.inr rfl | assumption) ?_
      exact ⟨rfl, Fx.wI (Or.inr (by decide)), wI_e0⟩
set_option maxHeartbeats 2000000 in
theorem r_fault0 {h : am_H} (hW : Wd h) {tl : Nat} {tp : Nat → Nat} {a : Nat} (hA : RA h tl tp a)  : am_D 5 m_X12_fault [.ref 50, .int (nI 0)] h (fun w h2 => w = some (.int (hfV tl tp)) ∧ Fx [61] [(50, 3), (50, 4), (50, 18), (50, 19)] h h2 ∧ ∃ a, RA h2 tl tp a) := by
  unfold hfV
  cases hq : (hou tl tp).2 with
  | none =>
    refine Eq_iln dX12_fault_0 rfl ?_
    refine Ef_if_ne dX12_fault_1 (tgt := 11) rfl (by rfl) ?_
    refine Eq_aln dX12_fault_4 rfl ?_
    refine Eq_W0 (N := m_X12_readHouse) dX12_fault_5 lk_X12_246 mV_X12_readHouse (r_readHouse hW hA) (by decide) (ws_50 hW) rfl (by decide) (Nat.le_of_ble_eq_true rfl) (Nat.le_of_ble_eq_true rfl) (fun vq hq1 hq2 => ?_)
    obtain ⟨hf2, hq3⟩ := hq2
    obtain ⟨rfl, hA2⟩ := hq3.n hq
    refine Eam_x_goto (tgt := 26) dX12_fault_8 rfl ?_
    refine Eq_ir dX12_fault_26 rfl ?_
    exact ⟨rfl, hf2, hA2⟩
  | some s =>
    refine Eq_iln dX12_fault_0 rfl ?_
    refine Ef_if_ne dX12_fault_1 (tgt := 11) rfl (by rfl) ?_
    refine Eq_aln dX12_fault_4 rfl ?_
    refine Eq_W0 (N := m_X12_readHouse) dX12_fault_5 lk_X12_246 mV_X12_readHouse (r_readHouse hW hA) (by decide) (ws_50 hW) rfl (by decide) (Nat.le_of_ble_eq_true rfl) (Nat.le_of_ble_eq_true rfl) (fun vq hq1 hq2 => ?_)
    obtain ⟨hf2, hq3⟩ := hq2
    obtain ⟨rfl, hA2, _⟩ := hq3.s hq
    refine Eam_x_goto (tgt := 26) dX12_fault_8 rfl ?_
    refine Eq_ir dX12_fault_26 rfl ?_
    exact ⟨rfl, hf2, hA2⟩
set_option maxHeartbeats 2000000 in
theorem r_fault1 {h : am_H} (hW : Wd h) {tl : Nat} {tp : Nat → Nat} {a : Nat} (hA : RA h tl tp a)  : am_D 37 m_X12_fault [.ref 50, .int (nI 1)] h (fun w h2 => w = some (.int (mfV tl tp)) ∧ NG 4 h h2 ∧ ∃ a, RA h2 tl tp a) := by
  unfold mfV
  cases hq : (mcs tl tp 161 0 []).2 with
  | none =>
    refine Eq_iln dX12_fault_0 rfl ?_
    refine Et_if_ne 11 dX12_fault_1 rfl (by exact zf1) ?_
    refine Eq_iln dX12_fault_11 rfl ?_
    refine Eq_ic (v := nI 1) dX12_fault_12 rfl ?_
    refine Ef_ic_ne dX12_fault_13 (tgt := 24) rfl (by rfl) ?_
    refine Eq_aln dX12_fault_16 rfl ?_
    refine Eq_ic (v := nI 4) dX12_fault_17 rfl ?_
    refine Eq_W1 (N := m_X12_readLaw) dX12_fault_18 lk_X12_249 mV_X12_readLaw (r_readLaw hW hA (n := 4) (by omega)) (by decide) (ws_50 hW) rfl (by decide) (Nat.le_of_ble_eq_true rfl) (Nat.le_of_ble_eq_true rfl) (fun vq hq1 hq2 => ?_)
    obtain ⟨rfl, hf2, hA2⟩ := hq2.n hq
    refine Eam_x_goto (tgt := 26) dX12_fault_21 rfl ?_
    refine Eq_ir dX12_fault_26 rfl ?_
    exact ⟨rfl, hf2, hA2⟩
  | some s =>
    refine Eq_iln dX12_fault_0 rfl ?_
    refine Et_if_ne 11 dX12_fault_1 rfl (by exact zf1) ?_
    refine Eq_iln dX12_fault_11 rfl ?_
    refine Eq_ic (v := nI 1) dX12_fault_12 rfl ?_
    refine Ef_ic_ne dX12_fault_13 (tgt := 24) rfl (by rfl) ?_
    refine Eq_aln dX12_fault_16 rfl ?_
    refine Eq_ic (v := nI 4) dX12_fault_17 rfl ?_
    refine Eq_W1 (N := m_X12_readLaw) dX12_fault_18 lk_X12_249 mV_X12_readLaw (r_readLaw hW hA (n := 4) (by omega)) (by decide) (ws_50 hW) rfl (by decide) (Nat.le_of_ble_eq_true rfl) (Nat.le_of_ble_eq_true rfl) (fun vq hq1 hq2 => ?_)
    obtain ⟨rfl, hf2, hA2, _⟩ := hq2.s hq
    refine Eam_x_goto (tgt := 26) dX12_fault_21 rfl ?_
    refine Eq_ir dX12_fault_26 rfl ?_
    exact ⟨rfl, hf2, hA2⟩
set_option maxHeartbeats 2000000 in
theorem r_fault2 {h : am_H} (hW : Wd h) {x : Int32} (h0 : ¬ x = 0) (h1 : ¬ x = nI 1) : am_C 0 m_X12_fault [.ref 50, .int x] h (some (.int (-2)), h) := by
  refine q_iln dX12_fault_0 rfl ?_
  refine t_if_ne 11 dX12_fault_1 rfl (by exact h0) ?_
  refine q_iln dX12_fault_11 rfl ?_
  refine q_ic (v := nI 1) dX12_fault_12 rfl ?_
  refine t_ic_ne 24 dX12_fault_13 rfl (by exact h1) ?_
  refine q_bp (v := -2) dX12_fault_24 rfl ?_
  refine q_ir dX12_fault_26 rfl ?_
  rfl
set_option maxHeartbeats 2000000 in
theorem r_text0N {h : am_H} (hW : Wd h) {tl : Nat} {tp : Nat → Nat} {a : Nat} (hA : RA h tl tp a) (hq : (hou tl tp).2 = none) : am_D 5 m_X12_text [.ref 50, .int (nI 0)] h (fun w h2 => w = some (.int (-1)) ∧ Fx [61] [(50, 3), (50, 4), (50, 18), (50, 19)] h h2 ∧ ∃ a, RA h2 tl tp a) := by
  have hb : (hou tl tp).1 < 2 ^ 31 := by
    rw [hou_fin, fin_1]
    have := cls_tl (tl := tl) (tp := tp) 161 0 (0, false, fun _ _ => 0) (by omega)
    have := hA.1.2.1
    omega
  refine Eq_iln dX12_text_0 rfl ?_
  refine Ef_if_ne dX12_text_1 (tgt := 22) rfl (by rfl) ?_
  refine Eq_aln dX12_text_4 rfl ?_
  refine Eq_W0 (N := m_X12_readHouse) dX12_text_5 lk_X12_246 mV_X12_readHouse (r_readHouse hW hA) (by decide) (ws_50 hW) rfl (by decide) (Nat.le_of_ble_eq_true rfl) (Nat.le_of_ble_eq_true rfl) (fun vq hq1 hq2 => ?_)
  obtain ⟨hf2, hq3⟩ := hq2
  obtain ⟨rfl, hA2⟩ := hq3.n hq
  refine Eq_ic (v := -1) dX12_text_8 rfl ?_
  refine Et_ic_ne 22 dX12_text_9 rfl (by exact nI_m1 hb) ?_
  refine Eq_iln dX12_text_22 rfl ?_
  refine Eq_ic (v := nI 1) dX12_text_23 rfl ?_
  refine Et_ic_ne 69 dX12_text_24 rfl (by decide +kernel) ?_
  refine Eq_ic (v := -1) dX12_text_69 rfl ?_
  refine Eq_ir dX12_text_70 rfl ?_
  exact ⟨rfl, hf2, hA2⟩
set_option maxHeartbeats 2000000 in
theorem r_text0Y {h : am_H} (hW : Wd h) {tl : Nat} {tp : Nat → Nat} {a : Nat} (hA : RA h tl tp a) {s : Nat × Bool × (Nat → Nat → Nat)} (hq : (hou tl tp).2 = some s) (hB : ∀ i m, m < s.1 → s.2.2 i m ≤ most i) : am_D 5 m_X12_text [.ref 50, .int (nI 0)] h (fun w h2 => w = some (.int (nI s.1)) ∧ Fx [61, 62, 63] [(50, 2), (50, 3), (50, 4), (50, 18), (50, 19), (50, 21), (50, 22), (50, 36), (50, 41), (50, 50)] h h2 ∧ RB h2 s.1 s.2.1 (drs s.1 s.2.2) (fun s => s) (fun s => s) ∧ am_i h2 50 36 = nI 0 ∧ am_i h2 50 41 = nI 0 ∧ am_i h2 50 50 = nI 0 ∧ am_i h2 50 2 = nI 0 ∧ ∃ a, a ≤ 1000 ∧ am_i h2 50 3 = nI a) := by
  refine Eq_iln dX12_text_0 rfl ?_
  refine Ef_if_ne dX12_text_1 (tgt := 22) rfl (by rfl) ?_
  refine Eq_aln dX12_text_4 rfl ?_
  refine Eq_W0 (N := m_X12_readHouse) dX12_text_5 lk_X12_246 mV_X12_readHouse (r_readHouse hW hA) (by decide) (ws_50 hW) rfl (by decide) (Nat.le_of_ble_eq_true rfl) (Nat.le_of_ble_eq_true rfl) (fun vq hq1 hq2 => ?_)
  obtain ⟨hf2, hq3⟩ := hq2
  obtain ⟨rfl, hA2, hD2⟩ := hq3.s hq
  have hW2 := hf2.Wd hW
  have k1 : Fx [] [(50, 2)] hq1 (am_wI hq1 50 2 (nI 0)) := Fx.wI (Or.inr (by decide))
  have hD3 := hD2.fx k1 (by decide)
  refine Eq_ic (v := -1) dX12_text_8 rfl ?_
  refine Ef_ic_ne dX12_text_9 (tgt := 22) rfl (by rfl) ?_
  refine Eq_aln dX12_text_12 rfl ?_
  refine Eq_ic (v := nI 0) dX12_text_13 rfl ?_
  refine Eam_x_putI dX12_text_14 (fw_X12_107 rfl) (ws_50 hW2) (Or.inl rfl) ?_
  refine Eq_aln dX12_text_17 rfl ?_
  refine Eq_W0 (N := m_X12_takeHouse) dX12_text_18 lk_X12_270 mV_X12_takeHouse (r_takeHouse (k1.Wd hW2) hD3 hB) (by decide) (ws_50 hW2) rfl (by decide) (Nat.le_of_ble_eq_true rfl) (Nat.le_of_ble_eq_true rfl) (fun vq hq1 hq2 => ?_)
  obtain ⟨rfl, hf3, hq4⟩ := hq2
  refine Eq_ir dX12_text_21 rfl ?_
  obtain ⟨b, hb⟩ := hA2
  exact ⟨rfl, (hf2.mono (by decide) (by decide)).tr ((k1.mono (by decide) (by decide)).tr (hf3.mono (by decide) (by decide))), hq4.1, hq4.2.1, hq4.2.2.1, hq4.2.2.2, (hf3.i (by decide) (by decide)).trans wI_e0, b, hb.2.2, (hf3.i (by decide) (by decide)).trans hb.2.1⟩
set_option maxHeartbeats 2000000 in
theorem r_text1F {h : am_H} (hW : Wd h) {mc : Nat} (hmc : am_i h 50 13 = nI mc) (hm4 : mc ≤ 4) (hm : ¬ mc < 4) : am_C 0 m_X12_text [.ref 50, .int (nI 1)] h (some (.int (-1)), h) := by
  refine q_iln dX12_text_0 rfl ?_
  refine t_if_ne 22 dX12_text_1 rfl (by exact zf1) ?_
  refine q_iln dX12_text_22 rfl ?_
  refine q_ic (v := nI 1) dX12_text_23 rfl ?_
  refine f_ic_ne dX12_text_24 (tgt := 69) rfl (by rfl) ?_
  refine q_aln dX12_text_27 rfl ?_
  refine q_getI dX12_text_28 fl_X12_273 (ws_50 hW) rfl hmc ?_
  refine q_ic (v := nI 4) dX12_text_31 rfl ?_
  refine t_ic_ge 69 dX12_text_32 rfl (by exact nI_le (by omega) (by omega)) ?_
  refine q_ic (v := -1) dX12_text_69 rfl ?_
  refine q_ir dX12_text_70 rfl ?_
  rfl
set_option maxHeartbeats 2000000 in
theorem r_text1N {h : am_H} (hW : Wd h) {tl : Nat} {tp : Nat → Nat} {a : Nat} (hA : RA h tl tp a) {mc : Nat} (hmc : am_i h 50 13 = nI mc) (hm4 : mc ≤ 4) (hm : mc < 4) (hq : (mcs tl tp 161 0 []).2 = none) : am_D 37 m_X12_text [.ref 50, .int (nI 1)] h (fun w h2 => w = some (.int (-1)) ∧ NG mc h h2 ∧ ∃ a, RA h2 tl tp a) := by
  have hb : (mcs tl tp 161 0 []).1 < 2 ^ 31 := by
    have := mcs_tl (tl := tl) (tp := tp) 161 0 [] (by omega)
    have := hA.1.2.1
    omega
  refine Eq_iln dX12_text_0 rfl ?_
  refine Et_if_ne 22 dX12_text_1 rfl (by exact zf1) ?_
  refine Eq_iln dX12_text_22 rfl ?_
  refine Eq_ic (v := nI 1) dX12_text_23 rfl ?_
  refine Ef_ic_ne dX12_text_24 (tgt := 69) rfl (by rfl) ?_
  refine Eq_aln dX12_text_27 rfl ?_
  refine Eq_getI dX12_text_28 fl_X12_273 (ws_50 hW) rfl hmc ?_
  refine Eq_ic (v := nI 4) dX12_text_31 rfl ?_
  refine Ef_ic_ge dX12_text_32 (tgt := 69) rfl (by exact nI_ge (by omega) (by omega)) ?_
  refine Eq_aln dX12_text_35 rfl ?_
  refine Eq_aln dX12_text_36 rfl ?_
  refine Eq_getI dX12_text_37 fl_X12_273 (ws_50 hW) rfl hmc ?_
  refine Eq_W1 (N := m_X12_readLaw) dX12_text_40 lk_X12_249 mV_X12_readLaw (r_readLaw hW hA hm4) (by decide) (ws_50 hW) rfl (by decide) (Nat.le_of_ble_eq_true rfl) (Nat.le_of_ble_eq_true rfl) (fun vq hq1 hq2 => ?_)
  obtain ⟨rfl, hf2, hA2⟩ := hq2.n hq
  refine Eq_ic (v := -1) dX12_text_43 rfl ?_
  refine Et_ic_ne 69 dX12_text_44 rfl (by exact nI_m1 hb) ?_
  refine Eq_ic (v := -1) dX12_text_69 rfl ?_
  refine Eq_ir dX12_text_70 rfl ?_
  exact ⟨rfl, hf2, hA2⟩
set_option maxHeartbeats 2000000 in
theorem r_text1Y {h : am_H} (hW : Wd h) {tl : Nat} {tp : Nat → Nat} {a : Nat} (hA : RA h tl tp a) {mc : Nat} (hmc : am_i h 50 13 = nI mc) (hm4 : mc ≤ 4) (hm : mc < 4) {M : List (Tks × Tks)} (hq : (mcs tl tp 161 0 []).2 = some M) : am_D 37 m_X12_text [.ref 50, .int (nI 1)] h (fun w h2 => w = some (.int (nI mc)) ∧ ∃ hq, NG mc h hq ∧ (∃ a, RA hq tl tp a) ∧ CW hq mc (flt M) ∧ KL hq mc M ∧ h2 = am_wI (am_wI hq 50 2 (nI 0)) 50 13 (nI (mc + 1))) := by
  refine Eq_iln dX12_text_0 rfl ?_
  refine Et_if_ne 22 dX12_text_1 rfl (by exact zf1) ?_
  refine Eq_iln dX12_text_22 rfl ?_
  refine Eq_ic (v := nI 1) dX12_text_23 rfl ?_
  refine Ef_ic_ne dX12_text_24 (tgt := 69) rfl (by rfl) ?_
  refine Eq_aln dX12_text_27 rfl ?_
  refine Eq_getI dX12_text_28 fl_X12_273 (ws_50 hW) rfl (by first | exact wI_e0 | exact hmc2 | exact hmc) ?_
  refine Eq_ic (v := nI 4) dX12_text_31 rfl ?_
  refine Ef_ic_ge dX12_text_32 (tgt := 69) rfl (by exact nI_ge (by omega) (by omega)) ?_
  refine Eq_aln dX12_text_35 rfl ?_
  refine Eq_aln dX12_text_36 rfl ?_
  refine Eq_getI dX12_text_37 fl_X12_273 (ws_50 hW) rfl (by first | exact wI_e0 | exact hmc2 | exact hmc) ?_
  refine Eq_W1 (N := m_X12_readLaw) dX12_text_40 lk_X12_249 mV_X12_readLaw (r_readLaw hW hA hm4) (by decide) (ws_50 hW) rfl (by decide) (Nat.le_of_ble_eq_true rfl) (Nat.le_of_ble_eq_true rfl) (fun vq hq1 hq2 => ?_)
  obtain ⟨rfl, hf2, hA2, hC2, hK2⟩ := hq2.s hq
  have hW2 := hf2.1.Wd hW
  have hmc2 : am_i hq1 50 13 = nI mc := (hf2.1.i (by decide) (by decide)).trans hmc
  refine Eq_ic (v := -1) dX12_text_43 rfl ?_
  refine Ef_ic_ne dX12_text_44 (tgt := 69) rfl (by rfl) ?_
  refine Eq_aln dX12_text_47 rfl ?_
  refine Eq_ic (v := nI 0) dX12_text_48 rfl ?_
  refine Eam_x_putI dX12_text_49 (fw_X12_107 rfl) (ws_50 hW2) (Or.inl rfl) ?_
  refine Eq_aln dX12_text_52 rfl ?_
  refine Eam_x_pu dX12_text_53 rfl ?_
  refine Eq_getI dX12_text_54 fl_X12_273 (ws_50 hW2) rfl (by first | exact wI_e0 | exact hmc2 | exact hmc) ?_
  refine Eq_ic (v := nI 1) dX12_text_57 rfl ?_
  first | refine Eq_add dX12_text_58 ?_ | refine Eam_x_pu dX12_text_58 rfl ?_
  refine Eam_x_putI dX12_text_59 (fw_X12_273 rfl) (ws_50 hW2) (Or.inl rfl) ?_
  refine Eq_aln dX12_text_62 rfl ?_
  refine Eq_getI dX12_text_63 fl_X12_273 (ws_50 hW2) rfl (by first | exact wI_e0 | exact hmc2 | exact hmc) ?_
  refine Eq_ic (v := nI 1) dX12_text_66 rfl ?_
  first | refine Eq_sub dX12_text_67 (by omega) ?_ | refine Eam_x_pu dX12_text_67 rfl ?_
  refine Eq_ir dX12_text_68 rfl ?_
  exact ⟨rfl, hq1, hf2, hA2, hC2, hK2, rfl⟩
set_option maxHeartbeats 2000000 in
theorem r_text2 {h : am_H} (hW : Wd h) {x : Int32} (h0 : ¬ x = 0) (h1 : ¬ x = nI 1) : am_C 0 m_X12_text [.ref 50, .int x] h (some (.int (-1)), h) := by
  refine q_iln dX12_text_0 rfl ?_
  refine t_if_ne 22 dX12_text_1 rfl (by exact h0) ?_
  refine q_iln dX12_text_22 rfl ?_
  refine q_ic (v := nI 1) dX12_text_23 rfl ?_
  refine t_ic_ne 69 dX12_text_24 rfl (by exact h1) ?_
  refine q_ic (v := -1) dX12_text_69 rfl ?_
  refine q_ir dX12_text_70 rfl ?_
  rfl
