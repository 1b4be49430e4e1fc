/-! reading, wherever the reader stood -/
set_option maxHeartbeats 2000000 in
theorem c_readW {h : am_H} (hW : Wd h) {tl : Nat} {tp : Nat → Nat} (hP : TP 1 1 2 h tl tp)  : am_D 5 m_X2_read [.ref 3] h (fun w h2 => Fx [5] [(4, 0), (4, 1), (1, 2)] h h2 ∧ HQ tl tp (cls tl tp 161 0 (0, false, fun _ _ => 0)) w h2) := by
  have k1 : Fx [5] [(4, 0), (4, 1), (1, 2)] h (am_wI (am_wI h 4 0 (nI 0)) 4 1 (nI 0)) := (Fx.wI (Or.inr (by decide))).tr (Fx.wI (Or.inr (by decide)))
  have k2 : Fx [5] [(4, 0), (4, 1), (1, 2)] h (am_wI (am_wI (am_wI h 4 0 (nI 0)) 4 1 (nI 0)) 1 2 (nI 0)) := k1.tr (Fx.wI (Or.inr (by decide)))
  have hA1 : TA (am_wI (am_wI (am_wI h 4 0 (nI 0)) 4 1 (nI 0)) 1 2 (nI 0)) tl tp 0 := ⟨hP.fx (A := []) (B := [(4, 0), (4, 1), (1, 2)]) ((Fx.wI (Or.inr (by decide))).tr ((Fx.wI (Or.inr (by decide))).tr (Fx.wI (Or.inr (by decide))))) (by decide), wI_e0, by omega⟩
  have htl := hP.2.1
  refine Eq_aln dX2_read_0 rfl ?_
  refine Eq_getR dX2_read_1 fl_X2_18 (ws_3 hW) rfl (wp_3_1 hW) ?_
  refine Eq_V0 (N := m_X5_clear) dX2_read_4 lk_X2_22 mV_X5_clear (c_clear4 hW) (by decide) (ws_4 hW) rfl (by decide) (Nat.le_of_ble_eq_true rfl) (Nat.le_of_ble_eq_true rfl) ?_
  refine Eq_aln dX2_read_7 rfl ?_
  refine Eq_getR dX2_read_8 fl_X2_9 (ws_3 hW) rfl (wp_3_0 hW) ?_
  refine Eq_V0 (N := m_X9_rewind) dX2_read_11 lk_X2_25 mV_X9_rewind (c_rewind (k1.Wd hW)) (by decide) (ws_1 hW) rfl (by decide) (Nat.le_of_ble_eq_true rfl) (Nat.le_of_ble_eq_true rfl) ?_
  refine Eq_aln dX2_read_14 rfl ?_
  refine Eq_W0 (N := m_X2_readClause) dX2_read_15 lk_X2_30 mV_X2_readClause (c_readClause (N := 0) (g := false) (F := fun _ _ => 0) (k2.Wd hW) hA1 ⟨rfl, rfl, by omega, fun i m _ hm => by omega, fun i m hm => by omega⟩) (by decide) (ws_3 hW) rfl (by decide) (Nat.le_of_ble_eq_true rfl) (Nat.le_of_ble_eq_true rfl) (fun vq hq1 hq2 => ?_)
  obtain ⟨hf2, hC2⟩ := hq2
  obtain ⟨xq, rfl⟩ := hC2.int
  refine Eq_isn dX2_read_18 (by decide) ?_
  refine Eam_nl (pc' := 19) (l' := [_, _, _]) rfl rfl ?_
  refine Eq_ic (v := nI 1) dX2_read_19 rfl ?_
  refine Eq_isn dX2_read_20 (by decide) ?_
  refine Eam_nl (pc' := 21) (l' := [_, _, _]) rfl rfl ?_
  obtain ⟨v5, h5, z1, z2, z3⟩ := c_read_lp 161 0 (0, false, fun _ _ => 0) hq1 _ 1 (by omega) (by omega) (by omega) ((k2.tr hf2).Wd hW) hC2
  exact ⟨v5, h5, z1, (k2.tr hf2).tr z2, z3⟩
set_option maxHeartbeats 2000000 in
theorem c_mreadW {tl : Nat} {tp : Nat → Nat} {h : am_H} (hW : Wd h) (hP : TP 1 1 2 h tl tp) : am_D 29 m_X4_read [.ref 6] h (fun w h2 => Fx [7] [(6, 2), (1, 2)] h h2 ∧ MRQ tl tp (mcs tl tp 161 0 []) w h2) := by
  have k1 : Fx [7] [(6, 2), (1, 2)] h (am_wI h 6 2 (nI 0)) := Fx.wI (Or.inr (by decide))
  have k2 : Fx [7] [(6, 2), (1, 2)] h (am_wI (am_wI h 6 2 (nI 0)) 1 2 (nI 0)) := k1.tr (Fx.wI (Or.inr (by decide)))
  have hA1 : TA (am_wI (am_wI h 6 2 (nI 0)) 1 2 (nI 0)) tl tp 0 := ⟨hP.fx (A := []) (B := [(6, 2), (1, 2)]) ((Fx.wI (Or.inr (by decide))).tr (Fx.wI (Or.inr (by decide)))) (by decide), wI_e0, by omega⟩
  have htl := hP.2.1
  refine Eq_aln dX4_read_0 rfl ?_
  refine Eq_ic (v := nI 0) dX4_read_1 rfl ?_
  refine Eam_x_putI dX4_read_2 (fw_X4_21 rfl) (ws_6 hW) (Or.inl rfl) ?_
  refine Eq_aln dX4_read_5 rfl ?_
  refine Eq_getR dX4_read_6 fl_X4_9 (ws_6 hW) rfl (wp_6_0 hW) ?_
  refine Eq_V0 (N := m_X9_rewind) dX4_read_9 lk_X4_25 mV_X9_rewind (c_rewind (k1.Wd hW)) (by decide) (ws_1 hW) rfl (by decide) (Nat.le_of_ble_eq_true rfl) (Nat.le_of_ble_eq_true rfl) ?_
  refine Eq_aln dX4_read_12 rfl ?_
  refine Eq_W0 (N := m_X4_readClause) dX4_read_13 lk_X4_28 mV_X4_readClause (c_mclause (l := []) (k2.Wd hW) hA1 ⟨rfl, by simp, fun i hi => by simp at hi⟩ (by simp)) (by decide) (ws_6 hW) rfl (by decide) (Nat.le_of_ble_eq_true rfl) (Nat.le_of_ble_eq_true rfl) (fun vq hq1 hq2 => ?_)
  obtain ⟨xq, rfl⟩ := hq2.int2
  refine Eq_isn dX4_read_16 (by decide) ?_
  refine Eam_nl (pc' := 17) (l' := [_, _, _]) rfl rfl ?_
  refine Eq_ic (v := nI 1) dX4_read_17 rfl ?_
  refine Eq_isn dX4_read_18 (by decide) ?_
  refine Eam_nl (pc' := 19) (l' := [_, _, _]) rfl rfl ?_
  obtain ⟨v5, h5, z1, z2, z3⟩ := c_mread_lp 161 0 [] hq1 _ _ 1 (by omega) (by omega) (by omega) ((k2.tr hq2.1).Wd hW) hq2 (by simp [lay])
  exact ⟨v5, h5, z1, (k2.tr hq2.1).tr z2, z3⟩
set_option maxHeartbeats 2000000 in
theorem c_fault0W {h : am_H} (hW : Wd h) {tl : Nat} {tp : Nat → Nat} (hP : TP 1 1 2 h tl tp)  : am_D 6 m_X11_fault [.ref 0, .int (nI 0)] h (fun w h2 => w = some (.int (hfV tl tp)) ∧ Fx [5] [(4, 0), (4, 1), (1, 2)] h h2 ∧ ∃ a, TA h2 tl tp a) := by
  unfold hfV
  cases hq : (hou tl tp).2 with
  | none =>
    refine Eq_iln dX11_fault_0 rfl ?_
    refine Ef_if_ne dX11_fault_1 (tgt := 12) rfl (by rfl) ?_
    refine Eq_aln dX11_fault_4 rfl ?_
    refine Eq_getR dX11_fault_5 fl_X11_21 (ws_0 hW) rfl (wp_0_1 hW) ?_
    refine Eq_W0 (N := m_X2_read) dX11_fault_8 lk_X11_128 mV_X2_read (c_readW hW hP) (by decide) (ws_3 hW) rfl (by decide) (Nat.le_of_ble_eq_true rfl) (Nat.le_of_ble_eq_true rfl) (fun vq hq1 hq2 => ?_)
    obtain ⟨hf2, hq3⟩ := hq2
    obtain ⟨rfl, hA2⟩ := hq3.n hq
    refine Eq_ir dX11_fault_11 rfl ?_
    exact ⟨rfl, hf2, hA2⟩
  | some s =>
    refine Eq_iln dX11_fault_0 rfl ?_
    refine Ef_if_ne dX11_fault_1 (tgt := 12) rfl (by rfl) ?_
    refine Eq_aln dX11_fault_4 rfl ?_
    refine Eq_getR dX11_fault_5 fl_X11_21 (ws_0 hW) rfl (wp_0_1 hW) ?_
    refine Eq_W0 (N := m_X2_read) dX11_fault_8 lk_X11_128 mV_X2_read (c_readW hW hP) (by decide) (ws_3 hW) rfl (by decide) (Nat.le_of_ble_eq_true rfl) (Nat.le_of_ble_eq_true rfl) (fun vq hq1 hq2 => ?_)
    obtain ⟨hf2, hq3⟩ := hq2
    obtain ⟨rfl, hA2, _⟩ := hq3.s hq
    refine Eq_ir dX11_fault_11 rfl ?_
    exact ⟨rfl, hf2, hA2⟩
set_option maxHeartbeats 2000000 in
theorem c_fault1W {h : am_H} (hW : Wd h) {tl : Nat} {tp : Nat → Nat} (hP : TP 1 1 2 h tl tp)  : am_D 30 m_X11_fault [.ref 0, .int (nI 1)] h (fun w h2 => w = some (.int (mfV tl tp)) ∧ Fx [7] [(6, 2), (1, 2)] h h2 ∧ ∃ a, TA h2 tl tp a) := by
  unfold mfV
  cases hq : (mcs tl tp 161 0 []).2 with
  | none =>
    refine Eq_iln dX11_fault_0 rfl ?_
    refine Et_if_ne 12 dX11_fault_1 rfl (by exact zf1) ?_
    refine Eq_iln dX11_fault_12 rfl ?_
    refine Eq_ic (v := nI 1) dX11_fault_13 rfl ?_
    refine Ef_ic_ne dX11_fault_14 (tgt := 27) rfl (by rfl) ?_
    refine Eq_aln dX11_fault_17 rfl ?_
    refine Eq_getR dX11_fault_18 fl_X11_28 (ws_0 hW) rfl (wp_0_2 hW) ?_
    refine Eq_W0 (N := m_X4_read) dX11_fault_21 lk_X11_132 mV_X4_read (c_mreadW hW hP) (by decide) (ws_6 hW) rfl (by decide) (Nat.le_of_ble_eq_true rfl) (Nat.le_of_ble_eq_true rfl) (fun vq hq1 hq2 => ?_)
    obtain ⟨hf2, hq3⟩ := hq2
    obtain ⟨rfl, hA2⟩ := hq3.n hq
    refine Eam_x_goto (tgt := 29) dX11_fault_24 rfl ?_
    refine Eq_ir dX11_fault_29 rfl ?_
    exact ⟨rfl, hf2, hA2⟩
  | some s =>
    refine Eq_iln dX11_fault_0 rfl ?_
    refine Et_if_ne 12 dX11_fault_1 rfl (by exact zf1) ?_
    refine Eq_iln dX11_fault_12 rfl ?_
    refine Eq_ic (v := nI 1) dX11_fault_13 rfl ?_
    refine Ef_ic_ne dX11_fault_14 (tgt := 27) rfl (by rfl) ?_
    refine Eq_aln dX11_fault_17 rfl ?_
    refine Eq_getR dX11_fault_18 fl_X11_28 (ws_0 hW) rfl (wp_0_2 hW) ?_
    refine Eq_W0 (N := m_X4_read) dX11_fault_21 lk_X11_132 mV_X4_read (c_mreadW hW hP) (by decide) (ws_6 hW) rfl (by decide) (Nat.le_of_ble_eq_true rfl) (Nat.le_of_ble_eq_true rfl) (fun vq hq1 hq2 => ?_)
    obtain ⟨hf2, hq3⟩ := hq2
    obtain ⟨rfl, hA2, _⟩ := hq3.s hq
    refine Eam_x_goto (tgt := 29) dX11_fault_24 rfl ?_
    refine Eq_ir dX11_fault_29 rfl ?_
    exact ⟨rfl, hf2, hA2⟩
set_option maxHeartbeats 2000000 in
theorem c_text0NW {h : am_H} (hW : Wd h) {tl : Nat} {tp : Nat → Nat} (hP : TP 1 1 2 h tl tp) (hq : (hou tl tp).2 = none) : am_D 6 m_X11_text [.ref 0, .int (nI 0)] h (fun w h2 => w = some (.int (-1)) ∧ Fx [5] [(4, 0), (4, 1), (1, 2)] h h2 ∧ ∃ a, TA h2 tl tp a) := by
  have hb : (hou tl tp).1 < 2 ^ 31 := by
    rw [hou_fin, fin_1]
    have := cls_tl (tl := tl) (tp := tp) 161 0 (0, false, fun _ _ => 0) (by omega)
    have := hP.2.1
    omega
  refine Eq_iln dX11_text_0 rfl ?_
  refine Ef_if_ne dX11_text_1 (tgt := 24) rfl (by rfl) ?_
  refine Eq_aln dX11_text_4 rfl ?_
  refine Eq_getR dX11_text_5 fl_X11_21 (ws_0 hW) rfl (wp_0_1 hW) ?_
  refine Eq_W0 (N := m_X2_read) dX11_text_8 lk_X11_128 mV_X2_read (c_readW hW hP) (by decide) (ws_3 hW) rfl (by decide) (Nat.le_of_ble_eq_true rfl) (Nat.le_of_ble_eq_true rfl) (fun vq hq1 hq2 => ?_)
  obtain ⟨hf2, hq3⟩ := hq2
  obtain ⟨rfl, hA2⟩ := hq3.n hq
  refine Eq_ic (v := -1) dX11_text_11 rfl ?_
  refine Et_ic_ne 22 dX11_text_12 rfl (by exact nI_m1 hb) ?_
  refine Eq_ic (v := -1) dX11_text_22 rfl ?_
  refine Eq_ir dX11_text_23 rfl ?_
  exact ⟨rfl, hf2, hA2⟩
set_option maxHeartbeats 2000000 in
theorem c_text0YW {h : am_H} (hW : Wd h) {tl : Nat} {tp : Nat → Nat} (hP : TP 1 1 2 h tl tp) {s : Nat × Bool × (Nat → Nat → Nat)} (hq : (hou tl tp).2 = some s) : am_D 6 m_X11_text [.ref 0, .int (nI 0)] h (fun w h2 => w = some (.int (nI s.1)) ∧ Fx [5, 9, 10, 12, 13, 26] [(4, 0), (4, 1), (1, 2), (11, 0), (16, 3), (37, 0), (0, 13), (1, 1), (29, 7)] h h2 ∧ MB h2 s.1 s.2.1 (drs s.1 s.2.2) ∧ SB 11 12 13 h2 s.1 (fun s => s) (fun s => s) ∧ KF h2 ∧ am_i h2 16 3 = nI 0 ∧ am_i h2 37 0 = nI 0 ∧ am_i h2 0 13 = nI 0 ∧ am_i h2 1 1 = nI 0 ∧ ∃ a, am_i h2 1 2 = nI a) := by
  refine Eq_iln dX11_text_0 rfl ?_
  refine Ef_if_ne dX11_text_1 (tgt := 24) rfl (by rfl) ?_
  refine Eq_aln dX11_text_4 rfl ?_
  refine Eq_getR dX11_text_5 fl_X11_21 (ws_0 hW) rfl (wp_0_1 hW) ?_
  refine Eq_W0 (N := m_X2_read) dX11_text_8 lk_X11_128 mV_X2_read (c_readW hW hP) (by decide) (ws_3 hW) rfl (by decide) (Nat.le_of_ble_eq_true rfl) (Nat.le_of_ble_eq_true rfl) (fun vq hq1 hq2 => ?_)
  obtain ⟨hf2, hq3⟩ := hq2
  obtain ⟨rfl, hA2, hD2⟩ := hq3.s hq
  have hW2 := hf2.Wd hW
  refine Eq_ic (v := -1) dX11_text_11 rfl ?_
  refine Ef_ic_ne dX11_text_12 (tgt := 22) rfl (by rfl) ?_
  refine Eq_aln dX11_text_15 rfl ?_
  refine Eq_W0 (N := m_X11_moveIn) dX11_text_16 lk_X11_133 mV_X11_moveIn (c_moveIn hW2 hD2.mx) (by decide) (ws_0 hW2) rfl (by decide) (Nat.le_of_ble_eq_true rfl) (Nat.le_of_ble_eq_true rfl) (fun vq hq1 hq2 => ?_)
  obtain ⟨rfl, hf3, hq4⟩ := hq2
  refine Eam_x_goto (tgt := 23) dX11_text_19 rfl ?_
  refine Eq_ir dX11_text_23 rfl ?_
  obtain ⟨b, hb⟩ := hA2
  exact ⟨rfl, (hf2.mono (by decide) (by decide)).tr (hf3.mono (by decide) (by decide)), hq4.1, hq4.2.1, hq4.2.2.1, hq4.2.2.2.1, hq4.2.2.2.2.1, hq4.2.2.2.2.2.1, hq4.2.2.2.2.2.2, b, (hf3.i (by decide) (by decide)).trans hb.2.1⟩
set_option maxHeartbeats 2000000 in
theorem c_text1NW {h : am_H} (hW : Wd h) {tl : Nat} {tp : Nat → Nat} (hP : TP 1 1 2 h tl tp) {mc : Nat} (hmc : am_i h 0 4 = nI mc) (hm4 : mc ≤ 4) (hm : mc < 4) (hq : (mcs tl tp 161 0 []).2 = none) : am_D 30 m_X11_text [.ref 0, .int (nI 1)] h (fun w h2 => w = some (.int (-1)) ∧ Fx [7] [(6, 2), (1, 2)] h h2 ∧ ∃ a, TA h2 tl tp a) := by
  have hb : (mcs tl tp 161 0 []).1 < 2 ^ 31 := by
    have := mcs_tl (tl := tl) (tp := tp) 161 0 [] (by omega)
    have := hP.2.1
    omega
  refine Eq_iln dX11_text_0 rfl ?_
  refine Et_if_ne 24 dX11_text_1 rfl (by exact zf1) ?_
  refine Eq_iln dX11_text_24 rfl ?_
  refine Eq_ic (v := nI 1) dX11_text_25 rfl ?_
  refine Ef_ic_ne dX11_text_26 (tgt := 48) rfl (by rfl) ?_
  refine Eq_aln dX11_text_29 rfl ?_
  refine Eq_getI dX11_text_30 fl_X11_38 (ws_0 hW) rfl hmc ?_
  refine Eq_ic (v := nI 4) dX11_text_33 rfl ?_
  refine Ef_ic_ge dX11_text_34 (tgt := 48) rfl (by exact nI_ge (by omega) (by omega)) ?_
  refine Eq_aln dX11_text_37 rfl ?_
  refine Eq_getR dX11_text_38 fl_X11_28 (ws_0 hW) rfl (wp_0_2 hW) ?_
  refine Eq_W0 (N := m_X4_read) dX11_text_41 lk_X11_132 mV_X4_read (c_mreadW hW hP) (by decide) (ws_6 hW) rfl (by decide) (Nat.le_of_ble_eq_true rfl) (Nat.le_of_ble_eq_true rfl) (fun vq hq1 hq2 => ?_)
  obtain ⟨hf2, hq3⟩ := hq2
  obtain ⟨rfl, hA2⟩ := hq3.n hq
  refine Eq_ic (v := -1) dX11_text_44 rfl ?_
  refine Ef_ic_eq dX11_text_45 (tgt := 50) rfl (by exact nI_m1 hb) ?_
  refine Eq_ic (v := -1) dX11_text_48 rfl ?_
  refine Eq_ir dX11_text_49 rfl ?_
  exact ⟨rfl, hf2, hA2⟩
set_option maxHeartbeats 2000000 in
theorem c_text1YW {h : am_H} (hW : Wd h) {tl : Nat} {tp : Nat → Nat} (hP : TP 1 1 2 h tl tp) {mc : Nat} (hmc : am_i h 0 4 = nI mc) (hm4 : mc ≤ 4) (hm : mc < 4) (h8 : 80 ≤ am_t h) {M : List (Tks × Tks)} (hq : (mcs tl tp 161 0 []).2 = some M) : am_D 30 m_X11_text [.ref 0, .int (nI 1)] h (fun w h2 => w = some (.int (nI mc)) ∧ ∃ hq, Fx [7] [(6, 2), (1, 2)] h hq ∧ (∃ a, TA hq tl tp a) ∧ WR hq (lay 0 M) ∧ h2 = am_wI (am_wI (am_wP (mwH hq (lay 0 M).length) 8 mc (some (am_t h))) 0 4 (nI (mc + 1))) 1 1 (nI 0)) := by
  have cmc : (nI mc).toNatClampNeg = mc := nI_clamp (by omega)
  refine Eq_iln dX11_text_0 rfl ?_
  refine Et_if_ne 24 dX11_text_1 rfl (by exact zf1) ?_
  refine Eq_iln dX11_text_24 rfl ?_
  refine Eq_ic (v := nI 1) dX11_text_25 rfl ?_
  refine Ef_ic_ne dX11_text_26 (tgt := 48) rfl (by rfl) ?_
  refine Eq_aln dX11_text_29 rfl ?_
  refine Eq_getI dX11_text_30 fl_X11_38 (ws_0 hW) rfl (by first | exact hmc2 | exact hmc) ?_
  refine Eq_ic (v := nI 4) dX11_text_33 rfl ?_
  refine Ef_ic_ge dX11_text_34 (tgt := 48) rfl (by exact nI_ge (by omega) (by omega)) ?_
  refine Eq_aln dX11_text_37 rfl ?_
  refine Eq_getR dX11_text_38 fl_X11_28 (ws_0 hW) rfl (wp_0_2 hW) ?_
  refine Eq_W0 (N := m_X4_read) dX11_text_41 lk_X11_132 mV_X4_read (c_mreadW hW hP) (by decide) (ws_6 hW) rfl (by decide) (Nat.le_of_ble_eq_true rfl) (Nat.le_of_ble_eq_true rfl) (fun vq hq1 hq2 => ?_)
  obtain ⟨hf2, hq3⟩ := hq2
  obtain ⟨rfl, hA2, hR2⟩ := hq3.s hq
  have hW2 := hf2.Wd hW
  have ht2 : am_t hq1 = am_t h := (by have := hf2.2.1; exact congrArg (fun z => z.2.1) this)
  have hmc2 : am_i hq1 0 4 = nI mc := (hf2.i (by decide) (by decide)).trans hmc
  have hWm : Wd (mwH hq1 (lay 0 M).length) := mwH_bl.Wd (by omega) hW2
  have hWp : Wd (am_wP (mwH hq1 (lay 0 M).length) 8 mc (some (am_t hq1))) := hWm.wP (pk8 mc)
  have hMN := mwH_mn (by omega) hR2
  have hmc3 : am_i (mwH hq1 (lay 0 M).length) 0 4 = nI mc := (congrFun (mwH_bl 0 (by omega)).2.1 4).trans hmc2
  refine Eq_ic (v := -1) dX11_text_44 rfl ?_
  refine Et_ic_eq 50 dX11_text_45 rfl (by rfl) ?_
  refine Eq_aln dX11_text_50 rfl ?_
  refine Eq_getR dX11_text_51 fl_X11_34 (ws_0 hW2) rfl (wp_0_3 hW2) ?_
  refine Eq_aln dX11_text_54 rfl ?_
  refine Eq_getI dX11_text_55 fl_X11_38 (ws_0 hW2) rfl (by first | exact hmc2 | exact hmc) ?_
  refine Eq_aln dX11_text_58 rfl ?_
  refine Eq_getR dX11_text_59 fl_X11_28 (ws_0 hW2) rfl (wp_0_2 hW2) ?_
  refine Eq_V0 (N := m_X4_written) dX11_text_62 lk_X11_136 mV_X4_written (c_written hW2 hR2 (by omega)) (by decide) (ws_6 hW2) rfl (by decide) (Nat.le_of_ble_eq_true rfl) (Nat.le_of_ble_eq_true rfl) ?_
  refine Eam_x_qast dX11_text_65 (ws_8 hWm) hMN.1 (vp_in_nI (by omega) (by omega)) ?_
  rw [cmc]
  refine Eq_aln dX11_text_66 rfl ?_
  refine Eam_x_pu dX11_text_67 rfl ?_
  refine Eq_getI dX11_text_68 fl_X11_38 (ws_0 hWp) rfl hmc3 ?_
  refine Eq_ic (v := nI 1) dX11_text_71 rfl ?_
  first | refine Eq_add dX11_text_72 ?_ | refine Eam_x_pu dX11_text_72 rfl ?_
  refine Eam_x_putI dX11_text_73 (fw_X11_38 rfl) (ws_0 hWp) (Or.inl rfl) ?_
  refine Eq_aln dX11_text_76 rfl ?_
  refine Eq_getR dX11_text_77 fl_X11_10 (ws_0 hWp) rfl (wp_0_0 hWp) ?_
  refine Eq_ic (v := nI 0) dX11_text_80 rfl ?_
  refine Eam_x_putI dX11_text_81 (fw_X11_125 rfl) (ws_1 hWp) (Or.inl rfl) ?_
  refine Eq_aln dX11_text_84 rfl ?_
  refine Eq_getI dX11_text_85 fl_X11_38 (ws_0 hWp) rfl (by rw [wI_ne (by decide), wI_e0]) ?_
  refine Eq_ic (v := nI 1) dX11_text_88 rfl ?_
  first | refine Eq_sub dX11_text_89 (by omega) ?_ | refine Eam_x_pu dX11_text_89 rfl ?_
  refine Eq_ir dX11_text_90 rfl ?_
  exact ⟨rfl, hq1, hf2, hA2, hR2, by rw [ht2]⟩
