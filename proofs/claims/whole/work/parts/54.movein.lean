/-! moving in -/
theorem Pm.id (n : Nat) : Pm n (fun s => s) (fun s => s) := ⟨fun s hs => ⟨hs, rfl⟩, fun m hm => ⟨hm, rfl⟩⟩
set_option maxHeartbeats 2000000 in
theorem c_start_lp {n : Nat} (h7 : n ≤ 7) {h0 : am_H} {l1 : Int32} : ∀ k j, j + k = n → ∀ h, Wd h → am_i h 11 0 = nI n → Fx [12, 13] [(11, 0)] h0 h → (∀ s, s < j → am_i h 12 s = nI s ∧ am_i h 13 s = nI s) → am_E 2 m_X6_startWith 16 [some (.ref 11), some (.int l1), some (.int (nI j))] [] h (fun v h2 => v = none ∧ Fx [12, 13] [(11, 0)] h0 h2 ∧ SB 11 12 13 h2 n (fun s => s) (fun s => s)) := by
  intro k
  induction k with
  | zero =>
    intro j hj h hW hN hf hc
    have hjn : j = n := by omega
    subst hjn
    refine Eq_iln dX6_startWith_16 rfl ?_
    refine Eq_aln dX6_startWith_17 rfl ?_
    refine Eq_getI dX6_startWith_18 fl_X6_9 (ws_11 hW) rfl hN ?_
    refine Et_ic_ge 36 dX6_startWith_21 rfl (by exact nI_le (by omega) (by omega)) ?_
    refine Eq_vr dX6_startWith_36 rfl ?_
    exact ⟨rfl, hf, hN, h7, fun s hs => ⟨(hc s hs).1, hs, rfl⟩, fun s hs => ⟨(hc s hs).2, hs, rfl⟩⟩
  | succ k ih =>
    intro j hj h hW hN hf hc
    have k1 : Fx [12, 13] [(11, 0)] h (am_wI (am_wI h 12 j (nI j)) 13 j (nI j)) := (Fx.wI (Or.inl (by decide))).tr (Fx.wI (Or.inl (by decide)))
    have k2 := ih (j + 1) (by omega) _ (k1.Wd hW) (by rw [wI_ne (by decide), wI_ne (by decide)]; exact hN) (hf.tr k1) (fun s hs => by
      rw [wI_ne (r := 13) (r' := 12) (by decide), wI_eq, wI_eq, wI_ne (r := 12) (r' := 13) (by decide)]
      by_cases e : s = j
      · rw [if_pos e, if_pos e, e]; exact ⟨rfl, rfl⟩
      · rw [if_neg e, if_neg e]; exact hc s (by omega))
    refine Eq_iln dX6_startWith_16 rfl ?_
    refine Eq_aln dX6_startWith_17 rfl ?_
    refine Eq_getI dX6_startWith_18 fl_X6_9 (ws_11 hW) rfl hN ?_
    refine Ef_ic_ge dX6_startWith_21 (tgt := 36) rfl (by exact nI_ge (by omega) (by omega)) ?_
    refine Eq_aln dX6_startWith_24 rfl ?_
    refine Eq_iln dX6_startWith_25 rfl ?_
    refine Eq_iln dX6_startWith_26 rfl ?_
    refine Eq_V2 (N := m_X6_put) dX6_startWith_27 lk_X6_31 mV_X6_put (c_put11 hW hN h7 (by omega) (by omega)) (by decide) (ws_11 hW) rfl (by decide) (Nat.le_of_ble_eq_true rfl) (Nat.le_of_ble_eq_true rfl) ?_
    refine Eq_inc dX6_startWith_30 rfl (by decide) ?_
    refine Eam_nl (pc' := 33) (l' := [_, _, _]) rfl rfl ?_
    refine Eam_x_goto (tgt := 16) dX6_startWith_33 rfl ?_
    exact k2
set_option maxHeartbeats 2000000 in
theorem c_start {h : am_H} (hW : Wd h) {n : Nat} (h7 : n ≤ 7) : am_D 2 m_X6_startWith [.ref 11, .int (nI n)] h (fun v h2 => v = none ∧ Fx [12, 13] [(11, 0)] h h2 ∧ SB 11 12 13 h2 n (fun s => s) (fun s => s)) := by
  have e1 : (if nI 7 < nI n then nI 7 else nI n) = nI n := if_neg (nI_nlt (by omega) (by omega))
  have e2 : (if nI 0 < nI n then nI n else nI 0) = nI n := by
    by_cases h0 : n = 0
    · subst h0; rfl
    · exact if_pos (nI_lt (by omega) (by omega))
  have k1 : Fx [12, 13] [(11, 0)] h (am_wI h 11 0 (nI n)) := Fx.wI (Or.inr (by decide))
  refine Eq_aln dX6_startWith_0 rfl ?_
  refine Eq_ic (v := nI 0) dX6_startWith_1 rfl ?_
  refine Eq_iln dX6_startWith_2 rfl ?_
  refine Eq_bp (v := nI 7) dX6_startWith_3 rfl ?_
  refine Eq_min dX6_startWith_5 lk_X6_22 js_J9_min_7cf53 in_J9 jc_J9_min_7cf53 (by decide) (Nat.le_of_ble_eq_true rfl) ?_
  refine Eq_max dX6_startWith_8 lk_X6_28 js_J9_max_7cf53 in_J9 jc_J9_max_7cf53 (by decide) (Nat.le_of_ble_eq_true rfl) ?_
  rw [e1, e2]
  refine Eam_x_putI dX6_startWith_11 (fw_X6_9 rfl) (ws_11 hW) (Or.inl rfl) ?_
  refine Eq_ic (v := nI 0) dX6_startWith_14 rfl ?_
  refine Eq_isn dX6_startWith_15 (by decide) ?_
  refine Eam_nl (pc' := 16) (l' := [_, _, _]) rfl rfl ?_
  exact c_start_lp h7 (h0 := h) n 0 (by omega) _ (k1.Wd hW) (wI_e0) k1 (fun s hs => by omega)
set_option maxHeartbeats 2000000 in
theorem c_moveIn {h : am_H} (hW : Wd h) {n : Nat} {g : Bool} {F : Nat → Nat → Nat} (hM : MX 4 5 h n g F) : am_D 3 m_X11_moveIn [.ref 0] h (fun v h2 => v = some (.int (nI n)) ∧ Fx [9, 10, 12, 13, 26] [(11, 0), (16, 3), (37, 0), (0, 13), (1, 1), (29, 7)] h h2 ∧ MB h2 n g F ∧ SB 11 12 13 h2 n (fun s => s) (fun s => s) ∧ KF h2 ∧ am_i h2 16 3 = nI 0 ∧ am_i h2 37 0 = nI 0 ∧ am_i h2 0 13 = nI 0 ∧ am_i h2 1 1 = nI 0) := by
  have h7 := hM.2.2.1
  refine Eq_aln dX11_moveIn_0 rfl ?_
  refine Eq_getR dX11_moveIn_1 fl_X11_48 (ws_0 hW) rfl (wp_0_6 hW) ?_
  refine Eq_aln dX11_moveIn_4 rfl ?_
  refine Eq_getR dX11_moveIn_5 fl_X11_21 (ws_0 hW) rfl (wp_0_1 hW) ?_
  refine Eq_getR dX11_moveIn_8 fl_X11_140 (ws_3 hW) rfl (wp_3_1 hW) ?_
  refine Eq_W1 (N := m_X5_copyFrom) dX11_moveIn_11 lk_X11_143 mV_X5_copyFrom (c_copyM9_4 hW hM) (by decide) (ws_9 hW) rfl (by decide) (Nat.le_of_ble_eq_true rfl) (Nat.le_of_ble_eq_true rfl) (fun vq hq1 hq2 => ?_)
  obtain ⟨rfl, hf1, hM1⟩ := hq2
  have hW1 := hf1.Wd hW
  refine Eq_aln dX11_moveIn_14 rfl ?_
  refine Eq_getR dX11_moveIn_15 fl_X11_55 (ws_0 hW1) rfl (wp_0_7 hW1) ?_
  refine Eq_aln dX11_moveIn_18 rfl ?_
  refine Eq_getR dX11_moveIn_19 fl_X11_48 (ws_0 hW1) rfl (wp_0_6 hW1) ?_
  refine Eq_getI dX11_moveIn_22 fl_X11_146 (ws_9 hW1) rfl (by first | exact hM4.1 | exact hM1.1) ?_
  refine Eq_W1 (N := m_X6_startWith) dX11_moveIn_25 lk_X11_149 mV_X6_startWith (c_start hW1 h7) (by decide) (ws_11 hW1) rfl (by decide) (Nat.le_of_ble_eq_true rfl) (Nat.le_of_ble_eq_true rfl) (fun vq hq1 hq2 => ?_)
  obtain ⟨rfl, hf2, hS2⟩ := hq2
  have hW2 := hf2.Wd hW1
  have k3 : Fx [] [(16, 3), (37, 0), (0, 13), (1, 1)] hq1 (am_wI (am_wI (am_wI (am_wI hq1 16 3 (nI 0)) 37 0 (nI 0)) 0 13 (nI 0)) 1 1 (nI 0)) := (Fx.wI (Or.inr (by decide))).tr ((Fx.wI (Or.inr (by decide))).tr ((Fx.wI (Or.inr (by decide))).tr (Fx.wI (Or.inr (by decide)))))
  have hW3 := k3.Wd hW2
  have hS3 := hS2.fx k3 (by decide)
  refine Eq_aln dX11_moveIn_28 rfl ?_
  refine Eq_getR dX11_moveIn_29 fl_X11_73 (ws_0 hW2) rfl (wp_0_9 hW2) ?_
  refine Eq_V0 (N := m_X10_forgetKnown) dX11_moveIn_32 lk_X11_152 mV_X10_forgetKnown (c_forgetKnown hW2) (by decide) (ws_16 hW2) rfl (by decide) (Nat.le_of_ble_eq_true rfl) (Nat.le_of_ble_eq_true rfl) ?_
  refine Eq_aln dX11_moveIn_35 rfl ?_
  refine Eq_getR dX11_moveIn_36 fl_X11_96 (ws_0 hW2) rfl (wp_0_12 hW2) ?_
  refine Eq_ic (v := nI 0) dX11_moveIn_39 rfl ?_
  refine Eam_x_putI dX11_moveIn_40 (fw_X11_155 rfl) (ws_37 hW2) (Or.inl rfl) ?_
  refine Eq_aln dX11_moveIn_43 rfl ?_
  refine Eq_ic (v := nI 0) dX11_moveIn_44 rfl ?_
  refine Eam_x_putI dX11_moveIn_45 (fw_X11_100 rfl) (ws_0 hW2) (Or.inr ⟨rfl, by first | exact Or.inl rfl | exact Or.inr rfl | assumption⟩) ?_
  refine Eq_aln dX11_moveIn_48 rfl ?_
  refine Eq_getR dX11_moveIn_49 fl_X11_10 (ws_0 hW2) rfl (wp_0_0 hW2) ?_
  refine Eq_ic (v := nI 0) dX11_moveIn_52 rfl ?_
  refine Eam_x_putI dX11_moveIn_53 (fw_X11_125 rfl) (ws_1 hW2) (Or.inl rfl) ?_
  refine Eq_aln dX11_moveIn_56 rfl ?_
  refine Eq_W0 (N := m_X11_forgetAnswers) dX11_moveIn_57 lk_X11_158 mV_X11_forgetAnswers (c_forgetA hW3) (by decide) (ws_0 hW2) rfl (by decide) (Nat.le_of_ble_eq_true rfl) (Nat.le_of_ble_eq_true rfl) (fun vq hq1 hq2 => ?_)
  obtain ⟨rfl, hf4, hK4⟩ := hq2
  have hM4 := ((hM1.fx hf2 (by decide)).fx k3 (by decide)).fx hf4 (by decide)
  have hW4 := hf4.Wd hW3
  refine Eq_aln dX11_moveIn_60 rfl ?_
  refine Eq_getR dX11_moveIn_61 fl_X11_48 (ws_0 hW4) rfl (wp_0_6 hW4) ?_
  refine Eq_getI dX11_moveIn_64 fl_X11_146 (ws_9 hW4) rfl (by first | exact hM4.1 | exact hM1.1) ?_
  refine Eq_ir dX11_moveIn_67 rfl ?_
  exact ⟨rfl, (hf1.mono (A' := [9, 10, 12, 13, 26]) (B' := [(11, 0), (16, 3), (37, 0), (0, 13), (1, 1), (29, 7)]) (by decide) (by decide)).tr ((hf2.mono (by decide) (by decide)).tr ((k3.mono (by decide) (by decide)).tr (hf4.mono (by decide) (by decide)))), hM4.b, hS3.fx hf4 (by decide), hK4, (hf4.i (by decide) (by decide)).trans (by rw [wI_ne (by decide), wI_ne (by decide), wI_ne (by decide), wI_e0]), (hf4.i (by decide) (by decide)).trans (by rw [wI_ne (by decide), wI_ne (by decide), wI_e0]), (hf4.i (by decide) (by decide)).trans (by rw [wI_ne (by decide), wI_e0]), (hf4.i (by decide) (by decide)).trans wI_e0⟩
theorem drs_most {n : Nat} {F : Nat → Nat → Nat} (hB : ∀ i m, m < n → F i m ≤ most i) : ∀ i m, m < n → drs n F i m ≤ most i := fun i m hm => by
  simp only [drs]
  split
  next e => rw [e.1]; decide
  next => exact hB i m hm
set_option maxHeartbeats 2000000 in
theorem r_take3 {n : Nat} {g : Bool} {F : Nat → Nat → Nat} (h7 : n ≤ 7) (hB : ∀ i m, m < n → F i m ≤ most i) {h0 : am_H}  : ∀ k j, j + k = 7 → ∀ h, Wd h → am_i h 50 21 = nI n → am_i h 50 22 = nI (if g = true then 1 else 0) → Fx [62, 63] [(50, 21), (50, 22), (50, 36), (50, 41), (50, 50)] h0 h → (∀ i m, i < 7 → m < n → am_i h 62 (7 * m + i) = nI (drs n F i m)) → (∀ s, s < j → am_i h 63 s = nI s) → am_E 1 m_X12_takeHouse 95 [some (.ref 50), some (.int (nI j))] [] h (fun v h2 => v = some (.int (nI n)) ∧ Fx [62, 63] [(50, 21), (50, 22), (50, 36), (50, 41), (50, 50)] h0 h2 ∧ RB h2 n g (drs n F) (fun s => s) (fun s => s) ∧ am_i h2 50 36 = nI 0 ∧ am_i h2 50 41 = nI 0 ∧ am_i h2 50 50 = nI 0) := by
  intro k
  induction k with
  | zero =>
    intro j hj h hW hn hg hf hc hs
    have hj7 : j = 7 := by omega
    subst hj7
    have hD := drs_most hB
    refine Eq_iln dX12_takeHouse_95 rfl ?_
    refine Eq_bp (v := nI 7) dX12_takeHouse_96 rfl ?_
    refine Et_ic_ge 114 dX12_takeHouse_98 rfl (by exact nI_le (by omega) (by omega)) ?_
    refine Eq_aln dX12_takeHouse_114 rfl ?_
    refine Eq_ic (v := nI 0) dX12_takeHouse_115 rfl ?_
    refine Eam_x_putI dX12_takeHouse_116 (fw_X12_261 rfl) (ws_50 hW) (Or.inl rfl) ?_
    refine Eq_aln dX12_takeHouse_119 rfl ?_
    refine Eq_ic (v := nI 0) dX12_takeHouse_120 rfl ?_
    refine Eam_x_putI dX12_takeHouse_121 (fw_X12_264 rfl) (ws_50 hW) (Or.inl rfl) ?_
    refine Eq_aln dX12_takeHouse_124 rfl ?_
    refine Eq_ic (v := nI 0) dX12_takeHouse_125 rfl ?_
    refine Eam_x_putI dX12_takeHouse_126 (fw_X12_267 rfl) (ws_50 hW) (Or.inr ⟨rfl, by first | exact Or.inl rfl | exact Or.inr rfl | assumption⟩) ?_
    refine Eq_aln dX12_takeHouse_129 rfl ?_
    refine Eq_getI dX12_takeHouse_130 fl_X12_252 (ws_50 hW) rfl hn ?_
    refine Eq_ir dX12_takeHouse_133 rfl ?_
    exact ⟨rfl, hf.tr ((Fx.wI (Or.inr (by decide))).tr ((Fx.wI (Or.inr (by decide))).tr (Fx.wI (Or.inr (by decide))))), ⟨hn, hg, h7, fun i m hi hm => ⟨hc i m hi hm, Nat.le_trans (hD i m hm) (most99 i)⟩, fun m hm => ⟨hD 0 m hm, hD 3 m hm, hD 4 m hm, hD 1 m hm, hD 5 m hm⟩, fun s hs2 => ⟨hs s (by omega), hs2, rfl⟩, fun m hm => ⟨hm, rfl⟩⟩, by rw [wI_o (by decide), wI_o (by decide), wI_e0], by rw [wI_o (by decide), wI_e0], wI_e0⟩
  | succ k ih =>
    intro j hj h hW hn hg hf hc hs
    have k1 : Fx [62, 63] [(50, 21), (50, 22), (50, 36), (50, 41), (50, 50)] h (am_wI h 63 j (nI j)) := Fx.wI (Or.inl (by decide))
    have k2 := ih (j + 1) (by omega) _ (k1.Wd hW) hn hg (hf.tr k1) hc (fun s hs2 => by
      rw [wI_eq]
      by_cases e : s = j
      · rw [if_pos e, e]
      · rw [if_neg e]; exact hs s (by omega))
    refine Eq_iln dX12_takeHouse_95 rfl ?_
    refine Eq_bp (v := nI 7) dX12_takeHouse_96 rfl ?_
    refine Ef_ic_ge dX12_takeHouse_98 (tgt := 114) rfl (by exact nI_ge (by omega) (by omega)) ?_
    refine Eq_aln dX12_takeHouse_101 rfl ?_
    refine Eq_getR dX12_takeHouse_102 fl_X12_46 (ws_50 hW) rfl (wp_50_23 hW) ?_
    refine Eq_iln dX12_takeHouse_105 rfl ?_
    refine Eq_iln dX12_takeHouse_106 rfl ?_
    refine Eq_ast dX12_takeHouse_107 (ws_63 hW) (by omega) (by omega) ?_
    refine Eq_inc dX12_takeHouse_108 rfl (by decide) ?_
    refine Eam_nl (pc' := 111) (l' := [_, _]) rfl rfl ?_
    refine Eam_x_goto (tgt := 95) dX12_takeHouse_111 rfl ?_
    exact k2
set_option maxHeartbeats 2000000 in
theorem r_of62 {h : am_H} (hW : Wd h) {m i : Nat} {v : Int32} (hm : m < 7) (hi : i < 7) (hv : am_i h 62 (7 * m + i) = v) : am_C 0 m_X12_of [.ref 50, .int (nI m), .int (nI i)] h (some (.int v), h) := by
  refine q_aln dX12_of_0 rfl ?_
  refine q_getR dX12_of_1 fl_X12_43 (ws_50 hW) rfl (wp_50_20 hW) ?_
  refine q_bp (v := nI 7) dX12_of_4 rfl ?_
  refine q_iln dX12_of_6 rfl ?_
  first | refine q_mul dX12_of_7 ?_ | refine am_x_pu dX12_of_7 rfl ?_
  refine q_iln dX12_of_8 rfl ?_
  first | refine q_add dX12_of_9 ?_ | refine am_x_pu dX12_of_9 rfl ?_
  refine q_ald dX12_of_10 (ws_62 hW) (by omega) (by omega) hv ?_
  refine q_ir dX12_of_11 rfl ?_
  rfl
set_option maxHeartbeats 2000000 in
theorem r_take2 {n : Nat} {g : Bool} {F : Nat → Nat → Nat} (h7 : n ≤ 7) (hB : ∀ i m, m < n → F i m ≤ most i) {h0 : am_H}  : ∀ k j, j + k = n → ∀ h, Wd h → am_i h 50 21 = nI n → am_i h 50 22 = nI (if g = true then 1 else 0) → Fx [62, 63] [(50, 21), (50, 22), (50, 36), (50, 41), (50, 50)] h0 h → (∀ i m, i < 7 → m < n → am_i h 62 (7 * m + i) = nI (if i = 4 ∧ m < j ∧ n ≤ F 4 m then 7 else F i m)) → am_E 1 m_X12_takeHouse 44 [some (.ref 50), some (.int (nI j))] [] h (fun v h2 => v = some (.int (nI n)) ∧ Fx [62, 63] [(50, 21), (50, 22), (50, 36), (50, 41), (50, 50)] h0 h2 ∧ RB h2 n g (drs n F) (fun s => s) (fun s => s) ∧ am_i h2 50 36 = nI 0 ∧ am_i h2 50 41 = nI 0 ∧ am_i h2 50 50 = nI 0) := by
  intro k
  induction k with
  | zero =>
    intro j hj h hW hn hg hf hc
    have hjn : j = n := by omega
    subst hjn
    refine Eq_iln dX12_takeHouse_44 rfl ?_
    refine Eq_aln dX12_takeHouse_45 rfl ?_
    refine Eq_getI dX12_takeHouse_46 fl_X12_252 (ws_50 hW) rfl hn ?_
    refine Et_ic_ge 93 dX12_takeHouse_49 rfl (by exact nI_le (by omega) (by omega)) ?_
    refine Eq_ic (v := nI 0) dX12_takeHouse_93 rfl ?_
    refine Eq_isn dX12_takeHouse_94 (by decide) ?_
    refine Eam_nl (pc' := 95) (l' := [_, _]) rfl rfl ?_
    exact r_take3 h7 hB 7 0 (by omega) h hW hn hg hf (fun i m hi hm => by rw [hc i m hi hm]; simp only [drs]; congr 1; by_cases e : i = 4 ∧ j ≤ F 4 m; (rw [if_pos ⟨e.1, hm, e.2⟩, if_pos e]); (rw [if_neg (fun z => e ⟨z.1, z.2.2⟩), if_neg e])) (fun s hs => by omega)
  | succ k ih =>
    intro j hj h hW hn hg hf hc
    have hBj : F 4 j ≤ 7 := hB 4 j (by omega)
    have hv : am_i h 62 (7 * j + 4) = nI (F 4 j) := by rw [hc 4 j (by omega) (by omega), if_neg (by omega)]
    have k2 : ∀ v, v = (if n ≤ F 4 j then 7 else F 4 j) → am_E 1 m_X12_takeHouse 44 [some (.ref 50), some (.int (nI (j + 1)))] [] (am_wI h 62 (7 * j + 4) (nI v)) (fun v h2 => v = some (.int (nI n)) ∧ Fx [62, 63] [(50, 21), (50, 22), (50, 36), (50, 41), (50, 50)] h0 h2 ∧ RB h2 n g (drs n F) (fun s => s) (fun s => s) ∧ am_i h2 50 36 = nI 0 ∧ am_i h2 50 41 = nI 0 ∧ am_i h2 50 50 = nI 0) := fun v hvv => by
      have k1 : Fx [62, 63] [(50, 21), (50, 22), (50, 36), (50, 41), (50, 50)] h (am_wI h 62 (7 * j + 4) (nI v)) := Fx.wI (Or.inl (by decide))
      refine ih (j + 1) (by omega) _ (k1.Wd hW) hn hg (hf.tr k1) (fun i m hi hm => ?_)
      rw [wI_eq, hc i m hi hm]
      by_cases e : 7 * m + i = 7 * j + 4
      · have e1 : i = 4 := by omega
        have e2 : m = j := by omega
        subst e2
        subst e1
        rw [if_pos e, hvv]
        congr 1
        by_cases e3 : n ≤ F 4 m
        · rw [if_pos e3, if_pos ⟨rfl, by omega, e3⟩]
        · rw [if_neg e3, if_neg (fun z => e3 z.2.2)]
      · rw [if_neg e]
        congr 1
        by_cases e1 : i = 4 ∧ m < j ∧ n ≤ F 4 m
        · rw [if_pos e1, if_pos ⟨e1.1, by omega, e1.2.2⟩]
        · rw [if_neg e1, if_neg (fun z => by
            by_cases e2 : m = j
            · exact e (by omega)
            · exact e1 ⟨z.1, by omega, z.2.2⟩)]
    by_cases hlt : F 4 j < n
    · refine Eq_iln dX12_takeHouse_44 rfl ?_
      refine Eq_aln dX12_takeHouse_45 rfl ?_
      refine Eq_getI dX12_takeHouse_46 fl_X12_252 (ws_50 hW) rfl hn ?_
      refine Ef_ic_ge dX12_takeHouse_49 (tgt := 93) rfl (by exact nI_ge (by omega) (by omega)) ?_
      refine Eq_aln dX12_takeHouse_52 rfl ?_
      refine Eq_getR dX12_takeHouse_53 fl_X12_43 (ws_50 hW) rfl (wp_50_20 hW) ?_
      refine Eq_bp (v := nI 7) dX12_takeHouse_56 rfl ?_
      refine Eq_iln dX12_takeHouse_58 rfl ?_
      first | refine Eq_mul dX12_takeHouse_59 ?_ | refine Eam_x_pu dX12_takeHouse_59 rfl ?_
      refine Eq_ic (v := nI 4) dX12_takeHouse_60 rfl ?_
      first | refine Eq_add dX12_takeHouse_61 ?_ | refine Eam_x_pu dX12_takeHouse_61 rfl ?_
      refine Eq_aln dX12_takeHouse_62 rfl ?_
      refine Eq_iln dX12_takeHouse_63 rfl ?_
      refine Eq_ic (v := nI 4) dX12_takeHouse_64 rfl ?_
      refine Eq_V2 (N := m_X12_of) dX12_takeHouse_65 lk_X12_258 mV_X12_of (r_of62 hW (by omega) (by omega) hv) (by decide) (ws_50 hW) rfl (by decide) (Nat.le_of_ble_eq_true rfl) (Nat.le_of_ble_eq_true rfl) ?_
      refine Eq_aln dX12_takeHouse_68 rfl ?_
      refine Eq_getI dX12_takeHouse_69 fl_X12_252 (ws_50 hW) rfl hn ?_
      refine Ef_ic_ge dX12_takeHouse_72 (tgt := 84) rfl (by exact nI_ge (by omega) (by omega)) ?_
      refine Eq_aln dX12_takeHouse_75 rfl ?_
      refine Eq_iln dX12_takeHouse_76 rfl ?_
      refine Eq_ic (v := nI 4) dX12_takeHouse_77 rfl ?_
      refine Eq_V2 (N := m_X12_of) dX12_takeHouse_78 lk_X12_258 mV_X12_of (r_of62 hW (by omega) (by omega) hv) (by decide) (ws_50 hW) rfl (by decide) (Nat.le_of_ble_eq_true rfl) (Nat.le_of_ble_eq_true rfl) ?_
      refine Eam_x_goto (tgt := 86) dX12_takeHouse_81 rfl ?_
      refine Eq_ast dX12_takeHouse_86 (ws_62 hW) (by omega) (by omega) ?_
      refine Eq_inc dX12_takeHouse_87 rfl (by decide) ?_
      refine Eam_nl (pc' := 90) (l' := [_, _]) rfl rfl ?_
      refine Eam_x_goto (tgt := 44) dX12_takeHouse_90 rfl ?_
      exact k2 _ (by rw [if_neg (by omega)])
    · refine Eq_iln dX12_takeHouse_44 rfl ?_
      refine Eq_aln dX12_takeHouse_45 rfl ?_
      refine Eq_getI dX12_takeHouse_46 fl_X12_252 (ws_50 hW) rfl hn ?_
      refine Ef_ic_ge dX12_takeHouse_49 (tgt := 93) rfl (by exact nI_ge (by omega) (by omega)) ?_
      refine Eq_aln dX12_takeHouse_52 rfl ?_
      refine Eq_getR dX12_takeHouse_53 fl_X12_43 (ws_50 hW) rfl (wp_50_20 hW) ?_
      refine Eq_bp (v := nI 7) dX12_takeHouse_56 rfl ?_
      refine Eq_iln dX12_takeHouse_58 rfl ?_
      first | refine Eq_mul dX12_takeHouse_59 ?_ | refine Eam_x_pu dX12_takeHouse_59 rfl ?_
      refine Eq_ic (v := nI 4) dX12_takeHouse_60 rfl ?_
      first | refine Eq_add dX12_takeHouse_61 ?_ | refine Eam_x_pu dX12_takeHouse_61 rfl ?_
      refine Eq_aln dX12_takeHouse_62 rfl ?_
      refine Eq_iln dX12_takeHouse_63 rfl ?_
      refine Eq_ic (v := nI 4) dX12_takeHouse_64 rfl ?_
      refine Eq_V2 (N := m_X12_of) dX12_takeHouse_65 lk_X12_258 mV_X12_of (r_of62 hW (by omega) (by omega) hv) (by decide) (ws_50 hW) rfl (by decide) (Nat.le_of_ble_eq_true rfl) (Nat.le_of_ble_eq_true rfl) ?_
      refine Eq_aln dX12_takeHouse_68 rfl ?_
      refine Eq_getI dX12_takeHouse_69 fl_X12_252 (ws_50 hW) rfl hn ?_
      refine Et_ic_ge 84 dX12_takeHouse_72 rfl (by exact nI_le (by omega) (by omega)) ?_
      refine Eq_bp (v := nI 7) dX12_takeHouse_84 rfl ?_
      refine Eq_ast dX12_takeHouse_86 (ws_62 hW) (by omega) (by omega) ?_
      refine Eq_inc dX12_takeHouse_87 rfl (by decide) ?_
      refine Eam_nl (pc' := 90) (l' := [_, _]) rfl rfl ?_
      refine Eam_x_goto (tgt := 44) dX12_takeHouse_90 rfl ?_
      exact k2 _ (by rw [if_pos (by omega)])
set_option maxHeartbeats 2000000 in
theorem r_take1 {n : Nat} {g : Bool} {F : Nat → Nat → Nat} (h7 : n ≤ 7) (hB : ∀ i m, m < n → F i m ≤ most i) {h0 : am_H}  : ∀ k j, j + k = 49 → ∀ h, Wd h → am_i h 50 21 = nI n → am_i h 50 22 = nI (if g = true then 1 else 0) → Fx [62, 63] [(50, 21), (50, 22), (50, 36), (50, 41), (50, 50)] h0 h → (∀ i m, i < 7 → m < n → am_i h 61 (7 * m + i) = nI (F i m)) → (∀ q, q < j → am_i h 62 q = am_i h 61 q) → am_E 1 m_X12_takeHouse 18 [some (.ref 50), some (.int (nI j))] [] h (fun v h2 => v = some (.int (nI n)) ∧ Fx [62, 63] [(50, 21), (50, 22), (50, 36), (50, 41), (50, 50)] h0 h2 ∧ RB h2 n g (drs n F) (fun s => s) (fun s => s) ∧ am_i h2 50 36 = nI 0 ∧ am_i h2 50 41 = nI 0 ∧ am_i h2 50 50 = nI 0) := by
  intro k
  induction k with
  | zero =>
    intro j hj h hW hn hg hf hc hq
    have hj7 : j = 49 := by omega
    subst hj7
    refine Eq_iln dX12_takeHouse_18 rfl ?_
    refine Eq_bp (v := nI 49) dX12_takeHouse_19 rfl ?_
    refine Et_ic_ge 42 dX12_takeHouse_21 rfl (by exact nI_le (by omega) (by omega)) ?_
    refine Eq_ic (v := nI 0) dX12_takeHouse_42 rfl ?_
    refine Eq_isn dX12_takeHouse_43 (by decide) ?_
    refine Eam_nl (pc' := 44) (l' := [_, _]) rfl rfl ?_
    exact r_take2 h7 hB n 0 (by omega) h hW hn hg hf (fun i m hi hm => by rw [hq _ (by omega), hc i m hi hm, if_neg (by omega)])
  | succ k ih =>
    intro j hj h hW hn hg hf hc hq
    have k1 : Fx [62, 63] [(50, 21), (50, 22), (50, 36), (50, 41), (50, 50)] h (am_wI h 62 j (am_i h 61 j)) := Fx.wI (Or.inl (by decide))
    have k2 := ih (j + 1) (by omega) _ (k1.Wd hW) hn hg (hf.tr k1) hc (fun q hq2 => by
      rw [wI_ne (r := 62) (r' := 61) (by decide), wI_eq]
      by_cases e : q = j
      · rw [if_pos e, e]
      · rw [if_neg e]; exact hq q (by omega))
    refine Eq_iln dX12_takeHouse_18 rfl ?_
    refine Eq_bp (v := nI 49) dX12_takeHouse_19 rfl ?_
    refine Ef_ic_ge dX12_takeHouse_21 (tgt := 42) rfl (by exact nI_ge (by omega) (by omega)) ?_
    refine Eq_aln dX12_takeHouse_24 rfl ?_
    refine Eq_getR dX12_takeHouse_25 fl_X12_43 (ws_50 hW) rfl (wp_50_20 hW) ?_
    refine Eq_iln dX12_takeHouse_28 rfl ?_
    refine Eq_aln dX12_takeHouse_29 rfl ?_
    refine Eq_getR dX12_takeHouse_30 fl_X12_40 (ws_50 hW) rfl (wp_50_17 hW) ?_
    refine Eq_iln dX12_takeHouse_33 rfl ?_
    refine Eq_ald dX12_takeHouse_34 (ws_61 hW) (by omega) (by omega) rfl ?_
    refine Eq_ast dX12_takeHouse_35 (ws_62 hW) (by omega) (by omega) ?_
    refine Eq_inc dX12_takeHouse_36 rfl (by decide) ?_
    refine Eam_nl (pc' := 39) (l' := [_, _]) rfl rfl ?_
    refine Eam_x_goto (tgt := 18) dX12_takeHouse_39 rfl ?_
    exact k2
set_option maxHeartbeats 2000000 in
theorem r_takeHouse {h : am_H} (hW : Wd h) {n : Nat} {g : Bool} {F : Nat → Nat → Nat} (hD : RD h n g F) (hB : ∀ i m, m < n → F i m ≤ most i) : am_D 1 m_X12_takeHouse [.ref 50] h (fun v h2 => v = some (.int (nI n)) ∧ Fx [62, 63] [(50, 21), (50, 22), (50, 36), (50, 41), (50, 50)] h h2 ∧ RB h2 n g (drs n F) (fun s => s) (fun s => s) ∧ am_i h2 50 36 = nI 0 ∧ am_i h2 50 41 = nI 0 ∧ am_i h2 50 50 = nI 0) := by
  have h7 := hD.2.2.1
  have k1 : Fx [62, 63] [(50, 21), (50, 22), (50, 36), (50, 41), (50, 50)] h (am_wI (am_wI h 50 21 (nI n)) 50 22 (nI (if g = true then 1 else 0))) := (Fx.wI (Or.inr (by decide))).tr (Fx.wI (Or.inr (by decide)))
  refine Eq_aln dX12_takeHouse_0 rfl ?_
  refine Eq_aln dX12_takeHouse_1 rfl ?_
  refine Eq_getI dX12_takeHouse_2 fl_X12_219 (ws_50 hW) rfl (by first | exact hD.1 | exact hD.2.1) ?_
  refine Eam_x_putI dX12_takeHouse_5 (fw_X12_252 rfl) (ws_50 hW) (Or.inl rfl) ?_
  refine Eq_aln dX12_takeHouse_8 rfl ?_
  refine Eq_aln dX12_takeHouse_9 rfl ?_
  refine Eq_getI dX12_takeHouse_10 fl_X12_239 (ws_50 hW) rfl (by first | exact hD.1 | exact hD.2.1) ?_
  refine Eam_x_putI dX12_takeHouse_13 (fw_X12_255 rfl) (ws_50 hW) (Or.inr ⟨rfl, b01 _⟩) ?_
  refine Eq_ic (v := nI 0) dX12_takeHouse_16 rfl ?_
  refine Eq_isn dX12_takeHouse_17 (by decide) ?_
  refine Eam_nl (pc' := 18) (l' := [_, _]) rfl rfl ?_
  exact r_take1 h7 hB (h0 := h) 49 0 (by omega) _ (k1.Wd hW) (by rw [wI_o (by decide), wI_e0]) wI_e0 k1 hD.2.2.2 (fun q hq => by omega)
