/-! images and counts -/
def MX (r a : Nat) (h : am_H) (n : Nat) (g : Bool) (F : Nat → Nat → Nat) : Prop := am_i h r 0 = nI n ∧ am_i h r 1 = nI (if g = true then 1 else 0) ∧ n ≤ 7 ∧ (∀ i m, i < 7 → m < n → am_i h a (i * 7 + m) = nI (F i m) ∧ F i m ≤ 99) ∧ ∀ m, m < n → F 0 m ≤ 1 ∧ F 3 m ≤ 3 ∧ F 4 m ≤ 7 ∧ F 1 m ≤ 20 ∧ F 5 m ≤ 20
theorem MB.x {h : am_H} {n : Nat} {g : Bool} {F : Nat → Nat → Nat} (m : MB h n g F) : MX 9 10 h n g F := m
theorem MX.b {h : am_H} {n : Nat} {g : Bool} {F : Nat → Nat → Nat} (m : MX 9 10 h n g F) : MB h n g F := m
theorem MX.fx {A : List Nat} {B : List (Nat × Nat)} {h h' : am_H} {r x n : Nat} {g : Bool} {F : Nat → Nat → Nat} (m : MX r x h n g F) (a : Fx A B h h') (ok : r ∉ A ∧ x ∉ A ∧ (r, 0) ∉ B ∧ (r, 1) ∉ B ∧ x ∉ B.map Prod.fst) : MX r x h' n g F := by
  unfold MX at m ⊢
  rw [a.i ok.1 ok.2.2.1, a.i ok.1 ok.2.2.2.1, a.ia ok.2.1 ok.2.2.2.2]
  exact m
theorem rI_eq {h : am_H} {r : Nat} {f : Nat → Int32} : am_i (am_rI h r f) r = f := am_ro_eq
theorem rI_ne {h : am_H} {r r' : Nat} {f : Nat → Int32} (e : r' ≠ r) : am_i (am_rI h r f) r' = am_i h r' := am_ro_ne e
theorem rL_eq {h : am_H} {r : Nat} {f : Nat → Int64} : am_l (am_rL h r f) r = f := am_ro_eq
theorem rL_ne {h : am_H} {r r' : Nat} {f : Nat → Int64} (e : r' ≠ r) : am_l (am_rL h r f) r' = am_l h r' := am_ro_ne e
theorem rLi {h : am_H} {r : Nat} {f : Nat → Int64} : am_i (am_rL h r f) = am_i h := rfl
theorem rIl {h : am_H} {r : Nat} {f : Nat → Int32} : am_l (am_rI h r f) = am_l h := rfl
theorem cpy0 {α : Type} {f g : Nat → α} {n k : Nat} (h : k < n) : va_cpy f g 0 0 n k = f k := by
  unfold va_cpy
  rw [if_pos (by omega)]
  congr 1
  omega
theorem wI_e0 {h : am_H} {r j : Nat} {v : Int32} : am_i (am_wI h r j v) r j = v := by rw [wI_eq, if_pos rfl]
theorem wI_o {h : am_H} {r j k : Nat} {v : Int32} (e : k ≠ j) : am_i (am_wI h r j v) r k = am_i h r k := by rw [wI_eq, if_neg e]
theorem wL_e0 {h : am_H} {r j : Nat} {v : Int64} : am_l (am_wL h r j v) r j = v := by rw [wL_eq, if_pos rfl]
set_option maxHeartbeats 2000000 in
theorem c_copyM41_9 {h : am_H} (hW : Wd h) {n : Nat} {g : Bool} {F : Nat → Nat → Nat} (hM : MX 9 10 h n g F) : am_D 1 m_X5_copyFrom [.ref 41, .ref 9] h (fun v h2 => v = none ∧ Fx [41, 42] [] h h2 ∧ MX 41 42 h2 n g F) := by
  obtain ⟨hn, hg, h7, hF, hB⟩ := id hM
  refine Eq_aln dX5_copyFrom_0 rfl ?_
  refine Eq_aln dX5_copyFrom_1 rfl ?_
  refine Eq_getI dX5_copyFrom_2 fl_X5_9 (ws_9 hW) rfl (by first | exact hn | exact hg) ?_
  refine Eam_x_putI dX5_copyFrom_5 (fw_X5_9 rfl) (ws_41 hW) (Or.inl rfl) ?_
  refine Eq_aln dX5_copyFrom_8 rfl ?_
  refine Eq_aln dX5_copyFrom_9 rfl ?_
  refine Eq_getI dX5_copyFrom_10 fl_X5_15 (ws_9 hW) rfl (by first | exact hn | exact hg) ?_
  refine Eam_x_putI dX5_copyFrom_13 (fw_X5_15 rfl) (ws_41 hW) (Or.inr ⟨rfl, b01 _⟩) ?_
  refine Eq_aln dX5_copyFrom_16 rfl ?_
  refine Eq_getR dX5_copyFrom_17 fl_X5_19 (ws_9 hW) rfl (wp_9_2 hW) ?_
  refine Eq_ic (v := nI 0) dX5_copyFrom_20 rfl ?_
  refine Eq_aln dX5_copyFrom_21 rfl ?_
  refine Eq_getR dX5_copyFrom_22 fl_X5_19 (ws_41 hW) rfl (wp_41_2 hW) ?_
  refine Eq_ic (v := nI 0) dX5_copyFrom_25 rfl ?_
  refine Eq_aln dX5_copyFrom_26 rfl ?_
  refine Eq_getR dX5_copyFrom_27 fl_X5_19 (ws_41 hW) rfl (wp_41_2 hW) ?_
  refine Eam_x_alen dX5_copyFrom_30 (ws_42 hW) (by decide) ?_
  refine Eam_x_cpI dX5_copyFrom_31 (by decide) (Nat.le_of_ble_eq_true rfl) lc_X5_33 wd_an wd_as wd_ai (ws_10 hW) (ws_42 hW) (by decide +kernel) (by decide +kernel) (by decide +kernel) (by decide +kernel) (by decide +kernel) ?_
  refine Eq_vr dX5_copyFrom_34 rfl ?_
  refine ⟨rfl, ((Fx.wI (Or.inl (by decide))).tr (Fx.wI (Or.inl (by decide)))).tr (Fx.rI (by decide)), ?_, ?_, h7, fun i m hi hm => ?_, hB⟩
  · rw [rI_ne (by decide), wI_o (by decide), wI_e0]
  · rw [rI_ne (by decide), wI_e0]
  · have e : va_cpy (am_i h 10) (am_i h 42) 0 0 49 (i * 7 + m) = am_i h 10 (i * 7 + m) := cpy0 (by omega)
    rw [rI_eq]
    exact ⟨e.trans (hF i m hi hm).1, (hF i m hi hm).2⟩
set_option maxHeartbeats 2000000 in
theorem c_copyM9_41 {h : am_H} (hW : Wd h) {n : Nat} {g : Bool} {F : Nat → Nat → Nat} (hM : MX 41 42 h n g F) : am_D 1 m_X5_copyFrom [.ref 9, .ref 41] h (fun v h2 => v = none ∧ Fx [9, 10] [] h h2 ∧ MX 9 10 h2 n g F) := by
  obtain ⟨hn, hg, h7, hF, hB⟩ := id hM
  refine Eq_aln dX5_copyFrom_0 rfl ?_
  refine Eq_aln dX5_copyFrom_1 rfl ?_
  refine Eq_getI dX5_copyFrom_2 fl_X5_9 (ws_41 hW) rfl (by first | exact hn | exact hg) ?_
  refine Eam_x_putI dX5_copyFrom_5 (fw_X5_9 rfl) (ws_9 hW) (Or.inl rfl) ?_
  refine Eq_aln dX5_copyFrom_8 rfl ?_
  refine Eq_aln dX5_copyFrom_9 rfl ?_
  refine Eq_getI dX5_copyFrom_10 fl_X5_15 (ws_41 hW) rfl (by first | exact hn | exact hg) ?_
  refine Eam_x_putI dX5_copyFrom_13 (fw_X5_15 rfl) (ws_9 hW) (Or.inr ⟨rfl, b01 _⟩) ?_
  refine Eq_aln dX5_copyFrom_16 rfl ?_
  refine Eq_getR dX5_copyFrom_17 fl_X5_19 (ws_41 hW) rfl (wp_41_2 hW) ?_
  refine Eq_ic (v := nI 0) dX5_copyFrom_20 rfl ?_
  refine Eq_aln dX5_copyFrom_21 rfl ?_
  refine Eq_getR dX5_copyFrom_22 fl_X5_19 (ws_9 hW) rfl (wp_9_2 hW) ?_
  refine Eq_ic (v := nI 0) dX5_copyFrom_25 rfl ?_
  refine Eq_aln dX5_copyFrom_26 rfl ?_
  refine Eq_getR dX5_copyFrom_27 fl_X5_19 (ws_9 hW) rfl (wp_9_2 hW) ?_
  refine Eam_x_alen dX5_copyFrom_30 (ws_10 hW) (by decide) ?_
  refine Eam_x_cpI dX5_copyFrom_31 (by decide) (Nat.le_of_ble_eq_true rfl) lc_X5_33 wd_an wd_as wd_ai (ws_42 hW) (ws_10 hW) (by decide +kernel) (by decide +kernel) (by decide +kernel) (by decide +kernel) (by decide +kernel) ?_
  refine Eq_vr dX5_copyFrom_34 rfl ?_
  refine ⟨rfl, ((Fx.wI (Or.inl (by decide))).tr (Fx.wI (Or.inl (by decide)))).tr (Fx.rI (by decide)), ?_, ?_, h7, fun i m hi hm => ?_, hB⟩
  · rw [rI_ne (by decide), wI_o (by decide), wI_e0]
  · rw [rI_ne (by decide), wI_e0]
  · have e : va_cpy (am_i h 42) (am_i h 10) 0 0 49 (i * 7 + m) = am_i h 42 (i * 7 + m) := cpy0 (by omega)
    rw [rI_eq]
    exact ⟨e.trans (hF i m hi hm).1, (hF i m hi hm).2⟩
set_option maxHeartbeats 2000000 in
theorem c_copyM9_4 {h : am_H} (hW : Wd h) {n : Nat} {g : Bool} {F : Nat → Nat → Nat} (hM : MX 4 5 h n g F) : am_D 1 m_X5_copyFrom [.ref 9, .ref 4] h (fun v h2 => v = none ∧ Fx [9, 10] [] h h2 ∧ MX 9 10 h2 n g F) := by
  obtain ⟨hn, hg, h7, hF, hB⟩ := id hM
  refine Eq_aln dX5_copyFrom_0 rfl ?_
  refine Eq_aln dX5_copyFrom_1 rfl ?_
  refine Eq_getI dX5_copyFrom_2 fl_X5_9 (ws_4 hW) rfl (by first | exact hn | exact hg) ?_
  refine Eam_x_putI dX5_copyFrom_5 (fw_X5_9 rfl) (ws_9 hW) (Or.inl rfl) ?_
  refine Eq_aln dX5_copyFrom_8 rfl ?_
  refine Eq_aln dX5_copyFrom_9 rfl ?_
  refine Eq_getI dX5_copyFrom_10 fl_X5_15 (ws_4 hW) rfl (by first | exact hn | exact hg) ?_
  refine Eam_x_putI dX5_copyFrom_13 (fw_X5_15 rfl) (ws_9 hW) (Or.inr ⟨rfl, b01 _⟩) ?_
  refine Eq_aln dX5_copyFrom_16 rfl ?_
  refine Eq_getR dX5_copyFrom_17 fl_X5_19 (ws_4 hW) rfl (wp_4_2 hW) ?_
  refine Eq_ic (v := nI 0) dX5_copyFrom_20 rfl ?_
  refine Eq_aln dX5_copyFrom_21 rfl ?_
  refine Eq_getR dX5_copyFrom_22 fl_X5_19 (ws_9 hW) rfl (wp_9_2 hW) ?_
  refine Eq_ic (v := nI 0) dX5_copyFrom_25 rfl ?_
  refine Eq_aln dX5_copyFrom_26 rfl ?_
  refine Eq_getR dX5_copyFrom_27 fl_X5_19 (ws_9 hW) rfl (wp_9_2 hW) ?_
  refine Eam_x_alen dX5_copyFrom_30 (ws_10 hW) (by decide) ?_
  refine Eam_x_cpI dX5_copyFrom_31 (by decide) (Nat.le_of_ble_eq_true rfl) lc_X5_33 wd_an wd_as wd_ai (ws_5 hW) (ws_10 hW) (by decide +kernel) (by decide +kernel) (by decide +kernel) (by decide +kernel) (by decide +kernel) ?_
  refine Eq_vr dX5_copyFrom_34 rfl ?_
  refine ⟨rfl, ((Fx.wI (Or.inl (by decide))).tr (Fx.wI (Or.inl (by decide)))).tr (Fx.rI (by decide)), ?_, ?_, h7, fun i m hi hm => ?_, hB⟩
  · rw [rI_ne (by decide), wI_o (by decide), wI_e0]
  · rw [rI_ne (by decide), wI_e0]
  · have e : va_cpy (am_i h 5) (am_i h 10) 0 0 49 (i * 7 + m) = am_i h 5 (i * 7 + m) := cpy0 (by omega)
    rw [rI_eq]
    exact ⟨e.trans (hF i m hi hm).1, (hF i m hi hm).2⟩
set_option maxHeartbeats 2000000 in
theorem c_copyS43_11 {h : am_H} (hW : Wd h) {n : Nat} {S T : Nat → Nat} (hS : SB 11 12 13 h n S T) : am_D 1 m_X6_copyFrom [.ref 43, .ref 11] h (fun v h2 => v = none ∧ Fx [43, 44, 45] [] h h2 ∧ SB 43 44 45 h2 n S T) := by
  obtain ⟨hn, h7, hA, hT⟩ := id hS
  refine Eq_aln dX6_copyFrom_0 rfl ?_
  refine Eq_aln dX6_copyFrom_1 rfl ?_
  refine Eq_getI dX6_copyFrom_2 fl_X6_9 (ws_11 hW) rfl hn ?_
  refine Eam_x_putI dX6_copyFrom_5 (fw_X6_9 rfl) (ws_43 hW) (Or.inl rfl) ?_
  refine Eq_aln dX6_copyFrom_8 rfl ?_
  refine Eq_getR dX6_copyFrom_9 fl_X6_15 (ws_11 hW) rfl (wp_11_1 hW) ?_
  refine Eq_ic (v := nI 0) dX6_copyFrom_12 rfl ?_
  refine Eq_aln dX6_copyFrom_13 rfl ?_
  refine Eq_getR dX6_copyFrom_14 fl_X6_15 (ws_43 hW) rfl (wp_43_1 hW) ?_
  refine Eq_ic (v := nI 0) dX6_copyFrom_17 rfl ?_
  refine Eq_aln dX6_copyFrom_18 rfl ?_
  refine Eq_getR dX6_copyFrom_19 fl_X6_15 (ws_43 hW) rfl (wp_43_1 hW) ?_
  refine Eam_x_alen dX6_copyFrom_22 (ws_44 hW) (by decide) ?_
  refine Eam_x_cpI dX6_copyFrom_23 (by decide) (Nat.le_of_ble_eq_true rfl) lc_X6_35 wd_an wd_as wd_ai (ws_12 hW) (ws_44 hW) (by decide +kernel) (by decide +kernel) (by decide +kernel) (by decide +kernel) (by decide +kernel) ?_
  refine Eq_aln dX6_copyFrom_26 rfl ?_
  refine Eq_getR dX6_copyFrom_27 fl_X6_19 (ws_11 hW) rfl (wp_11_2 hW) ?_
  refine Eq_ic (v := nI 0) dX6_copyFrom_30 rfl ?_
  refine Eq_aln dX6_copyFrom_31 rfl ?_
  refine Eq_getR dX6_copyFrom_32 fl_X6_19 (ws_43 hW) rfl (wp_43_2 hW) ?_
  refine Eq_ic (v := nI 0) dX6_copyFrom_35 rfl ?_
  refine Eq_aln dX6_copyFrom_36 rfl ?_
  refine Eq_getR dX6_copyFrom_37 fl_X6_19 (ws_43 hW) rfl (wp_43_2 hW) ?_
  refine Eam_x_alen dX6_copyFrom_40 (ws_45 hW) (by decide) ?_
  refine Eam_x_cpI dX6_copyFrom_41 (by decide) (Nat.le_of_ble_eq_true rfl) lc_X6_35 wd_an wd_as wd_ai (ws_13 hW) (ws_45 hW) (by decide +kernel) (by decide +kernel) (by decide +kernel) (by decide +kernel) (by decide +kernel) ?_
  refine Eq_vr dX6_copyFrom_44 rfl ?_
  refine ⟨rfl, ((Fx.wI (Or.inl (by decide))).tr (Fx.rI (by decide))).tr (Fx.rI (by decide)), ?_, h7, fun s hs => ?_, fun m hm => ?_⟩
  · rw [rI_ne (by decide), rI_ne (by decide), wI_e0]
  · have e : va_cpy (am_i h 12) (am_i h 44) 0 0 7 s = am_i h 12 s := cpy0 (by omega)
    rw [rI_ne (by decide), rI_eq]
    exact ⟨e.trans (hA s hs).1, (hA s hs).2⟩
  · have e : va_cpy (am_i h 13) (am_i h 45) 0 0 7 m = am_i h 13 m := cpy0 (by omega)
    rw [rI_eq]
    exact ⟨e.trans (hT m hm).1, (hT m hm).2⟩
set_option maxHeartbeats 2000000 in
theorem c_copyS11_43 {h : am_H} (hW : Wd h) {n : Nat} {S T : Nat → Nat} (hS : SB 43 44 45 h n S T) : am_D 1 m_X6_copyFrom [.ref 11, .ref 43] h (fun v h2 => v = none ∧ Fx [11, 12, 13] [] h h2 ∧ SB 11 12 13 h2 n S T) := by
  obtain ⟨hn, h7, hA, hT⟩ := id hS
  refine Eq_aln dX6_copyFrom_0 rfl ?_
  refine Eq_aln dX6_copyFrom_1 rfl ?_
  refine Eq_getI dX6_copyFrom_2 fl_X6_9 (ws_43 hW) rfl hn ?_
  refine Eam_x_putI dX6_copyFrom_5 (fw_X6_9 rfl) (ws_11 hW) (Or.inl rfl) ?_
  refine Eq_aln dX6_copyFrom_8 rfl ?_
  refine Eq_getR dX6_copyFrom_9 fl_X6_15 (ws_43 hW) rfl (wp_43_1 hW) ?_
  refine Eq_ic (v := nI 0) dX6_copyFrom_12 rfl ?_
  refine Eq_aln dX6_copyFrom_13 rfl ?_
  refine Eq_getR dX6_copyFrom_14 fl_X6_15 (ws_11 hW) rfl (wp_11_1 hW) ?_
  refine Eq_ic (v := nI 0) dX6_copyFrom_17 rfl ?_
  refine Eq_aln dX6_copyFrom_18 rfl ?_
  refine Eq_getR dX6_copyFrom_19 fl_X6_15 (ws_11 hW) rfl (wp_11_1 hW) ?_
  refine Eam_x_alen dX6_copyFrom_22 (ws_12 hW) (by decide) ?_
  refine Eam_x_cpI dX6_copyFrom_23 (by decide) (Nat.le_of_ble_eq_true rfl) lc_X6_35 wd_an wd_as wd_ai (ws_44 hW) (ws_12 hW) (by decide +kernel) (by decide +kernel) (by decide +kernel) (by decide +kernel) (by decide +kernel) ?_
  refine Eq_aln dX6_copyFrom_26 rfl ?_
  refine Eq_getR dX6_copyFrom_27 fl_X6_19 (ws_43 hW) rfl (wp_43_2 hW) ?_
  refine Eq_ic (v := nI 0) dX6_copyFrom_30 rfl ?_
  refine Eq_aln dX6_copyFrom_31 rfl ?_
  refine Eq_getR dX6_copyFrom_32 fl_X6_19 (ws_11 hW) rfl (wp_11_2 hW) ?_
  refine Eq_ic (v := nI 0) dX6_copyFrom_35 rfl ?_
  refine Eq_aln dX6_copyFrom_36 rfl ?_
  refine Eq_getR dX6_copyFrom_37 fl_X6_19 (ws_11 hW) rfl (wp_11_2 hW) ?_
  refine Eam_x_alen dX6_copyFrom_40 (ws_13 hW) (by decide) ?_
  refine Eam_x_cpI dX6_copyFrom_41 (by decide) (Nat.le_of_ble_eq_true rfl) lc_X6_35 wd_an wd_as wd_ai (ws_45 hW) (ws_13 hW) (by decide +kernel) (by decide +kernel) (by decide +kernel) (by decide +kernel) (by decide +kernel) ?_
  refine Eq_vr dX6_copyFrom_44 rfl ?_
  refine ⟨rfl, ((Fx.wI (Or.inl (by decide))).tr (Fx.rI (by decide))).tr (Fx.rI (by decide)), ?_, h7, fun s hs => ?_, fun m hm => ?_⟩
  · rw [rI_ne (by decide), rI_ne (by decide), wI_e0]
  · have e : va_cpy (am_i h 44) (am_i h 12) 0 0 7 s = am_i h 44 s := cpy0 (by omega)
    rw [rI_ne (by decide), rI_eq]
    exact ⟨e.trans (hA s hs).1, (hA s hs).2⟩
  · have e : va_cpy (am_i h 45) (am_i h 13) 0 0 7 m = am_i h 45 m := cpy0 (by omega)
    rw [rI_eq]
    exact ⟨e.trans (hT m hm).1, (hT m hm).2⟩
set_option maxHeartbeats 2000000 in
theorem c_copyS30_11 {h : am_H} (hW : Wd h) {n : Nat} {S T : Nat → Nat} (hS : SB 11 12 13 h n S T) : am_D 1 m_X6_copyFrom [.ref 30, .ref 11] h (fun v h2 => v = none ∧ Fx [30, 31, 32] [] h h2 ∧ SB 30 31 32 h2 n S T) := by
  obtain ⟨hn, h7, hA, hT⟩ := id hS
  refine Eq_aln dX6_copyFrom_0 rfl ?_
  refine Eq_aln dX6_copyFrom_1 rfl ?_
  refine Eq_getI dX6_copyFrom_2 fl_X6_9 (ws_11 hW) rfl hn ?_
  refine Eam_x_putI dX6_copyFrom_5 (fw_X6_9 rfl) (ws_30 hW) (Or.inl rfl) ?_
  refine Eq_aln dX6_copyFrom_8 rfl ?_
  refine Eq_getR dX6_copyFrom_9 fl_X6_15 (ws_11 hW) rfl (wp_11_1 hW) ?_
  refine Eq_ic (v := nI 0) dX6_copyFrom_12 rfl ?_
  refine Eq_aln dX6_copyFrom_13 rfl ?_
  refine Eq_getR dX6_copyFrom_14 fl_X6_15 (ws_30 hW) rfl (wp_30_1 hW) ?_
  refine Eq_ic (v := nI 0) dX6_copyFrom_17 rfl ?_
  refine Eq_aln dX6_copyFrom_18 rfl ?_
  refine Eq_getR dX6_copyFrom_19 fl_X6_15 (ws_30 hW) rfl (wp_30_1 hW) ?_
  refine Eam_x_alen dX6_copyFrom_22 (ws_31 hW) (by decide) ?_
  refine Eam_x_cpI dX6_copyFrom_23 (by decide) (Nat.le_of_ble_eq_true rfl) lc_X6_35 wd_an wd_as wd_ai (ws_12 hW) (ws_31 hW) (by decide +kernel) (by decide +kernel) (by decide +kernel) (by decide +kernel) (by decide +kernel) ?_
  refine Eq_aln dX6_copyFrom_26 rfl ?_
  refine Eq_getR dX6_copyFrom_27 fl_X6_19 (ws_11 hW) rfl (wp_11_2 hW) ?_
  refine Eq_ic (v := nI 0) dX6_copyFrom_30 rfl ?_
  refine Eq_aln dX6_copyFrom_31 rfl ?_
  refine Eq_getR dX6_copyFrom_32 fl_X6_19 (ws_30 hW) rfl (wp_30_2 hW) ?_
  refine Eq_ic (v := nI 0) dX6_copyFrom_35 rfl ?_
  refine Eq_aln dX6_copyFrom_36 rfl ?_
  refine Eq_getR dX6_copyFrom_37 fl_X6_19 (ws_30 hW) rfl (wp_30_2 hW) ?_
  refine Eam_x_alen dX6_copyFrom_40 (ws_32 hW) (by decide) ?_
  refine Eam_x_cpI dX6_copyFrom_41 (by decide) (Nat.le_of_ble_eq_true rfl) lc_X6_35 wd_an wd_as wd_ai (ws_13 hW) (ws_32 hW) (by decide +kernel) (by decide +kernel) (by decide +kernel) (by decide +kernel) (by decide +kernel) ?_
  refine Eq_vr dX6_copyFrom_44 rfl ?_
  refine ⟨rfl, ((Fx.wI (Or.inl (by decide))).tr (Fx.rI (by decide))).tr (Fx.rI (by decide)), ?_, h7, fun s hs => ?_, fun m hm => ?_⟩
  · rw [rI_ne (by decide), rI_ne (by decide), wI_e0]
  · have e : va_cpy (am_i h 12) (am_i h 31) 0 0 7 s = am_i h 12 s := cpy0 (by omega)
    rw [rI_ne (by decide), rI_eq]
    exact ⟨e.trans (hA s hs).1, (hA s hs).2⟩
  · have e : va_cpy (am_i h 13) (am_i h 32) 0 0 7 m = am_i h 13 m := cpy0 (by omega)
    rw [rI_eq]
    exact ⟨e.trans (hT m hm).1, (hT m hm).2⟩
set_option maxHeartbeats 2000000 in
theorem c_copyT46_37 {h : am_H} (hW : Wd h) {hd : Nat} {y : Nat → Nat} {p : Nat → Bool} {st : Nat → Int64} {dr : Int64} (hT : TB 37 0 1 38 39 40 h hd y p st dr) : am_D 1 m_X7_copyFrom [.ref 46, .ref 37] h (fun v h2 => v = none ∧ Fx [46, 47, 48, 49] [] h h2 ∧ TB 46 0 1 47 48 49 h2 hd y p st dr) := by
  obtain ⟨hd0, h40, hdr, hk⟩ := id hT
  refine Eq_aln dX7_copyFrom_0 rfl ?_
  refine Eq_aln dX7_copyFrom_1 rfl ?_
  refine Eq_getI dX7_copyFrom_2 fl_X7_9 (ws_37 hW) rfl hd0 ?_
  refine Eam_x_putI dX7_copyFrom_5 (fw_X7_9 rfl) (ws_46 hW) (Or.inl rfl) ?_
  refine Eq_aln dX7_copyFrom_8 rfl ?_
  refine Eq_aln dX7_copyFrom_9 rfl ?_
  refine Eq_getL dX7_copyFrom_10 fl_X7_15 (ws_37 hW) rfl (by first | assumption | rfl) ?_
  refine Eam_x_putL dX7_copyFrom_13 (fw_X7_15 rfl) (ws_46 hW) rfl ?_
  refine Eq_aln dX7_copyFrom_16 rfl ?_
  refine Eq_getR dX7_copyFrom_17 fl_X7_19 (ws_37 hW) rfl (wp_37_2 hW) ?_
  refine Eq_ic (v := nI 0) dX7_copyFrom_20 rfl ?_
  refine Eq_aln dX7_copyFrom_21 rfl ?_
  refine Eq_getR dX7_copyFrom_22 fl_X7_19 (ws_46 hW) rfl (wp_46_2 hW) ?_
  refine Eq_ic (v := nI 0) dX7_copyFrom_25 rfl ?_
  refine Eq_bp (v := nI 40) dX7_copyFrom_26 rfl ?_
  refine Eam_x_cpI dX7_copyFrom_28 (by decide) (Nat.le_of_ble_eq_true rfl) lc_X7_38 wd_an wd_as wd_ai (ws_38 hW) (ws_47 hW) (by decide +kernel) (by decide +kernel) (by decide +kernel) (by decide +kernel) (by decide +kernel) ?_
  refine Eq_aln dX7_copyFrom_31 rfl ?_
  refine Eq_getR dX7_copyFrom_32 fl_X7_23 (ws_37 hW) rfl (wp_37_3 hW) ?_
  refine Eq_ic (v := nI 0) dX7_copyFrom_35 rfl ?_
  refine Eq_aln dX7_copyFrom_36 rfl ?_
  refine Eq_getR dX7_copyFrom_37 fl_X7_23 (ws_46 hW) rfl (wp_46_3 hW) ?_
  refine Eq_ic (v := nI 0) dX7_copyFrom_40 rfl ?_
  refine Eq_bp (v := nI 40) dX7_copyFrom_41 rfl ?_
  refine Eam_x_cpI dX7_copyFrom_43 (by decide) (Nat.le_of_ble_eq_true rfl) lc_X7_38 wd_an wd_as wd_ai (ws_39 hW) (ws_48 hW) (by decide +kernel) (by decide +kernel) (by decide +kernel) (by decide +kernel) (by decide +kernel) ?_
  refine Eq_aln dX7_copyFrom_46 rfl ?_
  refine Eq_getR dX7_copyFrom_47 fl_X7_26 (ws_37 hW) rfl (wp_37_4 hW) ?_
  refine Eq_ic (v := nI 0) dX7_copyFrom_50 rfl ?_
  refine Eq_aln dX7_copyFrom_51 rfl ?_
  refine Eq_getR dX7_copyFrom_52 fl_X7_26 (ws_46 hW) rfl (wp_46_4 hW) ?_
  refine Eq_ic (v := nI 0) dX7_copyFrom_55 rfl ?_
  refine Eq_bp (v := nI 40) dX7_copyFrom_56 rfl ?_
  refine Eam_x_cpL dX7_copyFrom_58 (by decide) (Nat.le_of_ble_eq_true rfl) lc_X7_38 wd_an wd_as wd_ai (ws_40 hW) (ws_49 hW) (by decide +kernel) (by decide +kernel) (by decide +kernel) (by decide +kernel) (by decide +kernel) ?_
  refine Eq_vr dX7_copyFrom_61 rfl ?_
  refine ⟨rfl, ((((Fx.wI (Or.inl (by decide))).tr (Fx.wL (Or.inl (by decide)))).tr (Fx.rI (by decide))).tr (Fx.rI (by decide))).tr (Fx.rL (by decide)), ?_, h40, ?_, fun k hk1 => ?_⟩
  · rw [rLi, rI_ne (by decide), rI_ne (by decide), wLi, wI_e0]
  · rw [rL_ne (by decide), rIl, rIl, wL_e0]; first | done | exact hdr
  · have e1 : va_cpy (am_i h 38) (am_i h 47) 0 0 40 k = am_i h 38 k := cpy0 (by omega)
    have e2 : va_cpy (am_i h 39) (am_i h 48) 0 0 40 k = am_i h 39 k := cpy0 (by omega)
    have e3 : va_cpy (am_l h 40) (am_l h 49) 0 0 40 k = am_l h 40 k := cpy0 (by omega)
    rw [rLi, rI_ne (by decide), rI_eq, rI_eq, rL_eq]
    have q := hk k hk1
    exact ⟨e1.trans q.1, q.2.1, e2.trans q.2.2.1, e3.trans q.2.2.2⟩
set_option maxHeartbeats 2000000 in
theorem c_copyT37_46 {h : am_H} (hW : Wd h) {hd : Nat} {y : Nat → Nat} {p : Nat → Bool} {st : Nat → Int64} {dr : Int64} (hT : TB 46 0 1 47 48 49 h hd y p st dr) : am_D 1 m_X7_copyFrom [.ref 37, .ref 46] h (fun v h2 => v = none ∧ Fx [37, 38, 39, 40] [] h h2 ∧ TB 37 0 1 38 39 40 h2 hd y p st dr) := by
  obtain ⟨hd0, h40, hdr, hk⟩ := id hT
  refine Eq_aln dX7_copyFrom_0 rfl ?_
  refine Eq_aln dX7_copyFrom_1 rfl ?_
  refine Eq_getI dX7_copyFrom_2 fl_X7_9 (ws_46 hW) rfl hd0 ?_
  refine Eam_x_putI dX7_copyFrom_5 (fw_X7_9 rfl) (ws_37 hW) (Or.inl rfl) ?_
  refine Eq_aln dX7_copyFrom_8 rfl ?_
  refine Eq_aln dX7_copyFrom_9 rfl ?_
  refine Eq_getL dX7_copyFrom_10 fl_X7_15 (ws_46 hW) rfl (by first | assumption | rfl) ?_
  refine Eam_x_putL dX7_copyFrom_13 (fw_X7_15 rfl) (ws_37 hW) rfl ?_
  refine Eq_aln dX7_copyFrom_16 rfl ?_
  refine Eq_getR dX7_copyFrom_17 fl_X7_19 (ws_46 hW) rfl (wp_46_2 hW) ?_
  refine Eq_ic (v := nI 0) dX7_copyFrom_20 rfl ?_
  refine Eq_aln dX7_copyFrom_21 rfl ?_
  refine Eq_getR dX7_copyFrom_22 fl_X7_19 (ws_37 hW) rfl (wp_37_2 hW) ?_
  refine Eq_ic (v := nI 0) dX7_copyFrom_25 rfl ?_
  refine Eq_bp (v := nI 40) dX7_copyFrom_26 rfl ?_
  refine Eam_x_cpI dX7_copyFrom_28 (by decide) (Nat.le_of_ble_eq_true rfl) lc_X7_38 wd_an wd_as wd_ai (ws_47 hW) (ws_38 hW) (by decide +kernel) (by decide +kernel) (by decide +kernel) (by decide +kernel) (by decide +kernel) ?_
  refine Eq_aln dX7_copyFrom_31 rfl ?_
  refine Eq_getR dX7_copyFrom_32 fl_X7_23 (ws_46 hW) rfl (wp_46_3 hW) ?_
  refine Eq_ic (v := nI 0) dX7_copyFrom_35 rfl ?_
  refine Eq_aln dX7_copyFrom_36 rfl ?_
  refine Eq_getR dX7_copyFrom_37 fl_X7_23 (ws_37 hW) rfl (wp_37_3 hW) ?_
  refine Eq_ic (v := nI 0) dX7_copyFrom_40 rfl ?_
  refine Eq_bp (v := nI 40) dX7_copyFrom_41 rfl ?_
  refine Eam_x_cpI dX7_copyFrom_43 (by decide) (Nat.le_of_ble_eq_true rfl) lc_X7_38 wd_an wd_as wd_ai (ws_48 hW) (ws_39 hW) (by decide +kernel) (by decide +kernel) (by decide +kernel) (by decide +kernel) (by decide +kernel) ?_
  refine Eq_aln dX7_copyFrom_46 rfl ?_
  refine Eq_getR dX7_copyFrom_47 fl_X7_26 (ws_46 hW) rfl (wp_46_4 hW) ?_
  refine Eq_ic (v := nI 0) dX7_copyFrom_50 rfl ?_
  refine Eq_aln dX7_copyFrom_51 rfl ?_
  refine Eq_getR dX7_copyFrom_52 fl_X7_26 (ws_37 hW) rfl (wp_37_4 hW) ?_
  refine Eq_ic (v := nI 0) dX7_copyFrom_55 rfl ?_
  refine Eq_bp (v := nI 40) dX7_copyFrom_56 rfl ?_
  refine Eam_x_cpL dX7_copyFrom_58 (by decide) (Nat.le_of_ble_eq_true rfl) lc_X7_38 wd_an wd_as wd_ai (ws_49 hW) (ws_40 hW) (by decide +kernel) (by decide +kernel) (by decide +kernel) (by decide +kernel) (by decide +kernel) ?_
  refine Eq_vr dX7_copyFrom_61 rfl ?_
  refine ⟨rfl, ((((Fx.wI (Or.inl (by decide))).tr (Fx.wL (Or.inl (by decide)))).tr (Fx.rI (by decide))).tr (Fx.rI (by decide))).tr (Fx.rL (by decide)), ?_, h40, ?_, fun k hk1 => ?_⟩
  · rw [rLi, rI_ne (by decide), rI_ne (by decide), wLi, wI_e0]
  · rw [rL_ne (by decide), rIl, rIl, wL_e0]; first | done | exact hdr
  · have e1 : va_cpy (am_i h 47) (am_i h 38) 0 0 40 k = am_i h 47 k := cpy0 (by omega)
    have e2 : va_cpy (am_i h 48) (am_i h 39) 0 0 40 k = am_i h 48 k := cpy0 (by omega)
    have e3 : va_cpy (am_l h 49) (am_l h 40) 0 0 40 k = am_l h 49 k := cpy0 (by omega)
    rw [rLi, rI_ne (by decide), rI_eq, rI_eq, rL_eq]
    have q := hk k hk1
    exact ⟨e1.trans q.1, q.2.1, e2.trans q.2.2.1, e3.trans q.2.2.2⟩
set_option maxHeartbeats 2000000 in
theorem c_image {h : am_H} {n : Nat} {g : Bool} {F : Nat → Nat → Nat} (hW : Wd h) (hM : MB h n g F) {S T : Nat → Nat} (hS : SB 11 12 13 h n S T) {hd : Nat} {y : Nat → Nat} {p : Nat → Bool} {st : Nat → Int64} {dr : Int64} (hT : TB 37 0 1 38 39 40 h hd y p st dr) (h0 : ¬ n = 0) : am_D 2 m_X11_image [.ref 0] h (fun v h2 => v = some (.int (nI hd)) ∧ Fx [41, 42, 43, 44, 45, 46, 47, 48, 49] [(0, 13)] h h2 ∧ MX 41 42 h2 n g F ∧ SB 43 44 45 h2 n S T ∧ TB 46 0 1 47 48 49 h2 hd y p st dr ∧ am_i h2 0 13 = nI 1) := by
  obtain ⟨hn, hg, h7, hF, hB⟩ := id hM
  refine Eq_aln dX11_image_0 rfl ?_
  refine Eq_getR dX11_image_1 fl_X11_48 (ws_0 hW) rfl (wp_0_6 hW) ?_
  refine Eq_getI dX11_image_4 fl_X11_146 (ws_9 hW) rfl (by first | assumption | exact hd3) ?_
  refine Et_if_ne 12 dX11_image_7 rfl (by exact nI_ne0 (by omega) (by omega)) ?_
  refine Eq_aln dX11_image_12 rfl ?_
  refine Eq_getR dX11_image_13 fl_X11_104 (ws_0 hW) rfl (wp_0_14 hW) ?_
  refine Eq_aln dX11_image_16 rfl ?_
  refine Eq_getR dX11_image_17 fl_X11_48 (ws_0 hW) rfl (wp_0_6 hW) ?_
  refine Eq_W1 (N := m_X5_copyFrom) dX11_image_20 lk_X11_143 mV_X5_copyFrom (c_copyM41_9 hW hM.x) (by decide) (ws_41 hW) rfl (by decide) (Nat.le_of_ble_eq_true rfl) (Nat.le_of_ble_eq_true rfl) (fun vq hq1 hq2 => ?_)
  obtain ⟨rfl, hf1, hM1⟩ := hq2
  have hW1 := hf1.Wd hW
  have hS1 := hS.fx hf1 (by decide)
  have hT1 := hT.fx hf1 (by decide)
  refine Eq_aln dX11_image_23 rfl ?_
  refine Eq_getR dX11_image_24 fl_X11_107 (ws_0 hW1) rfl (wp_0_15 hW1) ?_
  refine Eq_aln dX11_image_27 rfl ?_
  refine Eq_getR dX11_image_28 fl_X11_55 (ws_0 hW1) rfl (wp_0_7 hW1) ?_
  refine Eq_W1 (N := m_X6_copyFrom) dX11_image_31 lk_X11_319 mV_X6_copyFrom (c_copyS43_11 hW1 hS1) (by decide) (ws_43 hW1) rfl (by decide) (Nat.le_of_ble_eq_true rfl) (Nat.le_of_ble_eq_true rfl) (fun vq hq1 hq2 => ?_)
  obtain ⟨rfl, hf2, hS2⟩ := hq2
  have hW2 := hf2.Wd hW1
  have hT2 := hT1.fx hf2 (by decide)
  have hM2 := hM1.fx hf2 (by decide)
  refine Eq_aln dX11_image_34 rfl ?_
  refine Eq_getR dX11_image_35 fl_X11_110 (ws_0 hW2) rfl (wp_0_16 hW2) ?_
  refine Eq_aln dX11_image_38 rfl ?_
  refine Eq_getR dX11_image_39 fl_X11_96 (ws_0 hW2) rfl (wp_0_12 hW2) ?_
  refine Eq_W1 (N := m_X7_copyFrom) dX11_image_42 lk_X11_322 mV_X7_copyFrom (c_copyT46_37 hW2 hT2) (by decide) (ws_46 hW2) rfl (by decide) (Nat.le_of_ble_eq_true rfl) (Nat.le_of_ble_eq_true rfl) (fun vq hq1 hq2 => ?_)
  obtain ⟨rfl, hf3, hT3⟩ := hq2
  have hW3 := hf3.Wd hW2
  have hM3 := hM2.fx hf3 (by decide)
  have hS3 := hS2.fx hf3 (by decide)
  have hd3 : am_i hq1 37 0 = nI hd := (hf3.i (by decide) (by decide)).trans hT2.1
  refine Eq_aln dX11_image_45 rfl ?_
  refine Eq_ic (v := nI 1) dX11_image_46 rfl ?_
  refine Eam_x_putI dX11_image_47 (fw_X11_100 rfl) (ws_0 hW3) (Or.inr ⟨rfl, by first | exact Or.inl rfl | exact Or.inr rfl | assumption⟩) ?_
  refine Eq_aln dX11_image_50 rfl ?_
  refine Eq_getR dX11_image_51 fl_X11_96 (ws_0 hW3) rfl (wp_0_12 hW3) ?_
  refine Eq_getI dX11_image_54 fl_X11_155 (ws_37 hW3) rfl (by first | assumption | exact hd3) ?_
  refine Eq_ir dX11_image_57 rfl ?_
  refine ⟨rfl, (((hf1.mono (by decide) (by decide)).tr (hf2.mono (by decide) (by decide))).tr (hf3.mono (by decide) (by decide))).tr (Fx.wI (Or.inr (by decide))), ?_, ?_, ?_, ?_⟩
  · exact hM3.fx (Fx.wI (A := []) (B := [(0, 13)]) (Or.inr (by decide))) (by decide)
  · exact hS3.fx (Fx.wI (A := []) (B := [(0, 13)]) (Or.inr (by decide))) (by decide)
  · exact hT3.fx (Fx.wI (A := []) (B := [(0, 13)]) (Or.inr (by decide))) (by decide)
  · rw [wI_e0]
set_option maxHeartbeats 2000000 in
theorem c_imageN {h : am_H} {n : Nat} {g : Bool} {F : Nat → Nat → Nat} (hW : Wd h) (hM : MB h n g F) (h0 : n = 0) : am_C 1 m_X11_image [.ref 0] h (some (.int (-1)), h) := by
  obtain ⟨hn, hg, h7, hF, hB⟩ := id hM
  refine q_aln dX11_image_0 rfl ?_
  refine q_getR dX11_image_1 fl_X11_48 (ws_0 hW) rfl (wp_0_6 hW) ?_
  refine q_getI dX11_image_4 fl_X11_146 (ws_9 hW) rfl (by first | assumption | rfl) ?_
  refine f_if_ne dX11_image_7 (tgt := 12) rfl (by rw [h0]; rfl) ?_
  refine q_ic (v := -1) dX11_image_10 rfl ?_
  refine q_ir dX11_image_11 rfl ?_
  rfl
set_option maxHeartbeats 2000000 in
theorem c_back {h : am_H} (hW : Wd h) {n : Nat} {g : Bool} {F : Nat → Nat → Nat} {S T : Nat → Nat} (hM : MX 41 42 h n g F) (hS : SB 43 44 45 h n S T) {hd : Nat} {y : Nat → Nat} {p : Nat → Bool} {st : Nat → Int64} {dr : Int64} (hT : TB 46 0 1 47 48 49 h hd y p st dr) (hi : am_i h 0 13 = nI 1) : am_D 2 m_X11_back [.ref 0] h (fun v h2 => v = some (.int (nI hd)) ∧ Fx [9, 10, 11, 12, 13, 37, 38, 39, 40, 26] [(29, 7)] h h2 ∧ MB h2 n g F ∧ SB 11 12 13 h2 n S T ∧ TB 37 0 1 38 39 40 h2 hd y p st dr ∧ KF h2) := by
  refine Eq_aln dX11_back_0 rfl ?_
  refine Eq_getI dX11_back_1 fl_X11_100 (ws_0 hW) rfl (by first | assumption | exact hd3) ?_
  refine Et_if_ne 9 dX11_back_4 rfl (by exact zf1) ?_
  refine Eq_aln dX11_back_9 rfl ?_
  refine Eq_getR dX11_back_10 fl_X11_48 (ws_0 hW) rfl (wp_0_6 hW) ?_
  refine Eq_aln dX11_back_13 rfl ?_
  refine Eq_getR dX11_back_14 fl_X11_104 (ws_0 hW) rfl (wp_0_14 hW) ?_
  refine Eq_W1 (N := m_X5_copyFrom) dX11_back_17 lk_X11_143 mV_X5_copyFrom (c_copyM9_41 hW hM) (by decide) (ws_9 hW) rfl (by decide) (Nat.le_of_ble_eq_true rfl) (Nat.le_of_ble_eq_true rfl) (fun vq hq1 hq2 => ?_)
  obtain ⟨rfl, hf1, hM1⟩ := hq2
  have hW1 := hf1.Wd hW
  have hS1 := hS.fx hf1 (by decide)
  have hT1 := hT.fx hf1 (by decide)
  refine Eq_aln dX11_back_20 rfl ?_
  refine Eq_getR dX11_back_21 fl_X11_55 (ws_0 hW1) rfl (wp_0_7 hW1) ?_
  refine Eq_aln dX11_back_24 rfl ?_
  refine Eq_getR dX11_back_25 fl_X11_107 (ws_0 hW1) rfl (wp_0_15 hW1) ?_
  refine Eq_W1 (N := m_X6_copyFrom) dX11_back_28 lk_X11_319 mV_X6_copyFrom (c_copyS11_43 hW1 hS1) (by decide) (ws_11 hW1) rfl (by decide) (Nat.le_of_ble_eq_true rfl) (Nat.le_of_ble_eq_true rfl) (fun vq hq1 hq2 => ?_)
  obtain ⟨rfl, hf2, hS2⟩ := hq2
  have hW2 := hf2.Wd hW1
  have hT2 := hT1.fx hf2 (by decide)
  have hM2 := hM1.fx hf2 (by decide)
  refine Eq_aln dX11_back_31 rfl ?_
  refine Eq_getR dX11_back_32 fl_X11_96 (ws_0 hW2) rfl (wp_0_12 hW2) ?_
  refine Eq_aln dX11_back_35 rfl ?_
  refine Eq_getR dX11_back_36 fl_X11_110 (ws_0 hW2) rfl (wp_0_16 hW2) ?_
  refine Eq_W1 (N := m_X7_copyFrom) dX11_back_39 lk_X11_322 mV_X7_copyFrom (c_copyT37_46 hW2 hT2) (by decide) (ws_37 hW2) rfl (by decide) (Nat.le_of_ble_eq_true rfl) (Nat.le_of_ble_eq_true rfl) (fun vq hq1 hq2 => ?_)
  obtain ⟨rfl, hf3, hT3⟩ := hq2
  have hW3 := hf3.Wd hW2
  have hM3 := hM2.fx hf3 (by decide)
  have hS3 := hS2.fx hf3 (by decide)
  refine Eq_aln dX11_back_42 rfl ?_
  refine Eq_W0 (N := m_X11_forgetAnswers) dX11_back_43 lk_X11_158 mV_X11_forgetAnswers (c_forgetA hW3) (by decide) (ws_0 hW3) rfl (by decide) (Nat.le_of_ble_eq_true rfl) (Nat.le_of_ble_eq_true rfl) (fun vq hq1 hq2 => ?_)
  obtain ⟨rfl, hf4, hz⟩ := hq2
  have hW4 := hf4.Wd hW3
  have hd3 : am_i hq1 37 0 = nI hd := (hf4.i (by decide) (by decide)).trans hT3.1
  refine Eq_aln dX11_back_46 rfl ?_
  refine Eq_getR dX11_back_47 fl_X11_96 (ws_0 hW4) rfl (wp_0_12 hW4) ?_
  refine Eq_getI dX11_back_50 fl_X11_155 (ws_37 hW4) rfl (by first | assumption | exact hd3) ?_
  refine Eq_ir dX11_back_53 rfl ?_
  refine ⟨rfl, (((hf1.mono (by decide) (by decide)).tr (hf2.mono (by decide) (by decide))).tr (hf3.mono (by decide) (by decide))).tr (hf4.mono (by decide) (by decide)), ?_, ?_, ?_, hz⟩
  · exact (hM3.fx hf4 (by decide)).b
  · exact hS3.fx hf4 (by decide)
  · exact hT3.fx hf4 (by decide)
set_option maxHeartbeats 2000000 in
theorem c_backN {h : am_H} (hW : Wd h) (hi : am_i h 0 13 = nI 0) : am_C 1 m_X11_back [.ref 0] h (some (.int (-1)), h) := by
  refine q_aln dX11_back_0 rfl ?_
  refine q_getI dX11_back_1 fl_X11_100 (ws_0 hW) rfl (by first | assumption | rfl) ?_
  refine f_if_ne dX11_back_4 (tgt := 9) rfl (by rfl) ?_
  refine q_ic (v := -1) dX11_back_7 rfl ?_
  refine q_ir dX11_back_8 rfl ?_
  rfl
/-- the reference's image: seats, votes and kinds -/
def RI (h : am_H) (n : Nat) (F : Nat → Nat → Nat) (S T : Nat → Nat) : Prop := (∀ m, m < n → am_i h 74 m = nI (S m) ∧ am_i h 75 (2 * m) = nI (F 0 m) ∧ am_i h 75 (2 * m + 1) = nI (F 3 m) ∧ F 0 m ≤ 1 ∧ F 3 m ≤ 3) ∧ Pm n S T
theorem RI.fx {A : List Nat} {B : List (Nat × Nat)} {h h' : am_H} {n : Nat} {F : Nat → Nat → Nat} {S T : Nat → Nat} (m : RI h n F S T) (a : Fx A B h h') (ok : 74 ∉ A ∧ 75 ∉ A ∧ 74 ∉ B.map Prod.fst ∧ 75 ∉ B.map Prod.fst) : RI h' n F S T := by
  unfold RI at m ⊢
  rw [a.ia ok.1 ok.2.2.1, a.ia ok.2.1 ok.2.2.2]
  exact m
/-- truths are 0 or 1 -/
def ZB (r : Nat) (h : am_H) : Prop := ∀ k, k < 40 → am_i h r k = 0 ∨ am_i h r k = 1
theorem ZB.fx {A : List Nat} {B : List (Nat × Nat)} {h h' : am_H} {r : Nat} (m : ZB r h) (a : Fx A B h h') (ok : r ∉ A ∧ r ∉ B.map Prod.fst) : ZB r h' := by
  unfold ZB at m ⊢
  rw [a.ia ok.1 ok.2]
  exact m
theorem ct20 {k : Nat} (h : k < 7) : 2 * k < 14 := by omega
set_option maxHeartbeats 2000000 in
theorem r_ofR {h : am_H} (hW : Wd h) {m i : Nat} (hm : m < 7) (hi : i < 7) : am_C 0 m_X12_of [.ref 50, .int (nI m), .int (nI i)] h (some (.int (am_i h 62 (7 * m + i))), h) := by
  refine q_aln dX12_of_0 rfl ?_
  refine q_getR dX12_of_1 fl_X12_43 (ws_50 hW) rfl (wp_50_20 hW) ?_
  refine q_bp (v := nI 7) dX12_of_4 rfl ?_
  refine q_iln dX12_of_6 rfl ?_
  first | refine q_mul dX12_of_7 ?_ | refine am_x_pu dX12_of_7 rfl ?_
  refine q_iln dX12_of_8 rfl ?_
  first | refine q_add dX12_of_9 ?_ | refine am_x_pu dX12_of_9 rfl ?_
  refine q_ald dX12_of_10 (ws_62 hW) (by omega) (by omega) rfl ?_
  refine q_ir dX12_of_11 rfl ?_
  rfl
set_option maxHeartbeats 2000000 in
theorem r_image1 {h : am_H} (hW : Wd h) {P : Option Value → am_H → Prop} (kk : ∀ hc, Fx [74, 75] [] h hc → (∀ m, m < 7 → am_i hc 74 m = am_i h 63 m ∧ am_i hc 75 (2 * m) = am_i h 62 (7 * m) ∧ am_i hc 75 (2 * m + 1) = am_i h 62 (7 * m + 3)) → am_E 1 m_X12_image 65 [some (.ref 50), some (.int (nI 7))] [] hc P) : ∀ k j hc, j + k = 7 → Fx [74, 75] [] h hc → (∀ m, m < j → am_i hc 74 m = am_i h 63 m ∧ am_i hc 75 (2 * m) = am_i h 62 (7 * m) ∧ am_i hc 75 (2 * m + 1) = am_i h 62 (7 * m + 3)) → am_E 1 m_X12_image 11 [some (.ref 50), some (.int (nI j))] [] hc P := by
  intro k
  induction k with
  | zero =>
    intro j hc hj hfr hi
    have hj7 : j = 7 := by omega
    subst hj7
    have hWc := hfr.Wd hW
    refine Eq_iln dX12_image_11 rfl ?_
    refine Eq_bp (v := nI 7) dX12_image_12 rfl ?_
    refine Et_ic_ge 65 dX12_image_14 rfl (by decide +kernel) ?_
    exact kk hc hfr hi
  | succ k ih =>
    intro j hc hj hfr hi
    have hWc := hfr.Wd hW
    have k1 : Fx [74, 75] [] hc (am_wI hc 74 j (am_i hc 63 j)) := Fx.wI (Or.inl (by decide))
    have k2 := k1.tr (Fx.wI (r := 75) (j := 2 * j) (v := am_i hc 62 (7 * j)) (Or.inl (by decide)))
    have e62 : am_i hc 62 = am_i h 62 := hfr.ia (by decide) (by decide)
    have e63 : am_i hc 63 = am_i h 63 := hfr.ia (by decide) (by decide)
    refine Eq_iln dX12_image_11 rfl ?_
    refine Eq_bp (v := nI 7) dX12_image_12 rfl ?_
    refine Ef_ic_ge dX12_image_14 (tgt := 65) rfl (by exact nI_ge (by omega) (by omega)) ?_
    refine Eq_aln dX12_image_17 rfl ?_
    refine Eq_getR dX12_image_18 fl_X12_85 (ws_50 hWc) rfl (wp_50_43 hWc) ?_
    refine Eq_iln dX12_image_21 rfl ?_
    refine Eq_aln dX12_image_22 rfl ?_
    refine Eq_getR dX12_image_23 fl_X12_46 (ws_50 hWc) rfl (wp_50_23 hWc) ?_
    refine Eq_iln dX12_image_26 rfl ?_
    refine Eq_ald dX12_image_27 (ws_63 hWc) (by omega) (by omega) rfl ?_
    refine Eq_ast dX12_image_28 (ws_74 hWc) (by omega) (by omega) ?_
    refine Eq_aln dX12_image_29 rfl ?_
    refine Eq_getR dX12_image_30 fl_X12_88 (ws_50 hWc) rfl (wp_50_44 hWc) ?_
    refine Eq_ic (v := nI 2) dX12_image_33 rfl ?_
    refine Eq_iln dX12_image_34 rfl ?_
    first | refine Eq_mul dX12_image_35 ?_ | refine Eam_x_pu dX12_image_35 rfl ?_
    refine Eq_aln dX12_image_36 rfl ?_
    refine Eq_iln dX12_image_37 rfl ?_
    refine Eq_ic (v := nI 0) dX12_image_38 rfl ?_
    refine Eq_V2 (N := m_X12_of) dX12_image_39 lk_X12_258 mV_X12_of (r_ofR (k1.Wd hWc) (by omega) (by omega)) (by decide) (ws_50 hWc) rfl (by decide) (Nat.le_of_ble_eq_true rfl) (Nat.le_of_ble_eq_true rfl) ?_
    refine Eq_ast dX12_image_42 (ws_75 hWc) (by omega) (by omega) ?_
    refine Eq_aln dX12_image_43 rfl ?_
    refine Eq_getR dX12_image_44 fl_X12_88 (ws_50 hWc) rfl (wp_50_44 hWc) ?_
    refine Eq_ic (v := nI 2) dX12_image_47 rfl ?_
    refine Eq_iln dX12_image_48 rfl ?_
    first | refine Eq_mul dX12_image_49 ?_ | refine Eam_x_pu dX12_image_49 rfl ?_
    refine Eq_ic (v := nI 1) dX12_image_50 rfl ?_
    first | refine Eq_add dX12_image_51 ?_ | refine Eam_x_pu dX12_image_51 rfl ?_
    refine Eq_aln dX12_image_52 rfl ?_
    refine Eq_iln dX12_image_53 rfl ?_
    refine Eq_ic (v := nI 3) dX12_image_54 rfl ?_
    refine Eq_V2 (N := m_X12_of) dX12_image_55 lk_X12_258 mV_X12_of (r_ofR (k2.Wd hWc) (by omega) (by omega)) (by decide) (ws_50 hWc) rfl (by decide) (Nat.le_of_ble_eq_true rfl) (Nat.le_of_ble_eq_true rfl) ?_
    refine Eq_ast dX12_image_58 (ws_75 hWc) (by omega) (by omega) ?_
    refine Eq_inc dX12_image_59 rfl (by decide) ?_
    refine Eam_nl (pc' := 62) (l' := [_, _]) rfl rfl ?_
    refine Eam_x_goto (tgt := 11) dX12_image_62 rfl ?_
    refine ih (j + 1) _ (by omega) (hfr.tr (k2.tr (Fx.wI (Or.inl (by decide))))) (fun m hm => ?_)
    rw [wI_ne (by decide), wI_ne (by decide), wI_eq, wI_eq, wI_eq, wI_ne (by decide), wI_eq, wI_eq, wI_ne (by decide)]
    rw [show am_i (am_wI hc 74 j (am_i hc 63 j)) 75 = am_i hc 75 from wI_ne (by decide), e62, e63]
    by_cases e : m = j
    · subst e
      rw [if_pos rfl, if_neg (by omega), if_pos rfl, if_pos rfl]
      exact ⟨rfl, rfl, rfl⟩
    · rw [if_neg e, if_neg (by omega), if_neg (by omega), if_neg (by omega), if_neg (by omega)]
      exact hi m (by omega)
set_option maxHeartbeats 2000000 in
theorem r_image2 {h : am_H} (hW : Wd h) (hz : ZB 72 h) {P : Option Value → am_H → Prop} (kk : ∀ hc, Fx [76, 77, 78] [] h hc → (∀ k, k < 40 → am_i hc 76 k = am_i h 71 k ∧ am_i hc 77 k = am_i h 72 k ∧ am_l hc 78 k = am_l h 73 k) → am_E 1 m_X12_image 115 [some (.ref 50), some (.int (nI 40))] [] hc P) : ∀ q j hc, j + q = 40 → Fx [76, 77, 78] [] h hc → (∀ k, k < j → am_i hc 76 k = am_i h 71 k ∧ am_i hc 77 k = am_i h 72 k ∧ am_l hc 78 k = am_l h 73 k) → am_E 1 m_X12_image 67 [some (.ref 50), some (.int (nI j))] [] hc P := by
  intro q
  induction q with
  | zero =>
    intro j hc hj hfr hi
    have hj7 : j = 40 := by omega
    subst hj7
    have hWc := hfr.Wd hW
    refine Eq_iln dX12_image_67 rfl ?_
    refine Eq_bp (v := nI 40) dX12_image_68 rfl ?_
    refine Et_ic_ge 115 dX12_image_70 rfl (by decide +kernel) ?_
    exact kk hc hfr hi
  | succ q ih =>
    intro j hc hj hfr hi
    have hWc := hfr.Wd hW
    have ea : am_i hc 71 = am_i h 71 := hfr.ia (by decide) (by decide)
    have eb : am_i hc 72 = am_i h 72 := hfr.ia (by decide) (by decide)
    have ec : am_l hc 73 = am_l h 73 := hfr.la (by decide) (by decide)
    have hzj := hz j (by omega)
    rw [← eb] at hzj
    refine Eq_iln dX12_image_67 rfl ?_
    refine Eq_bp (v := nI 40) dX12_image_68 rfl ?_
    refine Ef_ic_ge dX12_image_70 (tgt := 115) rfl (by exact nI_ge (by omega) (by omega)) ?_
    refine Eq_aln dX12_image_73 rfl ?_
    refine Eq_getR dX12_image_74 fl_X12_91 (ws_50 hWc) rfl (wp_50_45 hWc) ?_
    refine Eq_iln dX12_image_77 rfl ?_
    refine Eq_aln dX12_image_78 rfl ?_
    refine Eq_getR dX12_image_79 fl_X12_76 (ws_50 hWc) rfl (wp_50_38 hWc) ?_
    refine Eq_iln dX12_image_82 rfl ?_
    refine Eq_ald dX12_image_83 (ws_71 hWc) (by omega) (by omega) rfl ?_
    refine Eq_ast dX12_image_84 (ws_76 hWc) (by omega) (by omega) ?_
    refine Eq_aln dX12_image_85 rfl ?_
    refine Eq_getR dX12_image_86 fl_X12_94 (ws_50 hWc) rfl (wp_50_46 hWc) ?_
    refine Eq_iln dX12_image_89 rfl ?_
    refine Eq_aln dX12_image_90 rfl ?_
    refine Eq_getR dX12_image_91 fl_X12_79 (ws_50 hWc) rfl (wp_50_39 hWc) ?_
    refine Eq_iln dX12_image_94 rfl ?_
    refine Eq_zld dX12_image_95 (ws_72 hWc) (by omega) (by omega) rfl ?_
    refine Eq_zst dX12_image_96 (ws_77 hWc) (by omega) (by omega) hzj ?_
    refine Eq_aln dX12_image_97 rfl ?_
    refine Eq_getR dX12_image_98 fl_X12_97 (ws_50 hWc) rfl (wp_50_47 hWc) ?_
    refine Eq_iln dX12_image_101 rfl ?_
    refine Eq_aln dX12_image_102 rfl ?_
    refine Eq_getR dX12_image_103 fl_X12_82 (ws_50 hWc) rfl (wp_50_40 hWc) ?_
    refine Eq_iln dX12_image_106 rfl ?_
    refine Eq_lld dX12_image_107 (ws_73 hWc) (by omega) (by omega) rfl ?_
    refine Eq_lst dX12_image_108 (ws_78 hWc) (by omega) (by omega) ?_
    refine Eq_inc dX12_image_109 rfl (by decide) ?_
    refine Eam_nl (pc' := 112) (l' := [_, _]) rfl rfl ?_
    refine Eam_x_goto (tgt := 67) dX12_image_112 rfl ?_
    refine ih (j + 1) _ (by omega) (((hfr.tr (Fx.wI (Or.inl (by decide)))).tr (Fx.wI (Or.inl (by decide)))).tr (Fx.wL (Or.inl (by decide)))) (fun k hk => ?_)
    rw [wLi, wI_ne (by decide), wI_eq, wI_eq, wI_ne (by decide), wL_eq, wIl, wIl, ea, eb]
    rw [show am_i (am_wI hc 76 j (am_i h 71 j)) 77 = am_i hc 77 from wI_ne (by decide), ec]
    by_cases e : k = j
    · subst e
      rw [if_pos rfl, if_pos rfl, if_pos rfl]
      exact ⟨rfl, rfl, rfl⟩
    · rw [if_neg e, if_neg e, if_neg e]
      exact hi k (by omega)
set_option maxHeartbeats 2000000 in
theorem r_back2 {h : am_H} (hW : Wd h) (hz : ZB 77 h) {P : Option Value → am_H → Prop} (kk : ∀ hc, Fx [71, 72, 73] [] h hc → (∀ k, k < 40 → am_i hc 71 k = am_i h 76 k ∧ am_i hc 72 k = am_i h 77 k ∧ am_l hc 73 k = am_l h 78 k) → am_E 1 m_X12_back 125 [some (.ref 50), some (.int (nI 40))] [] hc P) : ∀ q j hc, j + q = 40 → Fx [71, 72, 73] [] h hc → (∀ k, k < j → am_i hc 71 k = am_i h 76 k ∧ am_i hc 72 k = am_i h 77 k ∧ am_l hc 73 k = am_l h 78 k) → am_E 1 m_X12_back 77 [some (.ref 50), some (.int (nI j))] [] hc P := by
  intro q
  induction q with
  | zero =>
    intro j hc hj hfr hi
    have hj7 : j = 40 := by omega
    subst hj7
    have hWc := hfr.Wd hW
    refine Eq_iln dX12_back_77 rfl ?_
    refine Eq_bp (v := nI 40) dX12_back_78 rfl ?_
    refine Et_ic_ge 125 dX12_back_80 rfl (by decide +kernel) ?_
    exact kk hc hfr hi
  | succ q ih =>
    intro j hc hj hfr hi
    have hWc := hfr.Wd hW
    have ea : am_i hc 76 = am_i h 76 := hfr.ia (by decide) (by decide)
    have eb : am_i hc 77 = am_i h 77 := hfr.ia (by decide) (by decide)
    have ec : am_l hc 78 = am_l h 78 := hfr.la (by decide) (by decide)
    have hzj := hz j (by omega)
    rw [← eb] at hzj
    refine Eq_iln dX12_back_77 rfl ?_
    refine Eq_bp (v := nI 40) dX12_back_78 rfl ?_
    refine Ef_ic_ge dX12_back_80 (tgt := 125) rfl (by exact nI_ge (by omega) (by omega)) ?_
    refine Eq_aln dX12_back_83 rfl ?_
    refine Eq_getR dX12_back_84 fl_X12_76 (ws_50 hWc) rfl (wp_50_38 hWc) ?_
    refine Eq_iln dX12_back_87 rfl ?_
    refine Eq_aln dX12_back_88 rfl ?_
    refine Eq_getR dX12_back_89 fl_X12_91 (ws_50 hWc) rfl (wp_50_45 hWc) ?_
    refine Eq_iln dX12_back_92 rfl ?_
    refine Eq_ald dX12_back_93 (ws_76 hWc) (by omega) (by omega) rfl ?_
    refine Eq_ast dX12_back_94 (ws_71 hWc) (by omega) (by omega) ?_
    refine Eq_aln dX12_back_95 rfl ?_
    refine Eq_getR dX12_back_96 fl_X12_79 (ws_50 hWc) rfl (wp_50_39 hWc) ?_
    refine Eq_iln dX12_back_99 rfl ?_
    refine Eq_aln dX12_back_100 rfl ?_
    refine Eq_getR dX12_back_101 fl_X12_94 (ws_50 hWc) rfl (wp_50_46 hWc) ?_
    refine Eq_iln dX12_back_104 rfl ?_
    refine Eq_zld dX12_back_105 (ws_77 hWc) (by omega) (by omega) rfl ?_
    refine Eq_zst dX12_back_106 (ws_72 hWc) (by omega) (by omega) hzj ?_
    refine Eq_aln dX12_back_107 rfl ?_
    refine Eq_getR dX12_back_108 fl_X12_82 (ws_50 hWc) rfl (wp_50_40 hWc) ?_
    refine Eq_iln dX12_back_111 rfl ?_
    refine Eq_aln dX12_back_112 rfl ?_
    refine Eq_getR dX12_back_113 fl_X12_97 (ws_50 hWc) rfl (wp_50_47 hWc) ?_
    refine Eq_iln dX12_back_116 rfl ?_
    refine Eq_lld dX12_back_117 (ws_78 hWc) (by omega) (by omega) rfl ?_
    refine Eq_lst dX12_back_118 (ws_73 hWc) (by omega) (by omega) ?_
    refine Eq_inc dX12_back_119 rfl (by decide) ?_
    refine Eam_nl (pc' := 122) (l' := [_, _]) rfl rfl ?_
    refine Eam_x_goto (tgt := 77) dX12_back_122 rfl ?_
    refine ih (j + 1) _ (by omega) (((hfr.tr (Fx.wI (Or.inl (by decide)))).tr (Fx.wI (Or.inl (by decide)))).tr (Fx.wL (Or.inl (by decide)))) (fun k hk => ?_)
    rw [wLi, wI_ne (by decide), wI_eq, wI_eq, wI_ne (by decide), wL_eq, wIl, wIl, ea, eb]
    rw [show am_i (am_wI hc 71 j (am_i h 76 j)) 72 = am_i hc 72 from wI_ne (by decide), ec]
    by_cases e : k = j
    · subst e
      rw [if_pos rfl, if_pos rfl, if_pos rfl]
      exact ⟨rfl, rfl, rfl⟩
    · rw [if_neg e, if_neg e, if_neg e]
      exact hi k (by omega)
set_option maxHeartbeats 2000000 in
theorem r_image {h : am_H} {n : Nat} {g : Bool} {F : Nat → Nat → Nat} {S T : Nat → Nat} (hW : Wd h) (hR : RB h n g F S T) {hd : Nat} {y : Nat → Nat} {p : Nat → Bool} {st : Nat → Int64} {dr : Int64} (hTB : TB 50 41 42 71 72 73 h hd y p st dr) (hz : ZB 72 h) (h0 : ¬ n = 0) : am_D 1 m_X12_image [.ref 50] h (fun v h2 => v = some (.int (nI hd)) ∧ Fx [74, 75, 76, 77, 78] [(50, 48), (50, 49), (50, 50)] h h2 ∧ RI h2 n F S T ∧ TB 50 48 49 76 77 78 h2 hd y p st dr ∧ ZB 77 h2 ∧ am_i h2 50 50 = nI 1) := by
  obtain ⟨hn, hg, h7, hF, hB, hS, hT⟩ := id hR
  obtain ⟨hd0, h40, hdr, hk⟩ := id hTB
  refine Eq_aln dX12_image_0 rfl ?_
  refine Eq_getI dX12_image_1 fl_X12_252 (ws_50 hW) rfl (by first | assumption | rfl) ?_
  refine Et_if_ne 9 dX12_image_4 rfl (by exact nI_ne0 (by omega) (by omega)) ?_
  refine Eq_ic (v := nI 0) dX12_image_9 rfl ?_
  refine Eq_isn dX12_image_10 (by decide) ?_
  refine Eam_nl (pc' := 11) (l' := [_, _]) rfl rfl ?_
  refine r_image1 hW ?_ 7 0 h (by omega) Fx.rf (fun m hm => by omega)
  intro hc hfr hi
  have hWc := hfr.Wd hW
  refine Eq_ic (v := nI 0) dX12_image_65 rfl ?_
  refine Eq_isn dX12_image_66 (by decide) ?_
  refine Eam_nl (pc' := 67) (l' := [_, _]) rfl rfl ?_
  refine r_image2 hWc (hz.fx hfr (by decide)) ?_ 40 0 hc (by omega) Fx.rf (fun m hm => by omega)
  intro hc2 hfr2 hi2
  have hWd := hfr2.Wd hWc
  have hd2 : am_i hc2 50 41 = nI hd := (hfr2.i (by decide) (by decide)).trans ((hfr.i (by decide) (by decide)).trans hd0)
  have hdr2 : am_l hc2 50 42 = dr := (hfr2.l (by decide) (by decide)).trans ((hfr.l (by decide) (by decide)).trans hdr)
  refine Eq_aln dX12_image_115 rfl ?_
  refine Eq_aln dX12_image_116 rfl ?_
  refine Eq_getI dX12_image_117 fl_X12_264 (ws_50 hWd) rfl (by first | assumption | exact hd2) ?_
  refine Eam_x_putI dX12_image_120 (fw_X12_400 rfl) (ws_50 hWd) (Or.inl rfl) ?_
  refine Eq_aln dX12_image_123 rfl ?_
  refine Eq_aln dX12_image_124 rfl ?_
  refine Eq_getL dX12_image_125 fl_X12_393 (ws_50 hWd) rfl (by first | assumption | rfl) ?_
  refine Eam_x_putL dX12_image_128 (fw_X12_403 rfl) (ws_50 hWd) rfl ?_
  refine Eq_aln dX12_image_131 rfl ?_
  refine Eq_ic (v := nI 1) dX12_image_132 rfl ?_
  refine Eam_x_putI dX12_image_133 (fw_X12_267 rfl) (ws_50 hWd) (Or.inr ⟨rfl, by first | exact Or.inl rfl | exact Or.inr rfl | assumption⟩) ?_
  refine Eq_aln dX12_image_136 rfl ?_
  refine Eq_getI dX12_image_137 fl_X12_264 (ws_50 hWd) rfl (by first | assumption | exact hd2) ?_
  refine Eq_ir dX12_image_140 rfl ?_
  have kf : Fx [] [(50, 48), (50, 49), (50, 50)] hc2 _ := ((Fx.wI (r := 50) (j := 48) (v := nI hd) (Or.inr (by decide))).tr (Fx.wL (r := 50) (j := 49) (v := dr) (Or.inr (by decide)))).tr (Fx.wI (r := 50) (j := 50) (v := nI 1) (Or.inr (by decide)))
  have hRI : RI hc2 n F S T := ⟨fun m hm => by
    have q := hi m (by omega)
    have q1 := (hF 0 m (by omega) hm).1
    have q2 := (hF 3 m (by omega) hm).1
    have q3 := (hS m hm).1
    have q4 := hB m hm
    rw [hfr2.ia (r := 74) (by decide) (by decide), hfr2.ia (r := 75) (by decide) (by decide), q.1, q.2.1, q.2.2]
    exact ⟨q3, q1, q2, q4.1, q4.2.1⟩, hR.pm⟩
  refine ⟨rfl, ((hfr.mono (by decide) (by decide)).tr (hfr2.mono (by decide) (by decide))).tr (kf.mono (by decide) (by decide)), hRI.fx kf (by decide), ⟨?_, h40, ?_, fun k hk1 => ?_⟩, fun k hk1 => ?_, ?_⟩
  · rw [wI_o (by decide), wLi, wI_e0]
  · rw [wIl, wL_e0]
  · have q := hi2 k (by omega)
    have q2 := hk k hk1
    rw [kf.ia (r := 76) (by decide) (by decide), kf.ia (r := 77) (by decide) (by decide), kf.la (r := 78) (by decide) (by decide), q.1, q.2.1, q.2.2, hfr.ia (r := 71) (by decide) (by decide), hfr.ia (r := 72) (by decide) (by decide), hfr.la (r := 73) (by decide) (by decide)]
    exact q2
  · have q := hi2 k hk1
    rw [kf.ia (r := 77) (by decide) (by decide), q.2.1, hfr.ia (r := 72) (by decide) (by decide)]
    exact hz k hk1
  · rw [wI_e0]
set_option maxHeartbeats 2000000 in
theorem r_imageN {h : am_H} {n : Nat} {g : Bool} {F : Nat → Nat → Nat} {S T : Nat → Nat} (hW : Wd h) (hR : RB h n g F S T) (h0 : n = 0) : am_C 1 m_X12_image [.ref 50] h (some (.int (-1)), h) := by
  obtain ⟨hn, hg, h7, hF, hB, hS, hT⟩ := id hR
  refine q_aln dX12_image_0 rfl ?_
  refine q_getI dX12_image_1 fl_X12_252 (ws_50 hW) rfl (by first | assumption | rfl) ?_
  refine f_if_ne dX12_image_4 (tgt := 9) rfl (by rw [h0]; rfl) ?_
  refine q_ic (v := -1) dX12_image_7 rfl ?_
  refine q_ir dX12_image_8 rfl ?_
  rfl
set_option maxHeartbeats 2000000 in
theorem r_back1 {h : am_H} (hW : Wd h) {P : Option Value → am_H → Prop} (kk : ∀ hc, Fx [62, 63] [] h hc → (∀ m, m < 7 → am_i hc 63 m = am_i h 74 m ∧ am_i hc 62 (7 * m) = am_i h 75 (2 * m) ∧ am_i hc 62 (7 * m + 3) = am_i h 75 (2 * m + 1)) → (∀ m i, m < 7 → i < 7 → i ≠ 0 → i ≠ 3 → am_i hc 62 (7 * m + i) = am_i h 62 (7 * m + i)) → am_E 1 m_X12_back 75 [some (.ref 50), some (.int (nI 7))] [] hc P) : ∀ k j hc, j + k = 7 → Fx [62, 63] [] h hc → (∀ m, m < j → am_i hc 63 m = am_i h 74 m ∧ am_i hc 62 (7 * m) = am_i h 75 (2 * m) ∧ am_i hc 62 (7 * m + 3) = am_i h 75 (2 * m + 1)) → (∀ m i, m < 7 → i < 7 → i ≠ 0 → i ≠ 3 → am_i hc 62 (7 * m + i) = am_i h 62 (7 * m + i)) → am_E 1 m_X12_back 11 [some (.ref 50), some (.int (nI j))] [] hc P := by
  intro k
  induction k with
  | zero =>
    intro j hc hj hfr hi hi2
    have hj7 : j = 7 := by omega
    subst hj7
    have hWc := hfr.Wd hW
    refine Eq_iln dX12_back_11 rfl ?_
    refine Eq_bp (v := nI 7) dX12_back_12 rfl ?_
    refine Et_ic_ge 75 dX12_back_14 rfl (by decide +kernel) ?_
    exact kk hc hfr hi hi2
  | succ k ih =>
    intro j hc hj hfr hi hi2
    have hWc := hfr.Wd hW
    have e74 : am_i hc 74 = am_i h 74 := hfr.ia (by decide) (by decide)
    have e75 : am_i hc 75 = am_i h 75 := hfr.ia (by decide) (by decide)
    refine Eq_iln dX12_back_11 rfl ?_
    refine Eq_bp (v := nI 7) dX12_back_12 rfl ?_
    refine Ef_ic_ge dX12_back_14 (tgt := 75) rfl (by exact nI_ge (by omega) (by omega)) ?_
    refine Eq_aln dX12_back_17 rfl ?_
    refine Eq_getR dX12_back_18 fl_X12_46 (ws_50 hWc) rfl (wp_50_23 hWc) ?_
    refine Eq_iln dX12_back_21 rfl ?_
    refine Eq_aln dX12_back_22 rfl ?_
    refine Eq_getR dX12_back_23 fl_X12_85 (ws_50 hWc) rfl (wp_50_43 hWc) ?_
    refine Eq_iln dX12_back_26 rfl ?_
    refine Eq_ald dX12_back_27 (ws_74 hWc) (by omega) (by omega) rfl ?_
    refine Eq_ast dX12_back_28 (ws_63 hWc) (by omega) (by omega) ?_
    refine Eq_aln dX12_back_29 rfl ?_
    refine Eq_getR dX12_back_30 fl_X12_43 (ws_50 hWc) rfl (wp_50_20 hWc) ?_
    refine Eq_bp (v := nI 7) dX12_back_33 rfl ?_
    refine Eq_iln dX12_back_35 rfl ?_
    first | refine Eq_mul dX12_back_36 ?_ | refine Eam_x_pu dX12_back_36 rfl ?_
    refine Eq_ic (v := nI 0) dX12_back_37 rfl ?_
    first | refine Eq_add dX12_back_38 ?_ | refine Eam_x_pu dX12_back_38 rfl ?_
    refine Eq_aln dX12_back_39 rfl ?_
    refine Eq_getR dX12_back_40 fl_X12_88 (ws_50 hWc) rfl (wp_50_44 hWc) ?_
    refine Eq_ic (v := nI 2) dX12_back_43 rfl ?_
    refine Eq_iln dX12_back_44 rfl ?_
    first | refine Eq_mul dX12_back_45 ?_ | refine Eam_x_pu dX12_back_45 rfl ?_
    refine Eq_ald dX12_back_46 (ws_75 hWc) (by omega) (by omega) rfl ?_
    refine Eq_ast dX12_back_47 (ws_62 hWc) (by omega) (by omega) ?_
    refine Eq_aln dX12_back_48 rfl ?_
    refine Eq_getR dX12_back_49 fl_X12_43 (ws_50 hWc) rfl (wp_50_20 hWc) ?_
    refine Eq_bp (v := nI 7) dX12_back_52 rfl ?_
    refine Eq_iln dX12_back_54 rfl ?_
    first | refine Eq_mul dX12_back_55 ?_ | refine Eam_x_pu dX12_back_55 rfl ?_
    refine Eq_ic (v := nI 3) dX12_back_56 rfl ?_
    first | refine Eq_add dX12_back_57 ?_ | refine Eam_x_pu dX12_back_57 rfl ?_
    refine Eq_aln dX12_back_58 rfl ?_
    refine Eq_getR dX12_back_59 fl_X12_88 (ws_50 hWc) rfl (wp_50_44 hWc) ?_
    refine Eq_ic (v := nI 2) dX12_back_62 rfl ?_
    refine Eq_iln dX12_back_63 rfl ?_
    first | refine Eq_mul dX12_back_64 ?_ | refine Eam_x_pu dX12_back_64 rfl ?_
    refine Eq_ic (v := nI 1) dX12_back_65 rfl ?_
    first | refine Eq_add dX12_back_66 ?_ | refine Eam_x_pu dX12_back_66 rfl ?_
    refine Eq_ald dX12_back_67 (ws_75 hWc) (by omega) (by omega) rfl ?_
    refine Eq_ast dX12_back_68 (ws_62 hWc) (by omega) (by omega) ?_
    refine Eq_inc dX12_back_69 rfl (by decide) ?_
    refine Eam_nl (pc' := 72) (l' := [_, _]) rfl rfl ?_
    refine Eam_x_goto (tgt := 11) dX12_back_72 rfl ?_
    refine ih (j + 1) _ (by omega) (((hfr.tr (Fx.wI (Or.inl (by decide)))).tr (Fx.wI (Or.inl (by decide)))).tr (Fx.wI (Or.inl (by decide)))) (fun m hm => ?_) (fun m i hm hi1 hi0 hi3 => ?_)
    · rw [wI_ne (by decide), wI_ne (by decide), wI_eq, wI_eq, wI_eq, wI_ne (by decide), wI_eq, wI_eq, wI_ne (by decide)]
      rw [e74, e75, show am_i (am_wI hc 63 j (am_i h 74 j)) 62 = am_i hc 62 from wI_ne (by decide)]
      by_cases e : m = j
      · subst e
        rw [if_pos rfl, if_neg (by omega), if_pos (by omega), if_pos (by omega)]
        exact ⟨rfl, rfl, rfl⟩
      · rw [if_neg e, if_neg (by omega), if_neg (by omega), if_neg (by omega), if_neg (by omega)]
        exact hi m (by omega)
    · rw [wI_eq, if_neg (by omega), wI_eq, if_neg (by omega), wI_ne (by decide)]
      exact hi2 m i hm hi1 hi0 hi3
set_option maxHeartbeats 2000000 in
theorem r_back {h : am_H} {n : Nat} {g : Bool} {F : Nat → Nat → Nat} {S T : Nat → Nat} (hW : Wd h) (hR : RB h n g F S T) {hd : Nat} {y : Nat → Nat} {p : Nat → Bool} {st : Nat → Int64} {dr : Int64} {F' : Nat → Nat → Nat} {S' T' : Nat → Nat} (hTB : TB 50 48 49 76 77 78 h hd y p st dr) (hz : ZB 77 h) (hI : RI h n F' S' T') (hag : ∀ i m, i < 7 → m < n → i ≠ 0 → i ≠ 3 → F' i m = F i m) (h1 : am_i h 50 50 = nI 1) : am_D 1 m_X12_back [.ref 50] h (fun v h2 => v = some (.int (nI hd)) ∧ Fx [62, 63, 71, 72, 73] [(50, 41), (50, 42)] h h2 ∧ RB h2 n g F' S' T' ∧ TB 50 41 42 71 72 73 h2 hd y p st dr ∧ ZB 72 h2) := by
  obtain ⟨hn, hg, h7, hF, hB, hS, hT⟩ := id hR
  obtain ⟨hd0, h40, hdr, hk⟩ := id hTB
  refine Eq_aln dX12_back_0 rfl ?_
  refine Eq_getI dX12_back_1 fl_X12_267 (ws_50 hW) rfl (by first | assumption | rfl) ?_
  refine Et_if_ne 9 dX12_back_4 rfl (by exact zf1) ?_
  refine Eq_ic (v := nI 0) dX12_back_9 rfl ?_
  refine Eq_isn dX12_back_10 (by decide) ?_
  refine Eam_nl (pc' := 11) (l' := [_, _]) rfl rfl ?_
  refine r_back1 hW ?_ 7 0 h (by omega) Fx.rf (fun m hm => by omega) (fun _ _ _ _ _ _ => rfl)
  intro hc hfr hi hi1
  have hWc := hfr.Wd hW
  refine Eq_ic (v := nI 0) dX12_back_75 rfl ?_
  refine Eq_isn dX12_back_76 (by decide) ?_
  refine Eam_nl (pc' := 77) (l' := [_, _]) rfl rfl ?_
  refine r_back2 hWc (hz.fx hfr (by decide)) ?_ 40 0 hc (by omega) Fx.rf (fun m hm => by omega)
  intro hc2 hfr2 hi2
  have hWd := hfr2.Wd hWc
  have hd2 : am_i hc2 50 48 = nI hd := (hfr2.i (by decide) (by decide)).trans ((hfr.i (by decide) (by decide)).trans hd0)
  have hdr2 : am_l hc2 50 49 = dr := (hfr2.l (by decide) (by decide)).trans ((hfr.l (by decide) (by decide)).trans hdr)
  refine Eq_aln dX12_back_125 rfl ?_
  refine Eq_aln dX12_back_126 rfl ?_
  refine Eq_getI dX12_back_127 fl_X12_400 (ws_50 hWd) rfl (by first | assumption | exact hd2) ?_
  refine Eam_x_putI dX12_back_130 (fw_X12_264 rfl) (ws_50 hWd) (Or.inl rfl) ?_
  refine Eq_aln dX12_back_133 rfl ?_
  refine Eq_aln dX12_back_134 rfl ?_
  refine Eq_getL dX12_back_135 fl_X12_403 (ws_50 hWd) rfl (by first | assumption | rfl) ?_
  refine Eam_x_putL dX12_back_138 (fw_X12_393 rfl) (ws_50 hWd) rfl ?_
  refine Eq_aln dX12_back_141 rfl ?_
  refine Eq_getI dX12_back_142 fl_X12_264 (ws_50 hWd) rfl (wI_e0 (h := hc2) (r := 50) (j := 41) (v := nI hd)) ?_
  refine Eq_ir dX12_back_145 rfl ?_
  have kf : Fx [] [(50, 41), (50, 42)] hc2 _ := ((Fx.wI (r := 50) (j := 41) (v := nI hd) (Or.inr (by decide))).tr (Fx.wL (r := 50) (j := 42) (v := dr) (Or.inr (by decide))))
  have hRB : RB hc2 n g F' S' T' := by
    refine ⟨(hfr2.i (by decide) (by decide)).trans ((hfr.i (by decide) (by decide)).trans hn), (hfr2.i (by decide) (by decide)).trans ((hfr.i (by decide) (by decide)).trans hg), h7, fun i m hi' hm => ?_, fun m hm => ?_, fun s hs => ?_, hI.2.2⟩
    · rw [hfr2.ia (r := 62) (by decide) (by decide)]
      have q := hi m (by omega)
      have q2 := hI.1 m hm
      by_cases e0 : i = 0
      · subst e0
        exact ⟨q.2.1.trans q2.2.1, by omega⟩
      · by_cases e3 : i = 3
        · subst e3
          exact ⟨q.2.2.trans q2.2.2.1, by omega⟩
        · rw [hag i m hi' hm e0 e3]
          exact ⟨(hi1 m i (by omega) hi' e0 e3).trans (hF i m hi' hm).1, (hF i m hi' hm).2⟩
    · have q2 := hI.1 m hm
      have q3 := hB m hm
      rw [hag 4 m (by omega) hm (by omega) (by omega), hag 1 m (by omega) hm (by omega) (by omega), hag 5 m (by omega) hm (by omega) (by omega)]
      exact ⟨q2.2.2.2.1, q2.2.2.2.2, q3.2.2⟩
    · rw [hfr2.ia (r := 63) (by decide) (by decide)]
      exact ⟨(hi s (by omega)).1.trans (hI.1 s hs).1, hI.2.1 s hs⟩
  refine ⟨rfl, ((hfr.mono (by decide) (by decide)).tr (hfr2.mono (by decide) (by decide))).tr (kf.mono (by decide) (by decide)), hRB.fx kf (by decide), ⟨?_, h40, ?_, fun k hk1 => ?_⟩, fun k hk1 => ?_⟩
  · rw [wLi, wI_e0]
  · rw [wL_e0]
  · have q := hi2 k (by omega)
    have q2 := hk k hk1
    rw [kf.ia (r := 71) (by decide) (by decide), kf.ia (r := 72) (by decide) (by decide), kf.la (r := 73) (by decide) (by decide), q.1, q.2.1, q.2.2, hfr.ia (r := 76) (by decide) (by decide), hfr.ia (r := 77) (by decide) (by decide), hfr.la (r := 78) (by decide) (by decide)]
    exact q2
  · have q := hi2 k hk1
    rw [kf.ia (r := 72) (by decide) (by decide), q.2.1, hfr.ia (r := 77) (by decide) (by decide)]
    exact hz k hk1
set_option maxHeartbeats 2000000 in
theorem r_backN {h : am_H} (hW : Wd h) (h1 : am_i h 50 50 = nI 0) : am_C 1 m_X12_back [.ref 50] h (some (.int (-1)), h) := by
  refine q_aln dX12_back_0 rfl ?_
  refine q_getI dX12_back_1 fl_X12_267 (ws_50 hW) rfl (by first | assumption | rfl) ?_
  refine f_if_ne dX12_back_4 (tgt := 9) rfl (by rfl) ?_
  refine q_ic (v := -1) dX12_back_7 rfl ?_
  refine q_ir dX12_back_8 rfl ?_
  rfl
def coV (n : Nat) (g : Bool) (S : Nat → Nat) (mc tl kn hd : Nat) (hold : Option Nat) (p : Nat → Bool) (x : Int32) : Int32 := match rg x 9 with
  | none => -100000000
  | some k => if k = 0 then nI n else if k = 1 then nI (if g = true then 1 else 0) else if k = 2 then nI mc else if k = 3 then nI tl else if k = 4 then nI (dg S n) else if k = 5 then oN hold else if k = 6 then nI kn else if k = 7 then nI hd else nI (ct p hd)
theorem rg_out {x : Int32} {n : Nat} (h : rg x n = none) : x.toInt < 0 ∨ (n : Int) - 1 < x.toInt := by
  unfold rg at h
  split at h
  · cases h
  next hc => omega
set_option maxHeartbeats 2000000 in
theorem c_count {h : am_H} {n : Nat} {g : Bool} {F : Nat → Nat → Nat} (hW : Wd h) (hM : MB h n g F) {S T : Nat → Nat} (hS : SB 11 12 13 h n S T) {mc : Nat} {hold : Option Nat} (hc4 : am_i h 0 4 = nI mc) (hc5 : am_i h 0 5 = oN hold) {tl : Nat} {tp : Nat → Nat} (hP : TP 1 1 2 h tl tp) {kn : Nat} {ks : Nat → Nat} {ky : Nat → Bool} (hK : KB 16 3 18 19 h n kn ks ky) {hd : Nat} {y : Nat → Nat} {p : Nat → Bool} {st : Nat → Int64} {dr : Int64} (hT : TB 37 0 1 38 39 40 h hd y p st dr) {x : Int32} : am_C 1 m_X11_count [.ref 0, .int x] h (some (.int (coV n g S mc tl kn hd hold p x)), h) := by
  obtain ⟨hn, hg, h7, hF, hB⟩ := id hM
  have hp0 := hP.1
  have hk0 := hK.1
  have hd0 := hT.1
  unfold coV
  cases hr : rg x 9 with
  | none =>
    have ho := rg_out hr
    refine q_iln dX11_count_0 rfl ?_
    refine am_x_tOut (tgt := 126) dX11_count_1 (by omega) rfl ?_
    refine am_x_ldc dX11_count_126 kc_X11_252 ?_
    refine q_ir dX11_count_128 rfl ?_
    rfl
  | some k =>
    obtain ⟨rfl, hk⟩ := rg_some (by omega) hr
    rcases (show k = 0 ∨ k = 1 ∨ k = 2 ∨ k = 3 ∨ k = 4 ∨ k = 5 ∨ k = 6 ∨ k = 7 ∨ k = 8 by omega) with rfl | rfl | rfl | rfl | rfl | rfl | rfl | rfl | rfl
    · refine q_iln dX11_count_0 rfl ?_
      refine am_x_tIn (tgt := 52) dX11_count_1 (by decide +kernel) (by decide +kernel) rfl rfl ?_
      refine q_aln dX11_count_52 rfl ?_
      refine q_getR dX11_count_53 fl_X11_48 (ws_0 hW) rfl (wp_0_6 hW) ?_
      refine q_getI dX11_count_56 fl_X11_146 (ws_9 hW) rfl (by first | assumption | rfl) ?_
      refine q_ir dX11_count_59 rfl ?_
      rfl
    · by_cases hgg : g = true
      · rw [if_pos hgg]
        refine q_iln dX11_count_0 rfl ?_
        refine am_x_tIn (tgt := 60) dX11_count_1 (by decide +kernel) (by decide +kernel) rfl rfl ?_
        refine q_aln dX11_count_60 rfl ?_
        refine q_getR dX11_count_61 fl_X11_48 (ws_0 hW) rfl (wp_0_6 hW) ?_
        refine q_getI dX11_count_64 fl_X11_325 (ws_9 hW) rfl (by first | assumption | exact hg) ?_
        refine f_if_eq dX11_count_67 (tgt := 74) rfl (by rw [if_pos hgg]; exact zf1) ?_
        refine q_ic (v := nI 1) dX11_count_70 rfl ?_
        refine am_x_goto (tgt := 75) dX11_count_71 rfl ?_
        refine q_ir dX11_count_75 rfl ?_
        rfl
      · rw [if_neg hgg]
        refine q_iln dX11_count_0 rfl ?_
        refine am_x_tIn (tgt := 60) dX11_count_1 (by decide +kernel) (by decide +kernel) rfl rfl ?_
        refine q_aln dX11_count_60 rfl ?_
        refine q_getR dX11_count_61 fl_X11_48 (ws_0 hW) rfl (wp_0_6 hW) ?_
        refine q_getI dX11_count_64 fl_X11_325 (ws_9 hW) rfl (by first | assumption | exact hg) ?_
        refine t_if_eq 74 dX11_count_67 rfl (by rw [if_neg hgg]; rfl) ?_
        refine q_ic (v := nI 0) dX11_count_74 rfl ?_
        refine q_ir dX11_count_75 rfl ?_
        rfl
    · refine q_iln dX11_count_0 rfl ?_
      refine am_x_tIn (tgt := 76) dX11_count_1 (by decide +kernel) (by decide +kernel) rfl rfl ?_
      refine q_aln dX11_count_76 rfl ?_
      refine q_getI dX11_count_77 fl_X11_38 (ws_0 hW) rfl (by first | assumption | rfl) ?_
      refine q_ir dX11_count_80 rfl ?_
      rfl
    · refine q_iln dX11_count_0 rfl ?_
      refine am_x_tIn (tgt := 81) dX11_count_1 (by decide +kernel) (by decide +kernel) rfl rfl ?_
      refine q_aln dX11_count_81 rfl ?_
      refine q_getR dX11_count_82 fl_X11_10 (ws_0 hW) rfl (wp_0_0 hW) ?_
      refine q_getI dX11_count_85 fl_X11_125 (ws_1 hW) rfl (by first | assumption | rfl) ?_
      refine q_ir dX11_count_88 rfl ?_
      rfl
    · refine q_iln dX11_count_0 rfl ?_
      refine am_x_tIn (tgt := 89) dX11_count_1 (by decide +kernel) (by decide +kernel) rfl rfl ?_
      refine q_aln dX11_count_89 rfl ?_
      refine q_getR dX11_count_90 fl_X11_55 (ws_0 hW) rfl (wp_0_7 hW) ?_
      refine q_V0 (N := m_X6_digits) dX11_count_93 lk_X11_328 mV_X6_digits (c_digits11 hW hS) (by decide) (ws_11 hW) rfl (by decide) (Nat.le_of_ble_eq_true rfl) (Nat.le_of_ble_eq_true rfl) ?_
      refine q_ir dX11_count_96 rfl ?_
      rfl
    · refine q_iln dX11_count_0 rfl ?_
      refine am_x_tIn (tgt := 97) dX11_count_1 (by decide +kernel) (by decide +kernel) rfl rfl ?_
      refine q_aln dX11_count_97 rfl ?_
      refine q_getI dX11_count_98 fl_X11_42 (ws_0 hW) rfl (by first | assumption | rfl) ?_
      refine q_ir dX11_count_101 rfl ?_
      rfl
    · refine q_iln dX11_count_0 rfl ?_
      refine am_x_tIn (tgt := 102) dX11_count_1 (by decide +kernel) (by decide +kernel) rfl rfl ?_
      refine q_aln dX11_count_102 rfl ?_
      refine q_getR dX11_count_103 fl_X11_73 (ws_0 hW) rfl (wp_0_9 hW) ?_
      refine q_getI dX11_count_106 fl_X11_331 (ws_16 hW) rfl (by first | assumption | rfl) ?_
      refine q_ir dX11_count_109 rfl ?_
      rfl
    · refine q_iln dX11_count_0 rfl ?_
      refine am_x_tIn (tgt := 110) dX11_count_1 (by decide +kernel) (by decide +kernel) rfl rfl ?_
      refine q_aln dX11_count_110 rfl ?_
      refine q_getR dX11_count_111 fl_X11_96 (ws_0 hW) rfl (wp_0_12 hW) ?_
      refine q_getI dX11_count_114 fl_X11_155 (ws_37 hW) rfl (by first | assumption | rfl) ?_
      refine q_ir dX11_count_117 rfl ?_
      rfl
    · refine q_iln dX11_count_0 rfl ?_
      refine am_x_tIn (tgt := 118) dX11_count_1 (by decide +kernel) (by decide +kernel) rfl rfl ?_
      refine q_aln dX11_count_118 rfl ?_
      refine q_getR dX11_count_119 fl_X11_96 (ws_0 hW) rfl (wp_0_12 hW) ?_
      refine q_V0 (N := m_X7_passedOnes) dX11_count_122 lk_X11_334 mV_X7_passedOnes (c_passedOnes hW hT) (by decide) (ws_37 hW) rfl (by decide) (Nat.le_of_ble_eq_true rfl) (Nat.le_of_ble_eq_true rfl) ?_
      refine q_ir dX11_count_125 rfl ?_
      rfl
set_option maxHeartbeats 2000000 in
theorem r_count {h : am_H} {n : Nat} {g : Bool} {F : Nat → Nat → Nat} {S T : Nat → Nat} (hW : Wd h) (hR : RB h n g F S T) (h0g : n = 0 → g = false) {mc : Nat} {hold : Option Nat} (hc4 : am_i h 50 13 = nI mc) (hc5 : am_i h 50 24 = oN hold) {tl : Nat} {tp : Nat → Nat} (hP : TP 50 2 51 h tl tp) {kn : Nat} {ks : Nat → Nat} {ky : Nat → Bool} (hK : KB 50 36 68 69 h n kn ks ky) {hd : Nat} {y : Nat → Nat} {p : Nat → Bool} {st : Nat → Int64} {dr : Int64} (hTB : TB 50 41 42 71 72 73 h hd y p st dr) {x : Int32} : am_C 1 m_X12_count [.ref 50, .int x] h (some (.int (coV n g S mc tl kn hd hold p x)), h) := by
  obtain ⟨hn, hg, h7, hF, hB, hS, hT⟩ := id hR
  have hp0 := hP.1
  have hk0 := hK.1
  have hd0 := hTB.1
  unfold coV
  cases hr : rg x 9 with
  | none =>
    have ho := rg_out hr
    refine q_iln dX12_count_0 rfl ?_
    refine am_x_tOut (tgt := 112) dX12_count_1 (by omega) rfl ?_
    refine am_x_ldcw dX12_count_112 kc_X12_358 ?_
    refine q_ir dX12_count_115 rfl ?_
    rfl
  | some k =>
    obtain ⟨rfl, hk⟩ := rg_some (by omega) hr
    rcases (show k = 0 ∨ k = 1 ∨ k = 2 ∨ k = 3 ∨ k = 4 ∨ k = 5 ∨ k = 6 ∨ k = 7 ∨ k = 8 by omega) with rfl | rfl | rfl | rfl | rfl | rfl | rfl | rfl | rfl
    · refine q_iln dX12_count_0 rfl ?_
      refine am_x_tIn (tgt := 52) dX12_count_1 (by decide +kernel) (by decide +kernel) rfl rfl ?_
      refine q_aln dX12_count_52 rfl ?_
      refine q_getI dX12_count_53 fl_X12_252 (ws_50 hW) rfl (by first | assumption | rfl) ?_
      refine q_ir dX12_count_56 rfl ?_
      rfl
    · by_cases h0 : n = 0
      · rw [h0g h0]
        refine q_iln dX12_count_0 rfl ?_
        refine am_x_tIn (tgt := 57) dX12_count_1 (by decide +kernel) (by decide +kernel) rfl rfl ?_
        refine q_aln dX12_count_57 rfl ?_
        refine q_getI dX12_count_58 fl_X12_252 (ws_50 hW) rfl (by first | assumption | exact hg) ?_
        refine t_if_le 75 dX12_count_61 rfl (by rw [h0]; exact (nI_le (a := 0) (b := 0) (by omega) (by omega))) ?_
        refine q_ic (v := nI 0) dX12_count_75 rfl ?_
        refine q_ir dX12_count_76 rfl ?_
        rfl
      · by_cases hgg : g = true
        · rw [if_pos hgg]
          refine q_iln dX12_count_0 rfl ?_
          refine am_x_tIn (tgt := 57) dX12_count_1 (by decide +kernel) (by decide +kernel) rfl rfl ?_
          refine q_aln dX12_count_57 rfl ?_
          refine q_getI dX12_count_58 fl_X12_252 (ws_50 hW) rfl (by first | assumption | exact hg) ?_
          refine f_if_le dX12_count_61 (tgt := 75) rfl (by exact nI_ge (a := 0) (by omega) (by omega)) ?_
          refine q_aln dX12_count_64 rfl ?_
          refine q_getI dX12_count_65 fl_X12_255 (ws_50 hW) rfl (by first | assumption | exact hg) ?_
          refine f_if_eq dX12_count_68 (tgt := 75) rfl (by rw [if_pos hgg]; exact zf1) ?_
          refine q_ic (v := nI 1) dX12_count_71 rfl ?_
          refine am_x_goto (tgt := 76) dX12_count_72 rfl ?_
          refine q_ir dX12_count_76 rfl ?_
          rfl
        · rw [if_neg hgg]
          refine q_iln dX12_count_0 rfl ?_
          refine am_x_tIn (tgt := 57) dX12_count_1 (by decide +kernel) (by decide +kernel) rfl rfl ?_
          refine q_aln dX12_count_57 rfl ?_
          refine q_getI dX12_count_58 fl_X12_252 (ws_50 hW) rfl (by first | assumption | exact hg) ?_
          refine f_if_le dX12_count_61 (tgt := 75) rfl (by exact nI_ge (a := 0) (by omega) (by omega)) ?_
          refine q_aln dX12_count_64 rfl ?_
          refine q_getI dX12_count_65 fl_X12_255 (ws_50 hW) rfl (by first | assumption | exact hg) ?_
          refine t_if_eq 75 dX12_count_68 rfl (by rw [if_neg hgg]; rfl) ?_
          refine q_ic (v := nI 0) dX12_count_75 rfl ?_
          refine q_ir dX12_count_76 rfl ?_
          rfl
    · refine q_iln dX12_count_0 rfl ?_
      refine am_x_tIn (tgt := 77) dX12_count_1 (by decide +kernel) (by decide +kernel) rfl rfl ?_
      refine q_aln dX12_count_77 rfl ?_
      refine q_getI dX12_count_78 fl_X12_273 (ws_50 hW) rfl (by first | assumption | rfl) ?_
      refine q_ir dX12_count_81 rfl ?_
      rfl
    · refine q_iln dX12_count_0 rfl ?_
      refine am_x_tIn (tgt := 82) dX12_count_1 (by decide +kernel) (by decide +kernel) rfl rfl ?_
      refine q_aln dX12_count_82 rfl ?_
      refine q_getI dX12_count_83 fl_X12_107 (ws_50 hW) rfl (by first | assumption | rfl) ?_
      refine q_ir dX12_count_86 rfl ?_
      rfl
    · refine q_iln dX12_count_0 rfl ?_
      refine am_x_tIn (tgt := 87) dX12_count_1 (by decide +kernel) (by decide +kernel) rfl rfl ?_
      refine q_aln dX12_count_87 rfl ?_
      refine q_V0 (N := m_X12_digits) dX12_count_88 lk_X12_368 mV_X12_digits (r_digits hW hR) (by decide) (ws_50 hW) rfl (by decide) (Nat.le_of_ble_eq_true rfl) (Nat.le_of_ble_eq_true rfl) ?_
      refine q_ir dX12_count_91 rfl ?_
      rfl
    · refine q_iln dX12_count_0 rfl ?_
      refine am_x_tIn (tgt := 92) dX12_count_1 (by decide +kernel) (by decide +kernel) rfl rfl ?_
      refine q_aln dX12_count_92 rfl ?_
      refine q_getI dX12_count_93 fl_X12_49 (ws_50 hW) rfl (by first | assumption | rfl) ?_
      refine q_ir dX12_count_96 rfl ?_
      rfl
    · refine q_iln dX12_count_0 rfl ?_
      refine am_x_tIn (tgt := 97) dX12_count_1 (by decide +kernel) (by decide +kernel) rfl rfl ?_
      refine q_aln dX12_count_97 rfl ?_
      refine q_getI dX12_count_98 fl_X12_261 (ws_50 hW) rfl (by first | assumption | rfl) ?_
      refine q_ir dX12_count_101 rfl ?_
      rfl
    · refine q_iln dX12_count_0 rfl ?_
      refine am_x_tIn (tgt := 102) dX12_count_1 (by decide +kernel) (by decide +kernel) rfl rfl ?_
      refine q_aln dX12_count_102 rfl ?_
      refine q_getI dX12_count_103 fl_X12_264 (ws_50 hW) rfl (by first | assumption | rfl) ?_
      refine q_ir dX12_count_106 rfl ?_
      rfl
    · refine q_iln dX12_count_0 rfl ?_
      refine am_x_tIn (tgt := 107) dX12_count_1 (by decide +kernel) (by decide +kernel) rfl rfl ?_
      refine q_aln dX12_count_107 rfl ?_
      refine q_V0 (N := m_X12_passedMany) dX12_count_108 lk_X12_406 mV_X12_passedMany (r_passedMany hW hTB) (by decide) (ws_50 hW) rfl (by decide) (Nat.le_of_ble_eq_true rfl) (Nat.le_of_ble_eq_true rfl) ?_
      refine q_ir dX12_count_111 rfl ?_
      rfl
