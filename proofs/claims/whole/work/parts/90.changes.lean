/-! the class's changes -/
def KC (h : am_H) (n : Nat) (g : Bool) (F : Nat → Nat → Nat) (l0 : List Nat) : Prop := am_i h 29 7 = nI 0 ∨ (am_i h 29 7 = nI 1 ∧ ∃ o, Ans n g F l0 o ∧ am_i h 29 8 = oN (o.map Prod.fst) ∧ am_i h 29 9 = oN (o.map Prod.snd))
theorem KC.fx {A : List Nat} {B : List (Nat × Nat)} {h h' : am_H} {n : Nat} {g : Bool} {F : Nat → Nat → Nat} {l0 : List Nat} (m : KC h n g F l0) (a : Fx A B h h') (ok : 29 ∉ A ∧ (29, 7) ∉ B ∧ (29, 8) ∉ B ∧ (29, 9) ∉ B) : KC h' n g F l0 := by
  unfold KC at m ⊢
  rw [a.i ok.1 ok.2.1, a.i ok.1 ok.2.2.1, a.i ok.1 ok.2.2.2]
  exact m
def chV (n : Nat) (o : Option (Nat × Nat)) (x : Int32) : Int32 := if n = 0 then -1 else match rg x 2 with
  | none => -1
  | some w => if w = 0 then oN (o.map Prod.fst) else oN (o.map Prod.snd)
def chP (n : Nat) (g : Bool) (F : Nat → Nat → Nat) (l0 : List Nat) (x : Int32) (v : Option Value) : Prop := ∃ o, (n ≠ 0 → rg x 2 ≠ none → Ans n g F l0 o) ∧ v = some (.int (chV n o x))
theorem chP_uq {n : Nat} {g : Bool} {F : Nat → Nat → Nat} {l0 : List Nat} {x : Int32} {v v' : Option Value} (h : chP n g F l0 x v) (h' : chP n g F l0 x v') : v = v' := by
  obtain ⟨o, a1, rfl⟩ := h
  obtain ⟨o', b1, rfl⟩ := h'
  by_cases h0 : n = 0
  · unfold chV
    rw [if_pos h0, if_pos h0]
  · cases hr : rg x 2 with
    | none => unfold chV; rw [hr]
    | some w =>
      have := Ans_uq (a1 h0 (by rw [hr]; exact fun z => nomatch z)) (b1 h0 (by rw [hr]; exact fun z => nomatch z))
      rw [this]
set_option maxHeartbeats 2000000 in
theorem c_searchC {h : am_H} {n : Nat} {g : Bool} {F : Nat → Nat → Nat} (hW : Wd h) (hM : MB h n g F) {S T : Nat → Nat} (hS : SB 11 12 13 h n S T) (hK : KC h n g F (lS n S)) : am_D 10 m_X1_search [.ref 29] h (fun v h2 => v = none ∧ Fx [30, 31, 32, 35, 36] [(29, 5), (29, 7), (29, 8), (29, 9)] h h2 ∧ am_i h2 29 7 = nI 1 ∧ ∃ o, Ans n g F (lS n S) o ∧ am_i h2 29 8 = oN (o.map Prod.fst) ∧ am_i h2 29 9 = oN (o.map Prod.snd)) := by
  have h7 := hM.2.2.1
  rcases hK with hk0 | ⟨hk1, ho⟩
  · have k3 : Fx [30, 31, 32, 35, 36] [(29, 5), (29, 7), (29, 8), (29, 9)] h (am_wI (am_wI (am_wI h 29 7 (nI 1)) 29 8 (-1)) 29 9 (-1)) := (Fx.wI (Or.inr (by decide))).tr ((Fx.wI (Or.inr (by decide))).tr (Fx.wI (Or.inr (by decide))))
    have hM3 := hM.fx k3 (by decide)
    have hL8 : bt (fun m => decide (F 3 m ≠ 1)) n < 128 := bt_128 _ h7
    by_cases hl : bt (fun m => decide (F 3 m ≠ 1)) n = 0
    · refine Eq_aln dX1_search_0 rfl ?_
      refine Eq_getI dX1_search_1 fl_X1_46 (ws_29 hW) rfl hk0 ?_
      refine Et_if_eq 8 dX1_search_4 rfl (by rfl) ?_
      refine Eq_aln dX1_search_8 rfl ?_
      refine Eq_ic (v := nI 1) dX1_search_9 rfl ?_
      refine Eam_x_putI dX1_search_10 (fw_X1_46 rfl) (ws_29 hW) (Or.inr ⟨rfl, by first | exact Or.inl rfl | exact Or.inr rfl | assumption⟩) ?_
      refine Eq_aln dX1_search_13 rfl ?_
      refine Eq_ic (v := -1) dX1_search_14 rfl ?_
      refine Eam_x_putI dX1_search_15 (fw_X1_50 rfl) (ws_29 hW) (Or.inl rfl) ?_
      refine Eq_aln dX1_search_18 rfl ?_
      refine Eq_ic (v := -1) dX1_search_19 rfl ?_
      refine Eam_x_putI dX1_search_20 (fw_X1_53 rfl) (ws_29 hW) (Or.inl rfl) ?_
      refine Eq_aln dX1_search_23 rfl ?_
      refine Eq_getR dX1_search_24 fl_X1_9 (ws_29 hW) rfl (wp_29_0 hW) ?_
      refine Eq_V0 (N := m_X5_living) dX1_search_27 lk_X1_56 mV_X5_living (c_living (k3.Wd hW) hM3) (by omega) (ws_9 hW) rfl (by decide) (Nat.le_of_ble_eq_true rfl) (Nat.le_of_ble_eq_true rfl) ?_
      refine Eq_isn dX1_search_30 (by decide) ?_
      refine Eam_nl (pc' := 31) (l' := [_, _]) rfl rfl ?_
      refine Eq_iln dX1_search_31 rfl ?_
      refine Et_if_eq 45 dX1_search_32 rfl (by rw [hl]; rfl) ?_
      refine Eq_aln dX1_search_45 rfl ?_
      refine Eq_W0 (N := m_X1_goThrough) dX1_search_46 lk_X1_66 mV_X1_goThrough (c_goThrough (k3.Wd hW) hM3 (hS.fx k3 (by decide)) (by rw [wI_o (by decide), wI_e0]) wI_e0) (by omega) (ws_29 hW) rfl (by decide) (Nat.le_of_ble_eq_true rfl) (Nat.le_of_ble_eq_true rfl) (fun vq hq1 hq2 => ?_)
      obtain ⟨rfl, hf4, o, ho, h8, h9⟩ := hq2
      refine Eq_vr dX1_search_49 rfl ?_
      exact ⟨rfl, k3.tr (hf4.mono (by decide) (by decide)), (hf4.i (by decide) (by decide)).trans (by rw [wI_o (by decide), wI_o (by decide), wI_e0]), o, ho, h8, h9⟩
    · have hln : ¬ nI (bt (fun m => decide (F 3 m ≠ 1)) n) = 0 := fun z => hl ((n_0 (by omega)).mp z)
      have hpl := popc_le (bt (fun m => decide (F 3 m ≠ 1)) n)
      have hcb := c_cbo (k3.Wd hW) hM3 (popc (bt (fun m => decide (F 3 m ≠ 1)) n)) (bt (fun m => decide (F 3 m ≠ 1)) n) none none rfl hL8 (fun i hi => by rw [bt_test] at hi; simp only [Bool.and_eq_true, decide_eq_true_eq] at hi; exact hi.1) (fun x e => nomatch e) (fun x e => nomatch e) (fun z => absurd z hl)
      by_cases hc : cbo n g F (popc (bt (fun m => decide (F 3 m ≠ 1)) n)) (bt (fun m => decide (F 3 m ≠ 1)) n) none none = true
      · rw [if_pos hc] at hcb
        refine Eq_aln dX1_search_0 rfl ?_
        refine Eq_getI dX1_search_1 fl_X1_46 (ws_29 hW) rfl hk0 ?_
        refine Et_if_eq 8 dX1_search_4 rfl (by rfl) ?_
        refine Eq_aln dX1_search_8 rfl ?_
        refine Eq_ic (v := nI 1) dX1_search_9 rfl ?_
        refine Eam_x_putI dX1_search_10 (fw_X1_46 rfl) (ws_29 hW) (Or.inr ⟨rfl, by first | exact Or.inl rfl | exact Or.inr rfl | assumption⟩) ?_
        refine Eq_aln dX1_search_13 rfl ?_
        refine Eq_ic (v := -1) dX1_search_14 rfl ?_
        refine Eam_x_putI dX1_search_15 (fw_X1_50 rfl) (ws_29 hW) (Or.inl rfl) ?_
        refine Eq_aln dX1_search_18 rfl ?_
        refine Eq_ic (v := -1) dX1_search_19 rfl ?_
        refine Eam_x_putI dX1_search_20 (fw_X1_53 rfl) (ws_29 hW) (Or.inl rfl) ?_
        refine Eq_aln dX1_search_23 rfl ?_
        refine Eq_getR dX1_search_24 fl_X1_9 (ws_29 hW) rfl (wp_29_0 hW) ?_
        refine Eq_V0 (N := m_X5_living) dX1_search_27 lk_X1_56 mV_X5_living (c_living (k3.Wd hW) hM3) (by omega) (ws_9 hW) rfl (by decide) (Nat.le_of_ble_eq_true rfl) (Nat.le_of_ble_eq_true rfl) ?_
        refine Eq_isn dX1_search_30 (by decide) ?_
        refine Eam_nl (pc' := 31) (l' := [_, _]) rfl rfl ?_
        refine Eq_iln dX1_search_31 rfl ?_
        refine Ef_if_eq dX1_search_32 (tgt := 45) rfl (by exact hln) ?_
        refine Eq_aln dX1_search_35 rfl ?_
        refine Eq_iln dX1_search_36 rfl ?_
        refine Eq_ic (v := -1) dX1_search_37 rfl ?_
        refine Eq_ic (v := -1) dX1_search_38 rfl ?_
        refine Eq_V3 (N := m_X1_canBeOrdered) dX1_search_39 lk_X1_62 mV_X1_canBeOrdered (hcb) (by omega) (ws_29 hW) rfl (by decide) (Nat.le_of_ble_eq_true rfl) (Nat.le_of_ble_eq_true rfl) ?_
        refine Ef_if_eq dX1_search_42 (tgt := 49) rfl (by exact zf1) ?_
        refine Eq_aln dX1_search_45 rfl ?_
        refine Eq_W0 (N := m_X1_goThrough) dX1_search_46 lk_X1_66 mV_X1_goThrough (c_goThrough (k3.Wd hW) hM3 (hS.fx k3 (by decide)) (by rw [wI_o (by decide), wI_e0]) wI_e0) (by omega) (ws_29 hW) rfl (by decide) (Nat.le_of_ble_eq_true rfl) (Nat.le_of_ble_eq_true rfl) (fun vq hq1 hq2 => ?_)
        obtain ⟨rfl, hf4, o, ho, h8, h9⟩ := hq2
        refine Eq_vr dX1_search_49 rfl ?_
        exact ⟨rfl, k3.tr (hf4.mono (by decide) (by decide)), (hf4.i (by decide) (by decide)).trans (by rw [wI_o (by decide), wI_o (by decide), wI_e0]), o, ho, h8, h9⟩
      · rw [if_neg hc] at hcb
        refine Eq_aln dX1_search_0 rfl ?_
        refine Eq_getI dX1_search_1 fl_X1_46 (ws_29 hW) rfl hk0 ?_
        refine Et_if_eq 8 dX1_search_4 rfl (by rfl) ?_
        refine Eq_aln dX1_search_8 rfl ?_
        refine Eq_ic (v := nI 1) dX1_search_9 rfl ?_
        refine Eam_x_putI dX1_search_10 (fw_X1_46 rfl) (ws_29 hW) (Or.inr ⟨rfl, by first | exact Or.inl rfl | exact Or.inr rfl | assumption⟩) ?_
        refine Eq_aln dX1_search_13 rfl ?_
        refine Eq_ic (v := -1) dX1_search_14 rfl ?_
        refine Eam_x_putI dX1_search_15 (fw_X1_50 rfl) (ws_29 hW) (Or.inl rfl) ?_
        refine Eq_aln dX1_search_18 rfl ?_
        refine Eq_ic (v := -1) dX1_search_19 rfl ?_
        refine Eam_x_putI dX1_search_20 (fw_X1_53 rfl) (ws_29 hW) (Or.inl rfl) ?_
        refine Eq_aln dX1_search_23 rfl ?_
        refine Eq_getR dX1_search_24 fl_X1_9 (ws_29 hW) rfl (wp_29_0 hW) ?_
        refine Eq_V0 (N := m_X5_living) dX1_search_27 lk_X1_56 mV_X5_living (c_living (k3.Wd hW) hM3) (by omega) (ws_9 hW) rfl (by decide) (Nat.le_of_ble_eq_true rfl) (Nat.le_of_ble_eq_true rfl) ?_
        refine Eq_isn dX1_search_30 (by decide) ?_
        refine Eam_nl (pc' := 31) (l' := [_, _]) rfl rfl ?_
        refine Eq_iln dX1_search_31 rfl ?_
        refine Ef_if_eq dX1_search_32 (tgt := 45) rfl (by exact hln) ?_
        refine Eq_aln dX1_search_35 rfl ?_
        refine Eq_iln dX1_search_36 rfl ?_
        refine Eq_ic (v := -1) dX1_search_37 rfl ?_
        refine Eq_ic (v := -1) dX1_search_38 rfl ?_
        refine Eq_V3 (N := m_X1_canBeOrdered) dX1_search_39 lk_X1_62 mV_X1_canBeOrdered (hcb) (by omega) (ws_29 hW) rfl (by decide) (Nat.le_of_ble_eq_true rfl) (Nat.le_of_ble_eq_true rfl) ?_
        refine Et_if_eq 49 dX1_search_42 rfl (by rfl) ?_
        refine Eq_vr dX1_search_49 rfl ?_
        exact ⟨rfl, k3, by rw [wI_o (by decide), wI_o (by decide), wI_e0], none, fun d l hl2 => cbo_no h7 hl hc (Rc_PL (lS_PL hS.pm) hl2), by rw [wI_o (by decide), wI_e0]; rfl, wI_e0⟩
  · refine Eq_aln dX1_search_0 rfl ?_
    refine Eq_getI dX1_search_1 fl_X1_46 (ws_29 hW) rfl hk1 ?_
    refine Ef_if_eq dX1_search_4 (tgt := 8) rfl (by exact zf1) ?_
    refine Eq_vr dX1_search_7 rfl ?_
    exact ⟨rfl, Fx.rf, hk1, ho⟩
set_option maxHeartbeats 2000000 in
theorem c_changes {h : am_H} {n : Nat} {g : Bool} {F : Nat → Nat → Nat} (hW : Wd h) (hM : MB h n g F) {S T : Nat → Nat} (hS : SB 11 12 13 h n S T) (hK : KC h n g F (lS n S)) {x : Int32} : am_D 11 m_X11_changes [.ref 0, .int x] h (fun v h2 => chP n g F (lS n S) x v ∧ Fx [30, 31, 32, 35, 36] [(29, 5), (29, 7), (29, 8), (29, 9)] h h2 ∧ KC h2 n g F (lS n S)) := by
  have h7 := hM.2.2.1
  by_cases h0 : n = 0
  · refine Eq_aln dX11_changes_0 rfl ?_
    refine Eq_getR dX11_changes_1 fl_X11_48 (ws_0 hW) rfl (wp_0_6 hW) ?_
    refine Eq_getI dX11_changes_4 fl_X11_146 (ws_9 hW) rfl hM.1 ?_
    refine Et_if_eq 19 dX11_changes_7 rfl (by rw [h0]; rfl) ?_
    refine Eq_ic (v := -1) dX11_changes_19 rfl ?_
    refine Eq_ir dX11_changes_20 rfl ?_
    exact ⟨⟨none, fun z => absurd h0 z, by unfold chV; rw [if_pos h0]⟩, Fx.rf, hK⟩
  · cases hr : rg x (2) with
    | none =>
      rcases rg_none (by omega) hr with hx | ⟨hx, hy⟩
      · refine Eq_aln dX11_changes_0 rfl ?_
        refine Eq_getR dX11_changes_1 fl_X11_48 (ws_0 hW) rfl (wp_0_6 hW) ?_
        refine Eq_getI dX11_changes_4 fl_X11_146 (ws_9 hW) rfl hM.1 ?_
        refine Ef_if_eq dX11_changes_7 (tgt := 19) rfl (by exact nI_ne0 (by omega) (by omega)) ?_
        refine Eq_iln dX11_changes_10 rfl ?_
        refine Et_if_lt 19 dX11_changes_11 rfl (by exact hx) ?_
        refine Eq_ic (v := -1) dX11_changes_19 rfl ?_
        refine Eq_ir dX11_changes_20 rfl ?_
        exact ⟨⟨none, fun _ z => absurd hr z, by unfold chV; rw [hr, if_neg h0]⟩, Fx.rf, hK⟩
      · refine Eq_aln dX11_changes_0 rfl ?_
        refine Eq_getR dX11_changes_1 fl_X11_48 (ws_0 hW) rfl (wp_0_6 hW) ?_
        refine Eq_getI dX11_changes_4 fl_X11_146 (ws_9 hW) rfl hM.1 ?_
        refine Ef_if_eq dX11_changes_7 (tgt := 19) rfl (by exact nI_ne0 (by omega) (by omega)) ?_
        refine Eq_iln dX11_changes_10 rfl ?_
        refine Ef_if_lt dX11_changes_11 (tgt := 19) rfl (by exact hx) ?_
        refine Eq_iln dX11_changes_14 rfl ?_
        refine Eq_ic (v := nI 1) dX11_changes_15 rfl ?_
        refine Ef_ic_le dX11_changes_16 (tgt := 21) rfl (by exact rg_gt (by omega) hy) ?_
        refine Eq_ic (v := -1) dX11_changes_19 rfl ?_
        refine Eq_ir dX11_changes_20 rfl ?_
        exact ⟨⟨none, fun _ z => absurd hr z, by unfold chV; rw [hr, if_neg h0]⟩, Fx.rf, hK⟩
    | some w =>
      obtain ⟨rfl, hw⟩ := rg_some (by omega) hr
      by_cases e0 : w = 0
      · subst e0
        refine Eq_aln dX11_changes_0 rfl ?_
        refine Eq_getR dX11_changes_1 fl_X11_48 (ws_0 hW) rfl (wp_0_6 hW) ?_
        refine Eq_getI dX11_changes_4 fl_X11_146 (ws_9 hW) rfl (by first | exact hM.1 | exact h8 | exact h9) ?_
        refine Ef_if_eq dX11_changes_7 (tgt := 19) rfl (by exact nI_ne0 (by omega) (by omega)) ?_
        refine Eq_iln dX11_changes_10 rfl ?_
        refine En_if_lt (tgt := 19) dX11_changes_11 rfl (by omega) ?_
        refine Eq_iln dX11_changes_14 rfl ?_
        refine Eq_ic (v := nI 1) dX11_changes_15 rfl ?_
        refine Et_ic_le 21 dX11_changes_16 rfl (by exact nI_le (by omega) (by omega)) ?_
        refine Eq_aln dX11_changes_21 rfl ?_
        refine Eq_getR dX11_changes_22 fl_X11_89 (ws_0 hW) rfl (wp_0_11 hW) ?_
        refine Eq_W0 (N := m_X1_search) dX11_changes_25 lk_X11_266 mV_X1_search (c_searchC hW hM hS hK) (by decide) (ws_29 hW) rfl (by decide) (Nat.le_of_ble_eq_true rfl) (Nat.le_of_ble_eq_true rfl) (fun vq hq1 hq2 => ?_)
        obtain ⟨rfl, hf2, h7k, o, ho, h8, h9⟩ := hq2
        have hW2 := hf2.Wd hW
        refine Eq_iln dX11_changes_28 rfl ?_
        refine Ef_if_ne dX11_changes_29 (tgt := 42) rfl (by rfl) ?_
        refine Eq_aln dX11_changes_32 rfl ?_
        refine Eq_getR dX11_changes_33 fl_X11_89 (ws_0 hW2) rfl (wp_0_11 hW2) ?_
        refine Eq_getI dX11_changes_36 fl_X11_268 (ws_29 hW2) rfl (by first | exact hM.1 | exact h8 | exact h9) ?_
        refine Eam_x_goto (tgt := 49) dX11_changes_39 rfl ?_
        refine Eq_ir dX11_changes_49 rfl ?_
        exact ⟨⟨o, fun _ _ => ho, by unfold chV; rw [hr, if_neg h0]; rfl⟩, hf2, Or.inr ⟨h7k, o, ho, h8, h9⟩⟩
      · have hw0 : ¬ nI w = 0 := fun z => e0 ((n_0 (by omega)).mp z)
        refine Eq_aln dX11_changes_0 rfl ?_
        refine Eq_getR dX11_changes_1 fl_X11_48 (ws_0 hW) rfl (wp_0_6 hW) ?_
        refine Eq_getI dX11_changes_4 fl_X11_146 (ws_9 hW) rfl (by first | exact hM.1 | exact h8 | exact h9) ?_
        refine Ef_if_eq dX11_changes_7 (tgt := 19) rfl (by exact nI_ne0 (by omega) (by omega)) ?_
        refine Eq_iln dX11_changes_10 rfl ?_
        refine En_if_lt (tgt := 19) dX11_changes_11 rfl (by omega) ?_
        refine Eq_iln dX11_changes_14 rfl ?_
        refine Eq_ic (v := nI 1) dX11_changes_15 rfl ?_
        refine Et_ic_le 21 dX11_changes_16 rfl (by exact nI_le (by omega) (by omega)) ?_
        refine Eq_aln dX11_changes_21 rfl ?_
        refine Eq_getR dX11_changes_22 fl_X11_89 (ws_0 hW) rfl (wp_0_11 hW) ?_
        refine Eq_W0 (N := m_X1_search) dX11_changes_25 lk_X11_266 mV_X1_search (c_searchC hW hM hS hK) (by decide) (ws_29 hW) rfl (by decide) (Nat.le_of_ble_eq_true rfl) (Nat.le_of_ble_eq_true rfl) (fun vq hq1 hq2 => ?_)
        obtain ⟨rfl, hf2, h7k, o, ho, h8, h9⟩ := hq2
        have hW2 := hf2.Wd hW
        refine Eq_iln dX11_changes_28 rfl ?_
        refine Et_if_ne 42 dX11_changes_29 rfl (by exact hw0) ?_
        refine Eq_aln dX11_changes_42 rfl ?_
        refine Eq_getR dX11_changes_43 fl_X11_89 (ws_0 hW2) rfl (wp_0_11 hW2) ?_
        refine Eq_getI dX11_changes_46 fl_X11_271 (ws_29 hW2) rfl (by first | exact hM.1 | exact h8 | exact h9) ?_
        refine Eq_ir dX11_changes_49 rfl ?_
        exact ⟨⟨o, fun _ _ => ho, by unfold chV; rw [hr, if_neg h0]; simp only; rw [if_neg e0]⟩, hf2, Or.inr ⟨h7k, o, ho, h8, h9⟩⟩
