theorem TB.put {r j0 j1 a b c : Nat} {h h2 : am_H} {hd : Nat} {y : Nat → Nat} {p : Nat → Bool} {st : Nat → Int64} {dr dr2 : Int64} {yy : Nat} {pp : Bool} {aa : Int64} (m : TB r j0 j1 a b c h hd y p st dr) (hl : hd < 40) (hy : yy ≤ 7) (h1 : am_i h2 r j0 = nI (hd + 1)) (h3 : am_l h2 r j1 = dr2) (h4 : ∀ k, k < 40 → am_i h2 a k = if k = hd then nI yy else am_i h a k) (h5 : ∀ k, k < 40 → am_i h2 b k = if k = hd then nI (if pp = true then 1 else 0) else am_i h b k) (h6 : ∀ k, k < 40 → am_l h2 c k = if k = hd then aa else am_l h c k) : TB r j0 j1 a b c h2 (hd + 1) (up1 y hd yy) (up1 p hd pp) (up1 st hd aa) dr2 := by
  refine ⟨h1, by omega, h3, fun k hk => ?_⟩
  rw [h4 k (by omega), h5 k (by omega), h6 k (by omega)]
  by_cases e : k = hd
  · subst e
    rw [if_pos rfl, if_pos rfl, if_pos rfl, up1_eq, up1_eq, up1_eq]
    exact ⟨rfl, hy, rfl, rfl⟩
  · rw [if_neg e, if_neg e, if_neg e, up1_ne e, up1_ne e, up1_ne e]
    exact m.2.2.2 k (by omega)
theorem TB.undo {r j0 j1 a b c : Nat} {h h2 : am_H} {hd : Nat} {y : Nat → Nat} {p : Nat → Bool} {st : Nat → Int64} {dr : Int64} (m : TB r j0 j1 a b c h (hd + 1) y p st dr) (h1 : am_i h2 r j0 = nI hd) (h3 : am_l h2 r j1 = st hd) (h4 : am_i h2 a = am_i h a) (h5 : am_i h2 b = am_i h b) (h6 : am_l h2 c = am_l h c) : TB r j0 j1 a b c h2 hd y p st (st hd) := by
  refine ⟨h1, by have := m.2.1; omega, h3, fun k hk => ?_⟩
  rw [h4, h5, h6]
  exact m.2.2.2 k (by omega)
def saV (hd : Nat) (y : Nat → Nat) (p : Nat → Bool) (x1 x2 : Int32) : Int32 := match rg x1 hd with
  | none => -1
  | some k => match rg x2 2 with
    | none => -1
    | some w => if w = 0 then nI (y k) else nI (if p k = true then 1 else 0)
theorem saV_n {hd : Nat} {y : Nat → Nat} {p : Nat → Bool} {x1 x2 : Int32} (h : rg x1 hd = none) : saV hd y p x1 x2 = -1 := by simp [saV, h]
theorem saV_m {hd : Nat} {y : Nat → Nat} {p : Nat → Bool} {x1 x2 : Int32} (h : rg x2 2 = none) : saV hd y p x1 x2 = -1 := by
  unfold saV
  rw [h]
  split <;> rfl
theorem saV_s {hd : Nat} {y : Nat → Nat} {p : Nat → Bool} {x1 x2 : Int32} {k w : Nat} (h1 : rg x1 hd = some k) (h : rg x2 2 = some w) : saV hd y p x1 x2 = if w = 0 then nI (y k) else nI (if p k = true then 1 else 0) := by simp [saV, h, h1]
theorem lrem100 (s : Int64) : lN (dru s) - lN (dru s) / lN 100 * lN 100 = lN (dru s % 100) := pk_lRem (by have := dru_lt s; omega) (by omega) (by omega)
set_option maxHeartbeats 2000000 in
theorem c_isFull {h : am_H} (hW : Wd h) {hd : Nat} (hd0 : am_i h 37 0 = nI hd) (h40 : hd ≤ 40) : am_C 0 m_X7_isFull [.ref 37] h (some (.int (nI (if hd = 40 then 1 else 0))), h) := by
  refine q_aln dX7_isFull_0 rfl ?_
  refine q_getI dX7_isFull_1 fl_X7_9 (ws_37 hW) rfl (by first | assumption | rfl) ?_
  refine q_bp (v := nI 40) dX7_isFull_4 rfl ?_
  first | refine n_ic_lt 13 dX7_isFull_6 rfl (by omega) (by omega) (fun c6 => ?_) (fun c6 => ?_) | refine b_ic_lt 13 dX7_isFull_6 rfl (fun c6 => ?_) (fun c6 => ?_)
  · first
    | (exfalso; omega)
    | (refine q_ic (v := nI 0) dX7_isFull_13 rfl ?_
       first | refine q_zrn dX7_isFull_14 rfl (by first | omega | exact b2_le) ?_ | refine q_zr dX7_isFull_14 rfl (by first | exact Or.inl rfl | exact Or.inr rfl | assumption) ?_
       (apply o_nI; first | rw [if_pos (by omega)] | rw [if_neg (by omega)]))
  · first
    | (exfalso; omega)
    | (refine q_ic (v := nI 1) dX7_isFull_9 rfl ?_
       refine am_x_goto (tgt := 14) dX7_isFull_10 rfl ?_
       first | refine q_zrn dX7_isFull_14 rfl (by first | omega | exact b2_le) ?_ | refine q_zr dX7_isFull_14 rfl (by first | exact Or.inl rfl | exact Or.inr rfl | assumption) ?_
       (apply o_nI; first | rw [if_pos (by omega)] | rw [if_neg (by omega)]))
set_option maxHeartbeats 2000000 in
theorem c_draw {h : am_H} (hW : Wd h) {s : Int64} (hs : am_l h 37 1 = s) : am_C 0 m_X7_draw [.ref 37, .int (nI 100)] h (some (.int (nI (dru (drw s) % 100))), am_wL h 37 1 (drw s)) := by
  refine q_aln dX7_draw_0 rfl ?_
  refine q_aln dX7_draw_1 rfl ?_
  refine q_getL dX7_draw_2 fl_X7_15 (ws_37 hW) rfl (by first | assumption | rfl) ?_
  refine am_x_ldc2 dX7_draw_5 kc_X7_30 ?_
  refine am_x_pu dX7_draw_8 rfl ?_
  refine am_x_ldc2 dX7_draw_9 kc_X7_32 ?_
  refine am_x_pu dX7_draw_12 rfl ?_
  refine am_x_putL dX7_draw_13 (fw_X7_15 rfl) (ws_37 hW) rfl ?_
  refine q_iln dX7_draw_16 rfl ?_
  refine t_if_gt 24 dX7_draw_17 rfl (by decide +kernel) ?_
  refine q_aln dX7_draw_24 rfl ?_
  refine q_getL dX7_draw_25 fl_X7_15 (ws_37 hW) rfl (wL_eq (h := h) (r := 37) (j := 1) (v := drw s) 1) ?_
  rw [if_pos rfl]
  refine q_bp (v := nI 33) dX7_draw_28 rfl ?_
  refine am_x_pu dX7_draw_30 rfl ?_
  rw [dru_eq]
  refine q_iln dX7_draw_31 rfl ?_
  refine am_x_pu dX7_draw_32 rfl ?_
  rw [show (nI 100).toInt64 = lN 100 by decide +kernel]
  refine am_x_lrem dX7_draw_33 (by decide +kernel) ?_
  rw [lrem100]
  refine am_x_pu dX7_draw_34 rfl ?_
  rw [l2i_n (Nat.lt_of_lt_of_le (Nat.mod_lt _ (by omega)) (by omega))]
  refine q_ir dX7_draw_35 rfl ?_
  rfl
set_option maxHeartbeats 2000000 in
theorem c_putBy {h : am_H} (hW : Wd h) {hd yy : Nat} {P : Prop} [Decidable P] {aa : Int64} (hd0 : am_i h 37 0 = nI hd) (h40 : hd < 40) : am_C 1 m_X7_putBy [.ref 37, .int (nI yy), .int (nI (if P then 1 else 0)), .long aa] h (none, am_wI (am_wL (am_wI (am_wI h 38 hd (nI yy)) 39 hd (nI (if P then 1 else 0))) 40 hd aa) 37 0 (nI (hd + 1))) := by
  have hfl : am_C 0 m_X7_isFull [.ref 37] h (some (.int (nI 0)), h) := by
    have z := c_isFull hW hd0 (by omega)
    rw [if_neg (by omega)] at z
    exact z
  by_cases hP : P
  · rw [if_pos hP]
    refine q_aln dX7_putBy_0 rfl ?_
    refine q_getI dX7_putBy_1 fl_X7_9 (ws_37 hW) rfl hd0 ?_
    refine n_if_lt (tgt := 14) dX7_putBy_4 rfl (by omega) ?_
    refine q_aln dX7_putBy_7 rfl ?_
    refine q_V0 (N := m_X7_isFull) dX7_putBy_8 lk_X7_34 mV_X7_isFull (hfl) (by decide) (ws_37 hW) rfl (by decide) (Nat.le_of_ble_eq_true rfl) (Nat.le_of_ble_eq_true rfl) ?_
    refine t_if_eq 15 dX7_putBy_11 rfl (by rfl) ?_
    refine q_aln dX7_putBy_15 rfl ?_
    refine q_getR dX7_putBy_16 fl_X7_19 (ws_37 hW) rfl (wp_37_2 hW) ?_
    refine q_aln dX7_putBy_19 rfl ?_
    refine q_getI dX7_putBy_20 fl_X7_9 (ws_37 hW) rfl hd0 ?_
    refine q_iln dX7_putBy_23 rfl ?_
    refine q_ast dX7_putBy_24 (ws_38 hW) (by omega) (by omega) ?_
    refine q_aln dX7_putBy_25 rfl ?_
    refine q_getR dX7_putBy_26 fl_X7_23 (ws_37 hW) rfl (wp_37_3 hW) ?_
    refine q_aln dX7_putBy_29 rfl ?_
    refine q_getI dX7_putBy_30 fl_X7_9 (ws_37 hW) rfl hd0 ?_
    refine q_iln dX7_putBy_33 rfl ?_
    refine f_if_eq dX7_putBy_34 (tgt := 41) rfl (by exact zf1) ?_
    refine q_ic (v := nI 1) dX7_putBy_37 rfl ?_
    refine am_x_goto (tgt := 42) dX7_putBy_38 rfl ?_
    refine q_ast dX7_putBy_42 (ws_39 hW) (by omega) (by omega) ?_
    refine q_aln dX7_putBy_43 rfl ?_
    refine q_getR dX7_putBy_44 fl_X7_26 (ws_37 hW) rfl (wp_37_4 hW) ?_
    refine q_aln dX7_putBy_47 rfl ?_
    refine q_getI dX7_putBy_48 fl_X7_9 (ws_37 hW) rfl hd0 ?_
    refine q_lln dX7_putBy_51 rfl ?_
    refine q_lst dX7_putBy_52 (ws_40 hW) (by omega) (by omega) ?_
    refine q_aln dX7_putBy_53 rfl ?_
    refine am_x_pu dX7_putBy_54 rfl ?_
    refine q_getI dX7_putBy_55 fl_X7_9 (ws_37 hW) rfl hd0 ?_
    refine q_ic (v := nI 1) dX7_putBy_58 rfl ?_
    first | refine q_add dX7_putBy_59 ?_ | refine am_x_pu dX7_putBy_59 rfl ?_
    refine am_x_putI dX7_putBy_60 (fw_X7_9 rfl) (ws_37 hW) (Or.inl rfl) ?_
    refine q_vr dX7_putBy_63 rfl ?_
    rfl
  · rw [if_neg hP]
    refine q_aln dX7_putBy_0 rfl ?_
    refine q_getI dX7_putBy_1 fl_X7_9 (ws_37 hW) rfl hd0 ?_
    refine n_if_lt (tgt := 14) dX7_putBy_4 rfl (by omega) ?_
    refine q_aln dX7_putBy_7 rfl ?_
    refine q_V0 (N := m_X7_isFull) dX7_putBy_8 lk_X7_34 mV_X7_isFull (hfl) (by decide) (ws_37 hW) rfl (by decide) (Nat.le_of_ble_eq_true rfl) (Nat.le_of_ble_eq_true rfl) ?_
    refine t_if_eq 15 dX7_putBy_11 rfl (by rfl) ?_
    refine q_aln dX7_putBy_15 rfl ?_
    refine q_getR dX7_putBy_16 fl_X7_19 (ws_37 hW) rfl (wp_37_2 hW) ?_
    refine q_aln dX7_putBy_19 rfl ?_
    refine q_getI dX7_putBy_20 fl_X7_9 (ws_37 hW) rfl hd0 ?_
    refine q_iln dX7_putBy_23 rfl ?_
    refine q_ast dX7_putBy_24 (ws_38 hW) (by omega) (by omega) ?_
    refine q_aln dX7_putBy_25 rfl ?_
    refine q_getR dX7_putBy_26 fl_X7_23 (ws_37 hW) rfl (wp_37_3 hW) ?_
    refine q_aln dX7_putBy_29 rfl ?_
    refine q_getI dX7_putBy_30 fl_X7_9 (ws_37 hW) rfl hd0 ?_
    refine q_iln dX7_putBy_33 rfl ?_
    refine t_if_eq 41 dX7_putBy_34 rfl (by rfl) ?_
    refine q_ic (v := nI 0) dX7_putBy_41 rfl ?_
    refine q_ast dX7_putBy_42 (ws_39 hW) (by omega) (by omega) ?_
    refine q_aln dX7_putBy_43 rfl ?_
    refine q_getR dX7_putBy_44 fl_X7_26 (ws_37 hW) rfl (wp_37_4 hW) ?_
    refine q_aln dX7_putBy_47 rfl ?_
    refine q_getI dX7_putBy_48 fl_X7_9 (ws_37 hW) rfl hd0 ?_
    refine q_lln dX7_putBy_51 rfl ?_
    refine q_lst dX7_putBy_52 (ws_40 hW) (by omega) (by omega) ?_
    refine q_aln dX7_putBy_53 rfl ?_
    refine am_x_pu dX7_putBy_54 rfl ?_
    refine q_getI dX7_putBy_55 fl_X7_9 (ws_37 hW) rfl hd0 ?_
    refine q_ic (v := nI 1) dX7_putBy_58 rfl ?_
    first | refine q_add dX7_putBy_59 ?_ | refine am_x_pu dX7_putBy_59 rfl ?_
    refine am_x_putI dX7_putBy_60 (fw_X7_9 rfl) (ws_37 hW) (Or.inl rfl) ?_
    refine q_vr dX7_putBy_63 rfl ?_
    rfl
set_option maxHeartbeats 2000000 in
theorem c_sitting_lp {h : am_H} {n : Nat} {g : Bool} {F : Nat → Nat → Nat} (hW : Wd h) (hM : MB h n g F) {S T : Nat → Nat} (hS : SB 11 12 13 h n S T) {hd : Nat} {y : Nat → Nat} {p : Nat → Bool} {st : Nat → Int64} {dr : Int64} (hT : TB 37 0 1 38 39 40 h hd y p st dr) (hlt : hd < 40) : ∀ k j hc (x5 x6 : Option Value), j + k = n → Fx [] [(37, 1)] h hc → am_l hc 37 1 = (sg n g F S T dr j).1 → am_E 5 m_X11_sitting 35 [some (.ref 0), some (.long dr), none, some (.int (nI (sg n g F S T dr j).2)), some (.int (nI j)), x5, x6] [] hc (fun v h2 => v = some (.int (nI (sg n g F S T dr n).2)) ∧ Fx [37, 38, 39, 40] [] h h2 ∧ TB 37 0 1 38 39 40 h2 (hd + 1) (up1 y hd (sg n g F S T dr n).2) (up1 p hd (decide (hct n g F S T < (sg n g F S T dr n).2 * 2))) (up1 st hd dr) (sg n g F S T dr n).1) := by
  obtain ⟨hn, hg, h7, hF, hB⟩ := id hM
  obtain ⟨hd0, h40, hdr, hk⟩ := id hT
  intro k
  induction k with
  | zero =>
    intro j hc x5 x6 hj hfr hsl
    have hjn : j = n := by omega
    subst hjn
    have hsle := sg_le (n := j) (g := g) (F := F) (S := S) (T := T) (s0 := dr) j
    have a2 : ct (fun m => hrd j g F S T m) j ≤ j := ct_le _ j
    have hWc := hfr.Wd hW
    have hMc := hM.fx hfr (by decide)
    have hSc := hS.fx hfr (by decide)
    have hn := hMc.1
    have hdc : am_i hc 37 0 = nI hd := (hfr.i (by decide) (by decide)).trans hd0
    refine Eq_il dX11_sitting_35 rfl ?_
    refine Eq_aln dX11_sitting_37 rfl ?_
    refine Eq_getR dX11_sitting_38 fl_X11_48 (ws_0 hWc) rfl (wp_0_6 hWc) ?_
    refine Eq_getI dX11_sitting_41 fl_X11_146 (ws_9 hWc) rfl (by first | assumption | rfl) ?_
    refine Et_ic_ge 136 dX11_sitting_44 rfl (by exact nI_le (by omega) (by omega)) ?_
    refine Eq_aln dX11_sitting_136 rfl ?_
    refine Eq_getR dX11_sitting_137 fl_X11_96 (ws_0 hWc) rfl (wp_0_12 hWc) ?_
    refine Eq_iln dX11_sitting_140 rfl ?_
    refine Eq_iln dX11_sitting_141 rfl ?_
    refine Eq_aln dX11_sitting_142 rfl ?_
    refine Eq_getR dX11_sitting_143 fl_X11_73 (ws_0 hWc) rfl (wp_0_9 hWc) ?_
    refine Eq_V0 (N := m_X10_heard) dX11_sitting_146 lk_X11_218 mV_X10_heard (c_heard hWc hMc hSc) (by decide) (ws_16 hWc) rfl (by decide) (Nat.le_of_ble_eq_true rfl) (Nat.le_of_ble_eq_true rfl) ?_
    refine Eq_S2 (N := m_X10_passes) dX11_sitting_149 lk_X11_302 mS_X10_passes (c_passes (by omega) (by omega)) (by decide) (Nat.le_of_ble_eq_true rfl) (Nat.le_of_ble_eq_true rfl) ?_
    refine Eq_lln dX11_sitting_152 rfl ?_
    refine Eq_V3 (N := m_X7_putBy) dX11_sitting_153 lk_X11_306 mV_X7_putBy (c_putBy hWc hdc hlt) (by decide) (ws_37 hWc) rfl (by decide) (Nat.le_of_ble_eq_true rfl) (Nat.le_of_ble_eq_true rfl) ?_
    refine Eq_iln dX11_sitting_156 rfl ?_
    refine Eq_ir dX11_sitting_157 rfl ?_
    refine ⟨rfl, ?_, ?_⟩
    · exact (((((hfr.mono (by decide) (by decide)).tr (Fx.wI (Or.inl (by decide)))).tr (Fx.wI (Or.inl (by decide)))).tr (Fx.wL (Or.inl (by decide)))).tr (Fx.wI (Or.inl (by decide))))
    · refine hT.put hlt (by omega) (by rw [wI_eq]; rfl) hsl (fun k hk => ?_) (fun k hk => ?_) (fun k hk => ?_)
      · rw [wI_ne (by decide), wLi, wI_ne (by decide), wI_eq, hfr.ia (by decide) (by decide)]
      · rw [wI_ne (by decide), wLi, wI_eq, wI_ne (by decide), hfr.ia (by decide) (by decide)]
        simp only [decide_eq_true_eq]
      · rw [wIl, wL_eq, wIl, wIl, hfr.la (by decide) (by decide)]
  | succ k ih =>
    intro j hc x5 x6 hj hfr hsl
    have hWc := hfr.Wd hW
    have hMc := hM.fx hfr (by decide)
    have hSc := hS.fx hfr (by decide)
    have hn := hMc.1
    have hdc : am_i hc 37 0 = nI hd := (hfr.i (by decide) (by decide)).trans hd0
    by_cases hh : hrd n g F S T j = true
    · obtain ⟨q, hq⟩ := hrd_m hh
      have hqn := mth_lt hS.S hS.T (by omega) hq
      have hslp := slp_le (fun i m hi hm => (hF i m hi hm).2) hqn
      have hb := hB j (by omega)
      have hfd : Fx [] [(37, 1)] hc (am_wL hc 37 1 (drw (sg n g F S T dr j).1)) := Fx.wL (Or.inr (by decide))
      have hWd := hfd.Wd hWc
      have hMd := hMc.fx hfd (by decide)
      have hSd := hSc.fx hfd (by decide)
      have hld : am_l (am_wL hc 37 1 (drw (sg n g F S T dr j).1)) 37 1 = (sg n g F S T dr (j + 1)).1 := by rw [wL_eq, if_pos rfl, sg_y hh hq]
      have hmod := Nat.mod_lt (dru (drw (sg n g F S T dr j).1)) (show 0 < 100 by omega)
      by_cases hv : F 0 j = 1
      · by_cases hwr : dru (drw (sg n g F S T dr j).1) % 100 < slp F q
        · refine Eq_il dX11_sitting_35 rfl ?_
          refine Eq_aln dX11_sitting_37 rfl ?_
          refine Eq_getR dX11_sitting_38 fl_X11_48 (ws_0 hWc) rfl (wp_0_6 hWc) ?_
          refine Eq_getI dX11_sitting_41 fl_X11_146 (ws_9 hWc) rfl (by first | assumption | rfl) ?_
          refine Ef_ic_ge dX11_sitting_44 (tgt := 136) rfl (by exact nI_ge (by omega) (by omega)) ?_
          refine Eq_aln dX11_sitting_47 rfl ?_
          refine Eq_getR dX11_sitting_48 fl_X11_64 (ws_0 hWc) rfl (wp_0_8 hWc) ?_
          refine Eq_il dX11_sitting_51 rfl ?_
          refine Eq_V1 (N := m_X8_isHeard) dX11_sitting_53 lk_X11_177 mV_X8_isHeard (c_isHeard14 hWc hMc hSc (by omega)) (by decide) (ws_14 hWc) rfl (by decide) (Nat.le_of_ble_eq_true rfl) (Nat.le_of_ble_eq_true rfl) ?_
          refine Ef_if_eq dX11_sitting_56 (tgt := 130) rfl (by rw [if_pos hh]; decide +kernel) ?_
          refine Eq_aln dX11_sitting_59 rfl ?_
          refine Eq_getR dX11_sitting_60 fl_X11_96 (ws_0 hWc) rfl (wp_0_12 hWc) ?_
          refine Eq_bp (v := nI 100) dX11_sitting_63 rfl ?_
          refine Eq_V1 (N := m_X7_draw) dX11_sitting_65 lk_X11_296 mV_X7_draw (c_draw hWc hsl) (by decide) (ws_37 hWc) rfl (by decide) (Nat.le_of_ble_eq_true rfl) (Nat.le_of_ble_eq_true rfl) ?_
          refine Eq_aln dX11_sitting_68 rfl ?_
          refine Eq_getR dX11_sitting_69 fl_X11_64 (ws_0 hWc) rfl (wp_0_8 hWc) ?_
          refine Eq_aln dX11_sitting_72 rfl ?_
          refine Eq_getR dX11_sitting_73 fl_X11_64 (ws_0 hWc) rfl (wp_0_8 hWc) ?_
          refine Eq_il dX11_sitting_76 rfl ?_
          refine Eq_V1 (N := m_X8_mouthOf) dX11_sitting_78 lk_X11_174 mV_X8_mouthOf ((by have z := c_mouthOf14 hWd hMd hSd (m := j) (by omega); rw [hq] at z; exact z)) (by decide) (ws_14 hWc) rfl (by decide) (Nat.le_of_ble_eq_true rfl) (Nat.le_of_ble_eq_true rfl) ?_
          refine Eq_V1 (N := m_X8_slipOf) dX11_sitting_81 lk_X11_299 mV_X8_slipOf (c_slipOf14 hWd hMd hSd (by omega)) (by decide) (ws_14 hWc) rfl (by decide) (Nat.le_of_ble_eq_true rfl) (Nat.le_of_ble_eq_true rfl) ?_
          refine Ef_ic_ge dX11_sitting_84 (tgt := 91) rfl (by exact nI_ge hwr (by omega)) ?_
          refine Eq_ic (v := nI 1) dX11_sitting_87 rfl ?_
          refine Eam_x_goto (tgt := 92) dX11_sitting_88 rfl ?_
          refine Eq_is dX11_sitting_92 (by decide) ?_
          refine Eq_aln dX11_sitting_94 rfl ?_
          refine Eq_getR dX11_sitting_95 fl_X11_48 (ws_0 hWc) rfl (wp_0_6 hWc) ?_
          refine Eq_ic (v := nI 0) dX11_sitting_98 rfl ?_
          refine Eq_il dX11_sitting_99 rfl ?_
          refine Eq_V2 (N := m_X5_fact) dX11_sitting_101 lk_X11_180 mV_X5_fact (c_fact hWd hMd (by omega) (by omega)) (by decide) (ws_9 hWc) rfl (by decide) (Nat.le_of_ble_eq_true rfl) (Nat.le_of_ble_eq_true rfl) ?_
          refine Eq_ic (v := nI 1) dX11_sitting_104 rfl ?_
          refine Ef_ic_ne dX11_sitting_105 (tgt := 112) rfl (by rw [hv]) ?_
          refine Eq_ic (v := nI 1) dX11_sitting_108 rfl ?_
          refine Eam_x_goto (tgt := 113) dX11_sitting_109 rfl ?_
          refine Eq_is dX11_sitting_113 (by decide) ?_
          refine Eq_iln dX11_sitting_115 rfl ?_
          refine Eq_il dX11_sitting_116 rfl ?_
          refine Eq_il dX11_sitting_118 rfl ?_
          refine Et_ic_eq 127 dX11_sitting_120 rfl (by rfl) ?_
          refine Eq_ic (v := nI 0) dX11_sitting_127 rfl ?_
          first | refine Eq_add dX11_sitting_128 ?_ | refine Eam_x_pu dX11_sitting_128 rfl ?_
          refine Eq_isn dX11_sitting_129 (by decide) ?_
          refine Eq_inc dX11_sitting_130 rfl (by decide) ?_
          refine Eam_x_goto (tgt := 35) dX11_sitting_133 rfl ?_
          (have q := fun x5 x6 => ih (j + 1) _ x5 x6 (by omega) (hfr.tr hfd) hld; simp only [sg_y hh hq] at q; rw [if_pos (by simp [hv, hwr])] at q; exact q _ _)
        · refine Eq_il dX11_sitting_35 rfl ?_
          refine Eq_aln dX11_sitting_37 rfl ?_
          refine Eq_getR dX11_sitting_38 fl_X11_48 (ws_0 hWc) rfl (wp_0_6 hWc) ?_
          refine Eq_getI dX11_sitting_41 fl_X11_146 (ws_9 hWc) rfl (by first | assumption | rfl) ?_
          refine Ef_ic_ge dX11_sitting_44 (tgt := 136) rfl (by exact nI_ge (by omega) (by omega)) ?_
          refine Eq_aln dX11_sitting_47 rfl ?_
          refine Eq_getR dX11_sitting_48 fl_X11_64 (ws_0 hWc) rfl (wp_0_8 hWc) ?_
          refine Eq_il dX11_sitting_51 rfl ?_
          refine Eq_V1 (N := m_X8_isHeard) dX11_sitting_53 lk_X11_177 mV_X8_isHeard (c_isHeard14 hWc hMc hSc (by omega)) (by decide) (ws_14 hWc) rfl (by decide) (Nat.le_of_ble_eq_true rfl) (Nat.le_of_ble_eq_true rfl) ?_
          refine Ef_if_eq dX11_sitting_56 (tgt := 130) rfl (by rw [if_pos hh]; decide +kernel) ?_
          refine Eq_aln dX11_sitting_59 rfl ?_
          refine Eq_getR dX11_sitting_60 fl_X11_96 (ws_0 hWc) rfl (wp_0_12 hWc) ?_
          refine Eq_bp (v := nI 100) dX11_sitting_63 rfl ?_
          refine Eq_V1 (N := m_X7_draw) dX11_sitting_65 lk_X11_296 mV_X7_draw (c_draw hWc hsl) (by decide) (ws_37 hWc) rfl (by decide) (Nat.le_of_ble_eq_true rfl) (Nat.le_of_ble_eq_true rfl) ?_
          refine Eq_aln dX11_sitting_68 rfl ?_
          refine Eq_getR dX11_sitting_69 fl_X11_64 (ws_0 hWc) rfl (wp_0_8 hWc) ?_
          refine Eq_aln dX11_sitting_72 rfl ?_
          refine Eq_getR dX11_sitting_73 fl_X11_64 (ws_0 hWc) rfl (wp_0_8 hWc) ?_
          refine Eq_il dX11_sitting_76 rfl ?_
          refine Eq_V1 (N := m_X8_mouthOf) dX11_sitting_78 lk_X11_174 mV_X8_mouthOf ((by have z := c_mouthOf14 hWd hMd hSd (m := j) (by omega); rw [hq] at z; exact z)) (by decide) (ws_14 hWc) rfl (by decide) (Nat.le_of_ble_eq_true rfl) (Nat.le_of_ble_eq_true rfl) ?_
          refine Eq_V1 (N := m_X8_slipOf) dX11_sitting_81 lk_X11_299 mV_X8_slipOf (c_slipOf14 hWd hMd hSd (by omega)) (by decide) (ws_14 hWc) rfl (by decide) (Nat.le_of_ble_eq_true rfl) (Nat.le_of_ble_eq_true rfl) ?_
          refine Et_ic_ge 91 dX11_sitting_84 rfl (by exact nI_le (by omega) (by omega)) ?_
          refine Eq_ic (v := nI 0) dX11_sitting_91 rfl ?_
          refine Eq_is dX11_sitting_92 (by decide) ?_
          refine Eq_aln dX11_sitting_94 rfl ?_
          refine Eq_getR dX11_sitting_95 fl_X11_48 (ws_0 hWc) rfl (wp_0_6 hWc) ?_
          refine Eq_ic (v := nI 0) dX11_sitting_98 rfl ?_
          refine Eq_il dX11_sitting_99 rfl ?_
          refine Eq_V2 (N := m_X5_fact) dX11_sitting_101 lk_X11_180 mV_X5_fact (c_fact hWd hMd (by omega) (by omega)) (by decide) (ws_9 hWc) rfl (by decide) (Nat.le_of_ble_eq_true rfl) (Nat.le_of_ble_eq_true rfl) ?_
          refine Eq_ic (v := nI 1) dX11_sitting_104 rfl ?_
          refine Ef_ic_ne dX11_sitting_105 (tgt := 112) rfl (by rw [hv]) ?_
          refine Eq_ic (v := nI 1) dX11_sitting_108 rfl ?_
          refine Eam_x_goto (tgt := 113) dX11_sitting_109 rfl ?_
          refine Eq_is dX11_sitting_113 (by decide) ?_
          refine Eq_iln dX11_sitting_115 rfl ?_
          refine Eq_il dX11_sitting_116 rfl ?_
          refine Eq_il dX11_sitting_118 rfl ?_
          refine Ef_ic_eq dX11_sitting_120 (tgt := 127) rfl (by decide +kernel) ?_
          refine Eq_ic (v := nI 1) dX11_sitting_123 rfl ?_
          refine Eam_x_goto (tgt := 128) dX11_sitting_124 rfl ?_
          first | refine Eq_add dX11_sitting_128 ?_ | refine Eam_x_pu dX11_sitting_128 rfl ?_
          refine Eq_isn dX11_sitting_129 (by decide) ?_
          refine Eq_inc dX11_sitting_130 rfl (by decide) ?_
          refine Eam_x_goto (tgt := 35) dX11_sitting_133 rfl ?_
          (have q := fun x5 x6 => ih (j + 1) _ x5 x6 (by omega) (hfr.tr hfd) hld; simp only [sg_y hh hq] at q; rw [if_neg (by simp [hv, hwr])] at q; exact q _ _)
      · by_cases hwr : dru (drw (sg n g F S T dr j).1) % 100 < slp F q
        · refine Eq_il dX11_sitting_35 rfl ?_
          refine Eq_aln dX11_sitting_37 rfl ?_
          refine Eq_getR dX11_sitting_38 fl_X11_48 (ws_0 hWc) rfl (wp_0_6 hWc) ?_
          refine Eq_getI dX11_sitting_41 fl_X11_146 (ws_9 hWc) rfl (by first | assumption | rfl) ?_
          refine Ef_ic_ge dX11_sitting_44 (tgt := 136) rfl (by exact nI_ge (by omega) (by omega)) ?_
          refine Eq_aln dX11_sitting_47 rfl ?_
          refine Eq_getR dX11_sitting_48 fl_X11_64 (ws_0 hWc) rfl (wp_0_8 hWc) ?_
          refine Eq_il dX11_sitting_51 rfl ?_
          refine Eq_V1 (N := m_X8_isHeard) dX11_sitting_53 lk_X11_177 mV_X8_isHeard (c_isHeard14 hWc hMc hSc (by omega)) (by decide) (ws_14 hWc) rfl (by decide) (Nat.le_of_ble_eq_true rfl) (Nat.le_of_ble_eq_true rfl) ?_
          refine Ef_if_eq dX11_sitting_56 (tgt := 130) rfl (by rw [if_pos hh]; decide +kernel) ?_
          refine Eq_aln dX11_sitting_59 rfl ?_
          refine Eq_getR dX11_sitting_60 fl_X11_96 (ws_0 hWc) rfl (wp_0_12 hWc) ?_
          refine Eq_bp (v := nI 100) dX11_sitting_63 rfl ?_
          refine Eq_V1 (N := m_X7_draw) dX11_sitting_65 lk_X11_296 mV_X7_draw (c_draw hWc hsl) (by decide) (ws_37 hWc) rfl (by decide) (Nat.le_of_ble_eq_true rfl) (Nat.le_of_ble_eq_true rfl) ?_
          refine Eq_aln dX11_sitting_68 rfl ?_
          refine Eq_getR dX11_sitting_69 fl_X11_64 (ws_0 hWc) rfl (wp_0_8 hWc) ?_
          refine Eq_aln dX11_sitting_72 rfl ?_
          refine Eq_getR dX11_sitting_73 fl_X11_64 (ws_0 hWc) rfl (wp_0_8 hWc) ?_
          refine Eq_il dX11_sitting_76 rfl ?_
          refine Eq_V1 (N := m_X8_mouthOf) dX11_sitting_78 lk_X11_174 mV_X8_mouthOf ((by have z := c_mouthOf14 hWd hMd hSd (m := j) (by omega); rw [hq] at z; exact z)) (by decide) (ws_14 hWc) rfl (by decide) (Nat.le_of_ble_eq_true rfl) (Nat.le_of_ble_eq_true rfl) ?_
          refine Eq_V1 (N := m_X8_slipOf) dX11_sitting_81 lk_X11_299 mV_X8_slipOf (c_slipOf14 hWd hMd hSd (by omega)) (by decide) (ws_14 hWc) rfl (by decide) (Nat.le_of_ble_eq_true rfl) (Nat.le_of_ble_eq_true rfl) ?_
          refine Ef_ic_ge dX11_sitting_84 (tgt := 91) rfl (by exact nI_ge hwr (by omega)) ?_
          refine Eq_ic (v := nI 1) dX11_sitting_87 rfl ?_
          refine Eam_x_goto (tgt := 92) dX11_sitting_88 rfl ?_
          refine Eq_is dX11_sitting_92 (by decide) ?_
          refine Eq_aln dX11_sitting_94 rfl ?_
          refine Eq_getR dX11_sitting_95 fl_X11_48 (ws_0 hWc) rfl (wp_0_6 hWc) ?_
          refine Eq_ic (v := nI 0) dX11_sitting_98 rfl ?_
          refine Eq_il dX11_sitting_99 rfl ?_
          refine Eq_V2 (N := m_X5_fact) dX11_sitting_101 lk_X11_180 mV_X5_fact (c_fact hWd hMd (by omega) (by omega)) (by decide) (ws_9 hWc) rfl (by decide) (Nat.le_of_ble_eq_true rfl) (Nat.le_of_ble_eq_true rfl) ?_
          refine Eq_ic (v := nI 1) dX11_sitting_104 rfl ?_
          refine Et_ic_ne 112 dX11_sitting_105 rfl (by exact fun z => hv ((nI_eq (by omega) (by omega)).mp z)) ?_
          refine Eq_ic (v := nI 0) dX11_sitting_112 rfl ?_
          refine Eq_is dX11_sitting_113 (by decide) ?_
          refine Eq_iln dX11_sitting_115 rfl ?_
          refine Eq_il dX11_sitting_116 rfl ?_
          refine Eq_il dX11_sitting_118 rfl ?_
          refine Ef_ic_eq dX11_sitting_120 (tgt := 127) rfl (by decide +kernel) ?_
          refine Eq_ic (v := nI 1) dX11_sitting_123 rfl ?_
          refine Eam_x_goto (tgt := 128) dX11_sitting_124 rfl ?_
          first | refine Eq_add dX11_sitting_128 ?_ | refine Eam_x_pu dX11_sitting_128 rfl ?_
          refine Eq_isn dX11_sitting_129 (by decide) ?_
          refine Eq_inc dX11_sitting_130 rfl (by decide) ?_
          refine Eam_x_goto (tgt := 35) dX11_sitting_133 rfl ?_
          (have q := fun x5 x6 => ih (j + 1) _ x5 x6 (by omega) (hfr.tr hfd) hld; simp only [sg_y hh hq] at q; rw [if_neg (by simp [hv, hwr])] at q; exact q _ _)
        · refine Eq_il dX11_sitting_35 rfl ?_
          refine Eq_aln dX11_sitting_37 rfl ?_
          refine Eq_getR dX11_sitting_38 fl_X11_48 (ws_0 hWc) rfl (wp_0_6 hWc) ?_
          refine Eq_getI dX11_sitting_41 fl_X11_146 (ws_9 hWc) rfl (by first | assumption | rfl) ?_
          refine Ef_ic_ge dX11_sitting_44 (tgt := 136) rfl (by exact nI_ge (by omega) (by omega)) ?_
          refine Eq_aln dX11_sitting_47 rfl ?_
          refine Eq_getR dX11_sitting_48 fl_X11_64 (ws_0 hWc) rfl (wp_0_8 hWc) ?_
          refine Eq_il dX11_sitting_51 rfl ?_
          refine Eq_V1 (N := m_X8_isHeard) dX11_sitting_53 lk_X11_177 mV_X8_isHeard (c_isHeard14 hWc hMc hSc (by omega)) (by decide) (ws_14 hWc) rfl (by decide) (Nat.le_of_ble_eq_true rfl) (Nat.le_of_ble_eq_true rfl) ?_
          refine Ef_if_eq dX11_sitting_56 (tgt := 130) rfl (by rw [if_pos hh]; decide +kernel) ?_
          refine Eq_aln dX11_sitting_59 rfl ?_
          refine Eq_getR dX11_sitting_60 fl_X11_96 (ws_0 hWc) rfl (wp_0_12 hWc) ?_
          refine Eq_bp (v := nI 100) dX11_sitting_63 rfl ?_
          refine Eq_V1 (N := m_X7_draw) dX11_sitting_65 lk_X11_296 mV_X7_draw (c_draw hWc hsl) (by decide) (ws_37 hWc) rfl (by decide) (Nat.le_of_ble_eq_true rfl) (Nat.le_of_ble_eq_true rfl) ?_
          refine Eq_aln dX11_sitting_68 rfl ?_
          refine Eq_getR dX11_sitting_69 fl_X11_64 (ws_0 hWc) rfl (wp_0_8 hWc) ?_
          refine Eq_aln dX11_sitting_72 rfl ?_
          refine Eq_getR dX11_sitting_73 fl_X11_64 (ws_0 hWc) rfl (wp_0_8 hWc) ?_
          refine Eq_il dX11_sitting_76 rfl ?_
          refine Eq_V1 (N := m_X8_mouthOf) dX11_sitting_78 lk_X11_174 mV_X8_mouthOf ((by have z := c_mouthOf14 hWd hMd hSd (m := j) (by omega); rw [hq] at z; exact z)) (by decide) (ws_14 hWc) rfl (by decide) (Nat.le_of_ble_eq_true rfl) (Nat.le_of_ble_eq_true rfl) ?_
          refine Eq_V1 (N := m_X8_slipOf) dX11_sitting_81 lk_X11_299 mV_X8_slipOf (c_slipOf14 hWd hMd hSd (by omega)) (by decide) (ws_14 hWc) rfl (by decide) (Nat.le_of_ble_eq_true rfl) (Nat.le_of_ble_eq_true rfl) ?_
          refine Et_ic_ge 91 dX11_sitting_84 rfl (by exact nI_le (by omega) (by omega)) ?_
          refine Eq_ic (v := nI 0) dX11_sitting_91 rfl ?_
          refine Eq_is dX11_sitting_92 (by decide) ?_
          refine Eq_aln dX11_sitting_94 rfl ?_
          refine Eq_getR dX11_sitting_95 fl_X11_48 (ws_0 hWc) rfl (wp_0_6 hWc) ?_
          refine Eq_ic (v := nI 0) dX11_sitting_98 rfl ?_
          refine Eq_il dX11_sitting_99 rfl ?_
          refine Eq_V2 (N := m_X5_fact) dX11_sitting_101 lk_X11_180 mV_X5_fact (c_fact hWd hMd (by omega) (by omega)) (by decide) (ws_9 hWc) rfl (by decide) (Nat.le_of_ble_eq_true rfl) (Nat.le_of_ble_eq_true rfl) ?_
          refine Eq_ic (v := nI 1) dX11_sitting_104 rfl ?_
          refine Et_ic_ne 112 dX11_sitting_105 rfl (by exact fun z => hv ((nI_eq (by omega) (by omega)).mp z)) ?_
          refine Eq_ic (v := nI 0) dX11_sitting_112 rfl ?_
          refine Eq_is dX11_sitting_113 (by decide) ?_
          refine Eq_iln dX11_sitting_115 rfl ?_
          refine Eq_il dX11_sitting_116 rfl ?_
          refine Eq_il dX11_sitting_118 rfl ?_
          refine Et_ic_eq 127 dX11_sitting_120 rfl (by rfl) ?_
          refine Eq_ic (v := nI 0) dX11_sitting_127 rfl ?_
          first | refine Eq_add dX11_sitting_128 ?_ | refine Eam_x_pu dX11_sitting_128 rfl ?_
          refine Eq_isn dX11_sitting_129 (by decide) ?_
          refine Eq_inc dX11_sitting_130 rfl (by decide) ?_
          refine Eam_x_goto (tgt := 35) dX11_sitting_133 rfl ?_
          (have q := fun x5 x6 => ih (j + 1) _ x5 x6 (by omega) (hfr.tr hfd) hld; simp only [sg_y hh hq] at q; rw [if_pos (by simp [hv, hwr])] at q; exact q _ _)
    · refine Eq_il dX11_sitting_35 rfl ?_
      refine Eq_aln dX11_sitting_37 rfl ?_
      refine Eq_getR dX11_sitting_38 fl_X11_48 (ws_0 hWc) rfl (wp_0_6 hWc) ?_
      refine Eq_getI dX11_sitting_41 fl_X11_146 (ws_9 hWc) rfl (by first | assumption | rfl) ?_
      refine Ef_ic_ge dX11_sitting_44 (tgt := 136) rfl (by exact nI_ge (by omega) (by omega)) ?_
      refine Eq_aln dX11_sitting_47 rfl ?_
      refine Eq_getR dX11_sitting_48 fl_X11_64 (ws_0 hWc) rfl (wp_0_8 hWc) ?_
      refine Eq_il dX11_sitting_51 rfl ?_
      refine Eq_V1 (N := m_X8_isHeard) dX11_sitting_53 lk_X11_177 mV_X8_isHeard (c_isHeard14 hWc hMc hSc (by omega)) (by decide) (ws_14 hWc) rfl (by decide) (Nat.le_of_ble_eq_true rfl) (Nat.le_of_ble_eq_true rfl) ?_
      refine Et_if_eq 130 dX11_sitting_56 rfl (by rw [if_neg hh]; rfl) ?_
      refine Eq_inc dX11_sitting_130 rfl (by decide) ?_
      refine Eam_x_goto (tgt := 35) dX11_sitting_133 rfl ?_
      (have q := ih (j + 1) hc x5 x6 (by omega) hfr (by rw [sg_n hh]; exact hsl); rw [sg_n hh] at q; exact q)
def siB (n hd : Nat) : Prop := n = 0 ∨ hd = 40
set_option maxHeartbeats 2000000 in
theorem c_sitting {h : am_H} {n : Nat} {g : Bool} {F : Nat → Nat → Nat} (hW : Wd h) (hM : MB h n g F) {S T : Nat → Nat} (hS : SB 11 12 13 h n S T) {hd : Nat} {y : Nat → Nat} {p : Nat → Bool} {st : Nat → Int64} {dr : Int64} (hT : TB 37 0 1 38 39 40 h hd y p st dr) (h0 : ¬ n = 0) (hlt : hd < 40) : am_D 5 m_X11_sitting [.ref 0] h (fun v h2 => v = some (.int (nI (sg n g F S T dr n).2)) ∧ Fx [37, 38, 39, 40] [] h h2 ∧ TB 37 0 1 38 39 40 h2 (hd + 1) (up1 y hd (sg n g F S T dr n).2) (up1 p hd (decide (hct n g F S T < (sg n g F S T dr n).2 * 2))) (up1 st hd dr) (sg n g F S T dr n).1) := by
  obtain ⟨hn, hg, h7, hF, hB⟩ := id hM
  obtain ⟨hd0, h40, hdr, hk⟩ := id hT
  refine Eq_aln dX11_sitting_0 rfl ?_
  refine Eq_getR dX11_sitting_1 fl_X11_48 (ws_0 hW) rfl (wp_0_6 hW) ?_
  refine Eq_getI dX11_sitting_4 fl_X11_146 (ws_9 hW) rfl (by first | assumption | rfl) ?_
  refine Ef_if_eq dX11_sitting_7 (tgt := 20) rfl (by exact nI_ne0 (by omega) (by omega)) ?_
  refine Eq_aln dX11_sitting_10 rfl ?_
  refine Eq_getR dX11_sitting_11 fl_X11_96 (ws_0 hW) rfl (wp_0_12 hW) ?_
  refine Eq_V0 (N := m_X7_isFull) dX11_sitting_14 lk_X11_292 mV_X7_isFull (c_isFull hW hd0 (by omega)) (by decide) (ws_37 hW) rfl (by decide) (Nat.le_of_ble_eq_true rfl) (Nat.le_of_ble_eq_true rfl) ?_
  refine Et_if_eq 22 dX11_sitting_17 rfl (by rw [if_neg (by omega)]; rfl) ?_
  refine Eq_aln dX11_sitting_22 rfl ?_
  refine Eq_getR dX11_sitting_23 fl_X11_96 (ws_0 hW) rfl (wp_0_12 hW) ?_
  refine Eq_getL dX11_sitting_26 fl_X11_288 (ws_37 hW) rfl (by first | assumption | rfl) ?_
  refine Eq_lsn dX11_sitting_29 (by decide) ?_
  refine Eq_ic (v := nI 0) dX11_sitting_30 rfl ?_
  refine Eq_isn dX11_sitting_31 (by decide) ?_
  refine Eq_ic (v := nI 0) dX11_sitting_32 rfl ?_
  refine Eq_is dX11_sitting_33 (by decide) ?_
  (exact c_sitting_lp hW hM hS hT hlt n 0 h _ _ (by omega) Fx.rf hdr)
set_option maxHeartbeats 2000000 in
theorem c_sittingN {h : am_H} {n : Nat} {g : Bool} {F : Nat → Nat → Nat} (hW : Wd h) (hM : MB h n g F) {hd : Nat} {y : Nat → Nat} {p : Nat → Bool} {st : Nat → Int64} {dr : Int64} (hT : TB 37 0 1 38 39 40 h hd y p st dr) (h0 : n = 0 ∨ hd = 40) : am_C 1 m_X11_sitting [.ref 0] h (some (.int (-1)), h) := by
  obtain ⟨hn, hg, h7, hF, hB⟩ := id hM
  obtain ⟨hd0, h40, hdr, hk⟩ := id hT
  by_cases h1 : n = 0
  · refine q_aln dX11_sitting_0 rfl ?_
    refine q_getR dX11_sitting_1 fl_X11_48 (ws_0 hW) rfl (wp_0_6 hW) ?_
    refine q_getI dX11_sitting_4 fl_X11_146 (ws_9 hW) rfl (by first | assumption | rfl) ?_
    refine t_if_eq 20 dX11_sitting_7 rfl (by rw [h1]; rfl) ?_
    refine q_ic (v := -1) dX11_sitting_20 rfl ?_
    refine q_ir dX11_sitting_21 rfl ?_
    rfl
  · refine q_aln dX11_sitting_0 rfl ?_
    refine q_getR dX11_sitting_1 fl_X11_48 (ws_0 hW) rfl (wp_0_6 hW) ?_
    refine q_getI dX11_sitting_4 fl_X11_146 (ws_9 hW) rfl (by first | assumption | rfl) ?_
    refine f_if_eq dX11_sitting_7 (tgt := 20) rfl (by exact nI_ne0 (by omega) (by omega)) ?_
    refine q_aln dX11_sitting_10 rfl ?_
    refine q_getR dX11_sitting_11 fl_X11_96 (ws_0 hW) rfl (wp_0_12 hW) ?_
    refine q_V0 (N := m_X7_isFull) dX11_sitting_14 lk_X11_292 mV_X7_isFull (c_isFull hW hd0 (by omega)) (by decide) (ws_37 hW) rfl (by decide) (Nat.le_of_ble_eq_true rfl) (Nat.le_of_ble_eq_true rfl) ?_
    refine f_if_eq dX11_sitting_17 (tgt := 22) rfl (by rw [if_pos (by omega)]; decide +kernel) ?_
    refine q_ic (v := -1) dX11_sitting_20 rfl ?_
    refine q_ir dX11_sitting_21 rfl ?_
    rfl
set_option maxHeartbeats 2000000 in
theorem c_yesOf {h : am_H} (hW : Wd h) {hd : Nat} {y : Nat → Nat} {p : Nat → Bool} {st : Nat → Int64} {dr : Int64} (hT : TB 37 0 1 38 39 40 h hd y p st dr) {w : Nat} (hw : w < hd) : am_C 0 m_X7_yesOf [.ref 37, .int (nI w)] h (some (.int (nI (y w))), h) := by
  obtain ⟨hd0, h40, hdr, hk⟩ := id hT
  refine q_iln dX7_yesOf_0 rfl ?_
  refine n_if_lt (tgt := 27) dX7_yesOf_1 rfl (by omega) ?_
  refine q_iln dX7_yesOf_4 rfl ?_
  refine q_aln dX7_yesOf_5 rfl ?_
  refine q_getI dX7_yesOf_6 fl_X7_9 (ws_37 hW) rfl (by first | assumption | rfl) ?_
  refine f_ic_ge dX7_yesOf_9 (tgt := 27) rfl (by exact nI_ge (by omega) (by omega)) ?_
  refine q_iln dX7_yesOf_12 rfl ?_
  refine q_bp (v := nI 40) dX7_yesOf_13 rfl ?_
  refine f_ic_ge dX7_yesOf_15 (tgt := 27) rfl (by exact nI_ge (by omega) (by omega)) ?_
  refine q_aln dX7_yesOf_18 rfl ?_
  refine q_getR dX7_yesOf_19 fl_X7_19 (ws_37 hW) rfl (wp_37_2 hW) ?_
  refine q_iln dX7_yesOf_22 rfl ?_
  refine q_ald dX7_yesOf_23 (ws_38 hW) (by omega) (by omega) (hk w hw).1 ?_
  refine am_x_goto (tgt := 28) dX7_yesOf_24 rfl ?_
  refine q_ir dX7_yesOf_28 rfl ?_
  rfl
set_option maxHeartbeats 2000000 in
theorem c_passedOf {h : am_H} (hW : Wd h) {hd : Nat} {y : Nat → Nat} {p : Nat → Bool} {st : Nat → Int64} {dr : Int64} (hT : TB 37 0 1 38 39 40 h hd y p st dr) {w : Nat} (hw : w < hd) : am_C 0 m_X7_passedOf [.ref 37, .int (nI w)] h (some (.int (nI (if p w = true then 1 else 0))), h) := by
  obtain ⟨hd0, h40, hdr, hk⟩ := id hT
  refine q_iln dX7_passedOf_0 rfl ?_
  refine n_if_lt (tgt := 27) dX7_passedOf_1 rfl (by omega) ?_
  refine q_iln dX7_passedOf_4 rfl ?_
  refine q_aln dX7_passedOf_5 rfl ?_
  refine q_getI dX7_passedOf_6 fl_X7_9 (ws_37 hW) rfl (by first | assumption | rfl) ?_
  refine f_ic_ge dX7_passedOf_9 (tgt := 27) rfl (by exact nI_ge (by omega) (by omega)) ?_
  refine q_iln dX7_passedOf_12 rfl ?_
  refine q_bp (v := nI 40) dX7_passedOf_13 rfl ?_
  refine f_ic_ge dX7_passedOf_15 (tgt := 27) rfl (by exact nI_ge (by omega) (by omega)) ?_
  refine q_aln dX7_passedOf_18 rfl ?_
  refine q_getR dX7_passedOf_19 fl_X7_23 (ws_37 hW) rfl (wp_37_3 hW) ?_
  refine q_iln dX7_passedOf_22 rfl ?_
  refine q_ald dX7_passedOf_23 (ws_39 hW) (by omega) (by omega) (hk w hw).2.2.1 ?_
  refine am_x_goto (tgt := 28) dX7_passedOf_24 rfl ?_
  refine q_ir dX7_passedOf_28 rfl ?_
  rfl
set_option maxHeartbeats 2000000 in
theorem c_sat {h : am_H} (hW : Wd h) {hd : Nat} {y : Nat → Nat} {p : Nat → Bool} {st : Nat → Int64} {dr : Int64} (hT : TB 37 0 1 38 39 40 h hd y p st dr) {x1 x2 : Int32} : am_C 1 m_X11_sat [.ref 0, .int x1, .int x2] h (some (.int (saV hd y p x1 x2)), h) := by
  obtain ⟨hd0, h40, hdr, hk⟩ := id hT
  cases hr : rg x1 (hd) with
  | none =>
    rcases rg_none (by omega) hr with hx | ⟨hx, hy⟩
    · rw [saV_n hr]
      refine q_iln dX11_sat_0 rfl ?_
      refine t_if_lt 24 dX11_sat_1 rfl (by exact hx) ?_
      refine q_ic (v := -1) dX11_sat_24 rfl ?_
      refine q_ir dX11_sat_25 rfl ?_
      rfl
    · rw [saV_n hr]
      refine q_iln dX11_sat_0 rfl ?_
      refine f_if_lt dX11_sat_1 (tgt := 24) rfl (by exact hx) ?_
      refine q_iln dX11_sat_4 rfl ?_
      refine q_aln dX11_sat_5 rfl ?_
      refine q_getR dX11_sat_6 fl_X11_96 (ws_0 hW) rfl (wp_0_12 hW) ?_
      refine q_getI dX11_sat_9 fl_X11_155 (ws_37 hW) rfl (by first | assumption | rfl) ?_
      refine t_ic_ge 24 dX11_sat_12 rfl (by exact hy) ?_
      refine q_ic (v := -1) dX11_sat_24 rfl ?_
      refine q_ir dX11_sat_25 rfl ?_
      rfl
  | some w =>
    obtain ⟨rfl, hw⟩ := rg_some (by omega) hr
    cases hr2 : rg x2 (2) with
    | none =>
      rcases rg_none (by omega) hr2 with hx | ⟨hx, hy⟩
      · rw [saV_m hr2]
        refine q_iln dX11_sat_0 rfl ?_
        refine n_if_lt (tgt := 24) dX11_sat_1 rfl (by omega) ?_
        refine q_iln dX11_sat_4 rfl ?_
        refine q_aln dX11_sat_5 rfl ?_
        refine q_getR dX11_sat_6 fl_X11_96 (ws_0 hW) rfl (wp_0_12 hW) ?_
        refine q_getI dX11_sat_9 fl_X11_155 (ws_37 hW) rfl (by first | assumption | rfl) ?_
        refine f_ic_ge dX11_sat_12 (tgt := 24) rfl (by exact nI_ge (by omega) (by omega)) ?_
        refine q_iln dX11_sat_15 rfl ?_
        refine t_if_lt 24 dX11_sat_16 rfl (by exact hx) ?_
        refine q_ic (v := -1) dX11_sat_24 rfl ?_
        refine q_ir dX11_sat_25 rfl ?_
        rfl
      · rw [saV_m hr2]
        refine q_iln dX11_sat_0 rfl ?_
        refine n_if_lt (tgt := 24) dX11_sat_1 rfl (by omega) ?_
        refine q_iln dX11_sat_4 rfl ?_
        refine q_aln dX11_sat_5 rfl ?_
        refine q_getR dX11_sat_6 fl_X11_96 (ws_0 hW) rfl (wp_0_12 hW) ?_
        refine q_getI dX11_sat_9 fl_X11_155 (ws_37 hW) rfl (by first | assumption | rfl) ?_
        refine f_ic_ge dX11_sat_12 (tgt := 24) rfl (by exact nI_ge (by omega) (by omega)) ?_
        refine q_iln dX11_sat_15 rfl ?_
        refine f_if_lt dX11_sat_16 (tgt := 24) rfl (by exact hx) ?_
        refine q_iln dX11_sat_19 rfl ?_
        refine q_ic (v := nI 1) dX11_sat_20 rfl ?_
        refine f_ic_le dX11_sat_21 (tgt := 26) rfl (by exact rg_gt (by omega) hy) ?_
        refine q_ic (v := -1) dX11_sat_24 rfl ?_
        refine q_ir dX11_sat_25 rfl ?_
        rfl
    | some v =>
      obtain ⟨rfl, hv⟩ := rg_some (by omega) hr2
      rw [saV_s hr hr2]
      refine q_iln dX11_sat_0 rfl ?_
      refine n_if_lt (tgt := 24) dX11_sat_1 rfl (by omega) ?_
      refine q_iln dX11_sat_4 rfl ?_
      refine q_aln dX11_sat_5 rfl ?_
      refine q_getR dX11_sat_6 fl_X11_96 (ws_0 hW) rfl (wp_0_12 hW) ?_
      refine q_getI dX11_sat_9 fl_X11_155 (ws_37 hW) rfl (by first | assumption | rfl) ?_
      refine f_ic_ge dX11_sat_12 (tgt := 24) rfl (by exact nI_ge (by omega) (by omega)) ?_
      refine q_iln dX11_sat_15 rfl ?_
      refine n_if_lt (tgt := 24) dX11_sat_16 rfl (by omega) ?_
      refine q_iln dX11_sat_19 rfl ?_
      refine q_ic (v := nI 1) dX11_sat_20 rfl ?_
      refine t_ic_le 26 dX11_sat_21 rfl (by exact nI_le (by omega) (by omega)) ?_
      refine q_iln dX11_sat_26 rfl ?_
      first | refine n_if_ne 41 dX11_sat_27 rfl (by omega) (fun c27 => ?_) (fun c27 => ?_) | refine b_if_ne 41 dX11_sat_27 rfl (fun c27 => ?_) (fun c27 => ?_)
      · first
        | (exfalso; omega)
        | (refine q_aln dX11_sat_41 rfl ?_
           refine q_getR dX11_sat_42 fl_X11_96 (ws_0 hW) rfl (wp_0_12 hW) ?_
           refine q_iln dX11_sat_45 rfl ?_
           refine q_V1 (N := m_X7_passedOf) dX11_sat_46 lk_X11_313 mV_X7_passedOf (c_passedOf hW hT hw) (by decide) (ws_37 hW) rfl (by decide) (Nat.le_of_ble_eq_true rfl) (Nat.le_of_ble_eq_true rfl) ?_
           refine q_ir dX11_sat_49 rfl ?_
           (apply o_i2; first | rw [if_pos (show v = 0 by omega)] | rw [if_neg (show ¬ v = 0 by omega)]))
      · first
        | (exfalso; omega)
        | (refine q_aln dX11_sat_30 rfl ?_
           refine q_getR dX11_sat_31 fl_X11_96 (ws_0 hW) rfl (wp_0_12 hW) ?_
           refine q_iln dX11_sat_34 rfl ?_
           refine q_V1 (N := m_X7_yesOf) dX11_sat_35 lk_X11_310 mV_X7_yesOf (c_yesOf hW hT hw) (by decide) (ws_37 hW) rfl (by decide) (Nat.le_of_ble_eq_true rfl) (Nat.le_of_ble_eq_true rfl) ?_
           refine am_x_goto (tgt := 49) dX11_sat_38 rfl ?_
           refine q_ir dX11_sat_49 rfl ?_
           (apply o_i2; first | rw [if_pos (show v = 0 by omega)] | rw [if_neg (show ¬ v = 0 by omega)]))
set_option maxHeartbeats 2000000 in
theorem c_takeBack {h : am_H} (hW : Wd h) {hd : Nat} {y : Nat → Nat} {p : Nat → Bool} {st : Nat → Int64} {dr : Int64} (hT : TB 37 0 1 38 39 40 h (hd + 1) y p st dr)  : am_D 0 m_X7_takeBack [.ref 37] h (fun v h2 => v = some (.int (nI hd)) ∧ Fx [37] [] h h2 ∧ TB 37 0 1 38 39 40 h2 hd y p st (st hd)) := by
  obtain ⟨hd0, h40, hdr, hk⟩ := id hT
  refine Eq_aln dX7_takeBack_0 rfl ?_
  refine Eq_getI dX7_takeBack_1 fl_X7_9 (ws_37 hW) rfl (by first | assumption | rfl) ?_
  refine Ef_if_le dX7_takeBack_4 (tgt := 39) rfl (by exact nI_ge (a := 0) (b := hd + 1) (by omega) (by omega)) ?_
  refine Eq_aln dX7_takeBack_7 rfl ?_
  refine Eq_getI dX7_takeBack_8 fl_X7_9 (ws_37 hW) rfl (by first | assumption | rfl) ?_
  refine Eq_bp (v := nI 40) dX7_takeBack_11 rfl ?_
  refine Ef_ic_gt dX7_takeBack_13 (tgt := 39) rfl (by exact nI_nlt (by omega) (by omega)) ?_
  refine Eq_aln dX7_takeBack_16 rfl ?_
  refine Eam_x_pu dX7_takeBack_17 rfl ?_
  refine Eq_getI dX7_takeBack_18 fl_X7_9 (ws_37 hW) rfl (by first | assumption | rfl) ?_
  refine Eq_ic (v := nI 1) dX7_takeBack_21 rfl ?_
  first | refine Eq_sub dX7_takeBack_22 (by omega) ?_ | refine Eam_x_pu dX7_takeBack_22 rfl ?_
  refine Eam_x_putI dX7_takeBack_23 (fw_X7_9 rfl) (ws_37 hW) (Or.inl rfl) ?_
  refine Eq_aln dX7_takeBack_26 rfl ?_
  refine Eq_aln dX7_takeBack_27 rfl ?_
  refine Eq_getR dX7_takeBack_28 fl_X7_26 (ws_37 hW) rfl (wp_37_4 hW) ?_
  refine Eq_aln dX7_takeBack_31 rfl ?_
  refine Eq_getI dX7_takeBack_32 fl_X7_9 (ws_37 hW) rfl (wI_eq (h := h) (r := 37) (j := 0) (v := nI hd) 0) ?_
  rw [if_pos rfl]
  refine Eq_lld dX7_takeBack_35 (ws_40 hW) (by omega) (by omega) (hk hd (by omega)).2.2.2 ?_
  refine Eam_x_putL dX7_takeBack_36 (fw_X7_15 rfl) (ws_37 hW) rfl ?_
  refine Eq_aln dX7_takeBack_39 rfl ?_
  refine Eq_getI dX7_takeBack_40 fl_X7_9 (ws_37 hW) rfl (wI_eq (h := h) (r := 37) (j := 0) (v := nI hd) 0) ?_
  rw [if_pos rfl]
  refine Eq_ir dX7_takeBack_43 rfl ?_
  refine ⟨rfl, (Fx.wI (Or.inl (by decide))).tr (Fx.wL (Or.inl (by decide))), hT.undo (wI_eq (h := h) (r := 37) (j := 0) (v := nI hd) 0) ?_ ?_ ?_ ?_⟩
  · rw [wL_eq, if_pos rfl]
  · rw [wLi, wI_ne (by decide)]
  · rw [wLi, wI_ne (by decide)]
  · exact wL_ne (by decide)
set_option maxHeartbeats 2000000 in
theorem c_undo {h : am_H} (hW : Wd h) {hd : Nat} {y : Nat → Nat} {p : Nat → Bool} {st : Nat → Int64} {dr : Int64} (hT : TB 37 0 1 38 39 40 h (hd + 1) y p st dr)  : am_D 1 m_X11_undo [.ref 0] h (fun v h2 => v = some (.int (nI hd)) ∧ Fx [37] [] h h2 ∧ TB 37 0 1 38 39 40 h2 hd y p st (st hd)) := by
  obtain ⟨hd0, h40, hdr, hk⟩ := id hT
  refine Eq_aln dX11_undo_0 rfl ?_
  refine Eq_getR dX11_undo_1 fl_X11_96 (ws_0 hW) rfl (wp_0_12 hW) ?_
  refine Eq_getI dX11_undo_4 fl_X11_155 (ws_37 hW) rfl (by first | assumption | rfl) ?_
  refine Et_if_ne 14 dX11_undo_7 rfl (by exact nI_ne0 (by omega) (by omega)) ?_
  refine Eq_aln dX11_undo_14 rfl ?_
  refine Eq_getR dX11_undo_15 fl_X11_96 (ws_0 hW) rfl (wp_0_12 hW) ?_
  refine Eq_W0 (N := m_X7_takeBack) dX11_undo_18 lk_X11_316 mV_X7_takeBack (c_takeBack hW hT) (by decide) (ws_37 hW) rfl (by decide) (Nat.le_of_ble_eq_true rfl) (Nat.le_of_ble_eq_true rfl) (fun vq hq1 hq2 => ?_)
  obtain ⟨rfl, hf, ht⟩ := hq2
  refine Eq_ir dX11_undo_21 rfl ?_
  exact ⟨rfl, hf, ht⟩
set_option maxHeartbeats 2000000 in
theorem c_undoN {h : am_H} (hW : Wd h) {hd : Nat} {y : Nat → Nat} {p : Nat → Bool} {st : Nat → Int64} {dr : Int64} (hd0 : am_i h 37 0 = nI 0) : am_C 1 m_X11_undo [.ref 0] h (some (.int (-1)), h) := by
  refine q_aln dX11_undo_0 rfl ?_
  refine q_getR dX11_undo_1 fl_X11_96 (ws_0 hW) rfl (wp_0_12 hW) ?_
  refine q_getI dX11_undo_4 fl_X11_155 (ws_37 hW) rfl (by first | assumption | rfl) ?_
  refine f_if_ne dX11_undo_7 (tgt := 14) rfl (by rfl) ?_
  refine q_ic (v := -1) dX11_undo_10 rfl ?_
  refine am_x_goto (tgt := 21) dX11_undo_11 rfl ?_
  refine q_ir dX11_undo_21 rfl ?_
  rfl
set_option maxHeartbeats 2000000 in
theorem c_passedOnes_lp {h : am_H} (hW : Wd h) {hd : Nat} {y : Nat → Nat} {p : Nat → Bool} {st : Nat → Int64} {dr : Int64} (hT : TB 37 0 1 38 39 40 h hd y p st dr)  : ∀ k j, j + k = hd → am_Sem 0 m_X7_passedOnes 4 [some (.ref 37), some (.int (nI (ct p j))), some (.int (nI j))] [] h (some (.int (nI (ct p hd))), h) := by
  obtain ⟨hd0, h40, hdr, hk⟩ := id hT
  intro k
  induction k with
  | zero =>
    intro j hj
    have hjn : j = hd := by omega
    subst hjn
    refine q_iln dX7_passedOnes_4 rfl ?_
    refine q_aln dX7_passedOnes_5 rfl ?_
    refine q_getI dX7_passedOnes_6 fl_X7_9 (ws_37 hW) rfl (by first | assumption | rfl) ?_
    refine t_ic_ge 33 dX7_passedOnes_9 rfl (by exact nI_le (by omega) (by omega)) ?_
    refine q_iln dX7_passedOnes_33 rfl ?_
    refine q_ir dX7_passedOnes_34 rfl ?_
    rfl
  | succ k ih =>
    intro j hj
    have q := ih (j + 1) (by omega)
    refine q_iln dX7_passedOnes_4 rfl ?_
    refine q_aln dX7_passedOnes_5 rfl ?_
    refine q_getI dX7_passedOnes_6 fl_X7_9 (ws_37 hW) rfl (by first | assumption | rfl) ?_
    refine f_ic_ge dX7_passedOnes_9 (tgt := 33) rfl (by exact nI_ge (by omega) (by omega)) ?_
    refine q_iln dX7_passedOnes_12 rfl ?_
    refine q_bp (v := nI 40) dX7_passedOnes_13 rfl ?_
    refine f_ic_ge dX7_passedOnes_15 (tgt := 33) rfl (by exact nI_ge (by omega) (by omega)) ?_
    refine q_iln dX7_passedOnes_18 rfl ?_
    refine q_aln dX7_passedOnes_19 rfl ?_
    refine q_getR dX7_passedOnes_20 fl_X7_23 (ws_37 hW) rfl (wp_37_3 hW) ?_
    refine q_iln dX7_passedOnes_23 rfl ?_
    refine q_ald dX7_passedOnes_24 (ws_39 hW) (by omega) (by omega) (hk j (by omega)).2.2.1 ?_
    first | refine q_add dX7_passedOnes_25 ?_ | refine am_x_pu dX7_passedOnes_25 rfl ?_
    refine q_isn dX7_passedOnes_26 (by decide) ?_
    refine q_inc dX7_passedOnes_27 rfl (by decide) ?_
    refine am_x_goto (tgt := 4) dX7_passedOnes_30 rfl ?_
    exact q
set_option maxHeartbeats 2000000 in
theorem c_passedOnes {h : am_H} (hW : Wd h) {hd : Nat} {y : Nat → Nat} {p : Nat → Bool} {st : Nat → Int64} {dr : Int64} (hT : TB 37 0 1 38 39 40 h hd y p st dr)  : am_C 0 m_X7_passedOnes [.ref 37] h (some (.int (nI (ct p hd))), h) := by
  refine q_ic (v := nI 0) dX7_passedOnes_0 rfl ?_
  refine q_isn dX7_passedOnes_1 (by decide) ?_
  refine q_ic (v := nI 0) dX7_passedOnes_2 rfl ?_
  refine q_isn dX7_passedOnes_3 (by decide) ?_
  exact c_passedOnes_lp hW hT hd 0 (by omega)
set_option maxHeartbeats 2000000 in
theorem c_seed {h : am_H} (hW : Wd h) {s : Int64} : am_C 0 m_X11_seed [.ref 0, .long s] h (some (.int (nI 1)), am_wL h 37 1 s) := by
  refine q_aln dX11_seed_0 rfl ?_
  refine q_getR dX11_seed_1 fl_X11_96 (ws_0 hW) rfl (wp_0_12 hW) ?_
  refine q_lln dX11_seed_4 rfl ?_
  refine am_x_putL dX11_seed_5 (fw_X11_288 rfl) (ws_37 hW) rfl ?_
  refine q_ic (v := nI 1) dX11_seed_8 rfl ?_
  first | refine q_zrn dX11_seed_9 rfl (by first | omega | exact b2_le) ?_ | refine q_zr dX11_seed_9 rfl (by first | exact Or.inl rfl | exact Or.inr rfl | assumption) ?_
  rfl
