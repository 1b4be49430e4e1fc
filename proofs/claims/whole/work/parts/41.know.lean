set_option maxHeartbeats 2000000 in
theorem c_learn {h : am_H} (hW : Wd h) {n : Nat} {kn : Nat} {ks : Nat → Nat} {ky : Nat → Bool} (hK : KB 16 3 18 19 h n kn ks ky) {y : Bool} {s : Nat} (hs : s < n) (hl : kn < 20) : am_C 0 m_X10_learn [.ref 16, .int (nI s), .int (nI (if y = true then 1 else 0))] h (some (.int (nI (kn + 1))), am_wI (am_wI (am_wI h 18 kn (nI s)) 19 kn (nI (if y = true then 1 else 0))) 16 3 (nI (kn + 1))) := by
  obtain ⟨hk0, hk20, hkk⟩ := id hK
  refine q_aln dX10_learn_0 rfl ?_
  refine q_getI dX10_learn_1 fl_X10_26 (ws_16 hW) rfl hk0 ?_
  refine n_if_lt (tgt := 16) dX10_learn_4 rfl (by omega) ?_
  refine q_aln dX10_learn_7 rfl ?_
  refine q_getI dX10_learn_8 fl_X10_26 (ws_16 hW) rfl hk0 ?_
  refine q_bp (v := nI 20) dX10_learn_11 rfl ?_
  refine t_ic_lt 18 dX10_learn_13 rfl (by exact nI_lt (by omega) (by omega)) ?_
  refine q_aln dX10_learn_18 rfl ?_
  refine q_getR dX10_learn_19 fl_X10_30 (ws_16 hW) rfl (wp_16_4 hW) ?_
  refine q_aln dX10_learn_22 rfl ?_
  refine q_getI dX10_learn_23 fl_X10_26 (ws_16 hW) rfl hk0 ?_
  refine q_iln dX10_learn_26 rfl ?_
  refine q_ast dX10_learn_27 (ws_18 hW) (by omega) (by omega) ?_
  refine q_aln dX10_learn_28 rfl ?_
  refine q_getR dX10_learn_29 fl_X10_34 (ws_16 hW) rfl (wp_16_5 hW) ?_
  refine q_aln dX10_learn_32 rfl ?_
  refine q_getI dX10_learn_33 fl_X10_26 (ws_16 hW) rfl hk0 ?_
  refine q_iln dX10_learn_36 rfl ?_
  refine q_zst dX10_learn_37 (ws_19 hW) (by omega) (by omega) (b01 y) ?_
  refine q_aln dX10_learn_38 rfl ?_
  refine am_x_pu dX10_learn_39 rfl ?_
  refine q_getI dX10_learn_40 fl_X10_26 (ws_16 hW) rfl hk0 ?_
  refine q_ic (v := nI 1) dX10_learn_43 rfl ?_
  first | refine q_add dX10_learn_44 ?_ | refine am_x_pu dX10_learn_44 rfl ?_
  refine am_x_putI dX10_learn_45 (fw_X10_26 rfl) (ws_16 hW) (Or.inl rfl) ?_
  refine q_aln dX10_learn_48 rfl ?_
  refine q_getI dX10_learn_49 fl_X10_26 (ws_16 hW) rfl (wI_eq (r := 16) (j := 3) (v := nI (kn + 1)) 3) ?_
  rw [if_pos rfl]
  refine q_ir dX10_learn_52 rfl ?_
  rfl
set_option maxHeartbeats 2000000 in
theorem c_know {h : am_H} {n : Nat} {S T : Nat → Nat} (hW : Wd h) (hS : SB 11 12 13 h n S T) {kn : Nat} {ks : Nat → Nat} {ky : Nat → Bool} (hK : KB 16 3 18 19 h n kn ks ky) {x : Int32} {y : Bool} : am_D 1 m_X11_know [.ref 0, .int x, .int (nI (if y = true then 1 else 0))] h (fun v h2 => match knO n kn x with
    | none => v = some (.int (-1)) ∧ h2 = h
    | some s => v = some (.int (nI (kn + 1))) ∧ s < n ∧ kn < 20 ∧ Fx [18, 19] [(16, 3)] h h2 ∧ KB 16 3 18 19 h2 n (kn + 1) (up1 ks kn s) (up1 ky kn y)) := by
  obtain ⟨hk0, hk20, hkk⟩ := id hK
  have h7 := hS.2.1
  cases hr : rg x n with
  | none =>
    rw [show knO n kn x = none by unfold knO; rw [hr]; split <;> rfl]
    refine Eq_aln dX11_know_0 rfl ?_
    refine Eq_getR dX11_know_1 fl_X11_55 (ws_0 hW) rfl (wp_0_7 hW) ?_
    refine Eq_iln dX11_know_4 rfl ?_
    refine Eq_V1 (N := m_X6_has) dX11_know_5 lk_X11_198 mV_X6_has ((by have z := c_shasX11 hW hS (x := x); rw [isr_n hr] at z; exact z)) (by decide) (ws_11 hW) rfl (by decide) (Nat.le_of_ble_eq_true rfl) (Nat.le_of_ble_eq_true rfl) ?_
    refine Et_if_eq 23 dX11_know_8 rfl (by rfl) ?_
    refine Eq_ic (v := -1) dX11_know_23 rfl ?_
    refine Eq_ir dX11_know_24 rfl ?_
    exact ⟨rfl, rfl⟩
  | some s =>
    have hi := isr_s hr
    obtain ⟨rfl, hs⟩ := rg_some (by omega) hr
    by_cases hl : kn < 20
    · rw [show knO n kn (nI s) = some s by unfold knO; rw [if_pos hl, hr]]
      refine Eq_aln dX11_know_0 rfl ?_
      refine Eq_getR dX11_know_1 fl_X11_55 (ws_0 hW) rfl (wp_0_7 hW) ?_
      refine Eq_iln dX11_know_4 rfl ?_
      refine Eq_V1 (N := m_X6_has) dX11_know_5 lk_X11_198 mV_X6_has ((by have z := c_shasX11 hW hS (x := nI s); rw [hi] at z; exact z)) (by decide) (ws_11 hW) rfl (by decide) (Nat.le_of_ble_eq_true rfl) (Nat.le_of_ble_eq_true rfl) ?_
      refine Ef_if_eq dX11_know_8 (tgt := 23) rfl (by exact zf1) ?_
      refine Eq_aln dX11_know_11 rfl ?_
      refine Eq_getR dX11_know_12 fl_X11_73 (ws_0 hW) rfl (wp_0_9 hW) ?_
      refine Eq_iln dX11_know_15 rfl ?_
      refine Eq_iln dX11_know_16 rfl ?_
      refine Eq_V2 (N := m_X10_learn) dX11_know_17 lk_X11_274 mV_X10_learn (c_learn hW hK hs hl) (by decide) (ws_16 hW) rfl (by decide) (Nat.le_of_ble_eq_true rfl) (Nat.le_of_ble_eq_true rfl) ?_
      refine Eam_x_goto (tgt := 24) dX11_know_20 rfl ?_
      refine Eq_ir dX11_know_24 rfl ?_
      refine ⟨rfl, hs, hl, ((Fx.wI (Or.inl (by decide))).tr (Fx.wI (Or.inl (by decide)))).tr (Fx.wI (Or.inr (by decide))), hK.more hl hs (by rw [wI_eq, if_pos rfl]) (fun k hk => ?_) (fun k hk => ?_)⟩
      · rw [wI_ne (by decide), wI_ne (by decide), wI_eq]
      · rw [wI_ne (by decide), wI_eq, wI_ne (by decide)]
    · rw [show knO n kn (nI s) = none by unfold knO; rw [if_neg hl]]
      have hf : am_C 0 m_X10_learn [.ref 16, .int (nI s), .int (nI (if y = true then 1 else 0))] h (some (.int (-1)), h) := by
        refine q_aln dX10_learn_0 rfl ?_
        refine q_getI dX10_learn_1 fl_X10_26 (ws_16 hW) rfl hk0 ?_
        refine n_if_lt (tgt := 16) dX10_learn_4 rfl (by omega) ?_
        refine q_aln dX10_learn_7 rfl ?_
        refine q_getI dX10_learn_8 fl_X10_26 (ws_16 hW) rfl hk0 ?_
        refine q_bp (v := nI 20) dX10_learn_11 rfl ?_
        refine f_ic_lt dX10_learn_13 (tgt := 18) rfl (by exact nI_nlt (by omega) (by omega)) ?_
        refine q_ic (v := -1) dX10_learn_16 rfl ?_
        refine q_ir dX10_learn_17 rfl ?_
        rfl
      refine Eq_aln dX11_know_0 rfl ?_
      refine Eq_getR dX11_know_1 fl_X11_55 (ws_0 hW) rfl (wp_0_7 hW) ?_
      refine Eq_iln dX11_know_4 rfl ?_
      refine Eq_V1 (N := m_X6_has) dX11_know_5 lk_X11_198 mV_X6_has ((by have z := c_shasX11 hW hS (x := nI s); rw [hi] at z; exact z)) (by decide) (ws_11 hW) rfl (by decide) (Nat.le_of_ble_eq_true rfl) (Nat.le_of_ble_eq_true rfl) ?_
      refine Ef_if_eq dX11_know_8 (tgt := 23) rfl (by exact zf1) ?_
      refine Eq_aln dX11_know_11 rfl ?_
      refine Eq_getR dX11_know_12 fl_X11_73 (ws_0 hW) rfl (wp_0_9 hW) ?_
      refine Eq_iln dX11_know_15 rfl ?_
      refine Eq_iln dX11_know_16 rfl ?_
      refine Eq_V2 (N := m_X10_learn) dX11_know_17 lk_X11_274 mV_X10_learn (hf) (by decide) (ws_16 hW) rfl (by decide) (Nat.le_of_ble_eq_true rfl) (Nat.le_of_ble_eq_true rfl) ?_
      refine Eam_x_goto (tgt := 24) dX11_know_20 rfl ?_
      refine Eq_ir dX11_know_24 rfl ?_
      exact ⟨rfl, rfl⟩
set_option maxHeartbeats 2000000 in
theorem r_know {h : am_H} {n : Nat} {g : Bool} {F : Nat → Nat → Nat} {S T : Nat → Nat} (hW : Wd h) (hR : RB h n g F S T) {kn : Nat} {ks : Nat → Nat} {ky : Nat → Bool} (hK : KB 50 36 68 69 h n kn ks ky) {x : Int32} {y : Bool} : am_D 1 m_X12_know [.ref 50, .int x, .int (nI (if y = true then 1 else 0))] h (fun v h2 => match knO n kn x with
    | none => v = some (.int (-1)) ∧ h2 = h
    | some s => v = some (.int (nI (kn + 1))) ∧ s < n ∧ kn < 20 ∧ Fx [68, 69] [(50, 36)] h h2 ∧ KB 50 36 68 69 h2 n (kn + 1) (up1 ks kn s) (up1 ky kn y)) := by
  obtain ⟨hn, hg, h7, hF, hB, hS, hT⟩ := id hR
  obtain ⟨hk0, hk20, hkk⟩ := id hK
  cases hr : rg x n with
  | none =>
    rw [show knO n kn x = none by unfold knO; rw [hr]; split <;> rfl]
    refine Eq_iln dX12_know_0 rfl ?_
    refine Eq_ic (v := nI 0) dX12_know_1 rfl ?_
    refine Eq_aln dX12_know_2 rfl ?_
    refine Eq_getI dX12_know_3 fl_X12_252 (ws_50 hW) rfl (by first | assumption | rfl) ?_
    refine Eq_ic (v := nI 1) dX12_know_6 rfl ?_
    refine Eam_x_pu dX12_know_7 rfl ?_
    rw [dk_sub]
    refine Eq_S3 (N := m_X12_in) dX12_know_8 lk_X12_215 mS_X12_in ((by have z := r_inm (h := h) (x := x) (n := n) (by omega); rw [isr_n hr] at z; exact z)) (by decide) (Nat.le_of_ble_eq_true rfl) (Nat.le_of_ble_eq_true rfl) ?_
    refine Et_if_eq 23 dX12_know_11 rfl (by rfl) ?_
    refine Eq_ic (v := -1) dX12_know_23 rfl ?_
    refine Eq_ir dX12_know_24 rfl ?_
    exact ⟨rfl, rfl⟩
  | some s =>
    have hi := isr_s hr
    obtain ⟨rfl, hs⟩ := rg_some (by omega) hr
    by_cases hl : kn < 20
    · rw [show knO n kn (nI s) = some s by unfold knO; rw [if_pos hl, hr]]
      refine Eq_iln dX12_know_0 rfl ?_
      refine Eq_ic (v := nI 0) dX12_know_1 rfl ?_
      refine Eq_aln dX12_know_2 rfl ?_
      refine Eq_getI dX12_know_3 fl_X12_252 (ws_50 hW) rfl (by first | assumption | exact hk0) ?_
      refine Eq_ic (v := nI 1) dX12_know_6 rfl ?_
      refine Eam_x_pu dX12_know_7 rfl ?_
      rw [dk_sub]
      refine Eq_S3 (N := m_X12_in) dX12_know_8 lk_X12_215 mS_X12_in ((by have z := r_inm (h := h) (x := nI s) (n := n) (by omega); rw [hi] at z; exact z)) (by decide) (Nat.le_of_ble_eq_true rfl) (Nat.le_of_ble_eq_true rfl) ?_
      refine Ef_if_eq dX12_know_11 (tgt := 23) rfl (by exact zf1) ?_
      refine Eq_aln dX12_know_14 rfl ?_
      refine Eq_getI dX12_know_15 fl_X12_261 (ws_50 hW) rfl (by first | assumption | exact hk0) ?_
      refine Eq_bp (v := nI 20) dX12_know_18 rfl ?_
      refine Et_ic_ne 25 dX12_know_20 rfl (by exact fun z => absurd ((nI_eq (by omega) (by omega)).mp z) (by omega)) ?_
      refine Eq_aln dX12_know_25 rfl ?_
      refine Eq_getR dX12_know_26 fl_X12_66 (ws_50 hW) rfl (wp_50_34 hW) ?_
      refine Eq_aln dX12_know_29 rfl ?_
      refine Eq_getI dX12_know_30 fl_X12_261 (ws_50 hW) rfl (by first | assumption | exact hk0) ?_
      refine Eq_iln dX12_know_33 rfl ?_
      refine Eq_ast dX12_know_34 (ws_68 hW) (by omega) (by omega) ?_
      refine Eq_aln dX12_know_35 rfl ?_
      refine Eq_getR dX12_know_36 fl_X12_69 (ws_50 hW) rfl (wp_50_35 hW) ?_
      refine Eq_aln dX12_know_39 rfl ?_
      refine Eq_getI dX12_know_40 fl_X12_261 (ws_50 hW) rfl (by first | assumption | exact hk0) ?_
      refine Eq_iln dX12_know_43 rfl ?_
      refine Eq_zst dX12_know_44 (ws_69 hW) (by omega) (by omega) (b01 y) ?_
      refine Eq_aln dX12_know_45 rfl ?_
      refine Eam_x_pu dX12_know_46 rfl ?_
      refine Eq_getI dX12_know_47 fl_X12_261 (ws_50 hW) rfl (by first | assumption | exact hk0) ?_
      refine Eq_ic (v := nI 1) dX12_know_50 rfl ?_
      first | refine Eq_add dX12_know_51 ?_ | refine Eam_x_pu dX12_know_51 rfl ?_
      refine Eam_x_putI dX12_know_52 (fw_X12_261 rfl) (ws_50 hW) (Or.inl rfl) ?_
      refine Eq_aln dX12_know_55 rfl ?_
      refine Eq_getI dX12_know_56 fl_X12_261 (ws_50 hW) rfl (wI_eq (r := 50) (j := 36) (v := nI (kn + 1)) 36) ?_
      rw [if_pos rfl]
      refine Eq_ir dX12_know_59 rfl ?_
      refine ⟨rfl, hs, hl, ((Fx.wI (Or.inl (by decide))).tr (Fx.wI (Or.inl (by decide)))).tr (Fx.wI (Or.inr (by decide))), hK.more hl hs (by rw [wI_eq, if_pos rfl]) (fun k hk => ?_) (fun k hk => ?_)⟩
      · rw [wI_ne (by decide), wI_ne (by decide), wI_eq]
      · rw [wI_ne (by decide), wI_eq, wI_ne (by decide)]
    · rw [show knO n kn (nI s) = none by unfold knO; rw [if_neg hl]]
      refine Eq_iln dX12_know_0 rfl ?_
      refine Eq_ic (v := nI 0) dX12_know_1 rfl ?_
      refine Eq_aln dX12_know_2 rfl ?_
      refine Eq_getI dX12_know_3 fl_X12_252 (ws_50 hW) rfl (by first | assumption | rfl) ?_
      refine Eq_ic (v := nI 1) dX12_know_6 rfl ?_
      refine Eam_x_pu dX12_know_7 rfl ?_
      rw [dk_sub]
      refine Eq_S3 (N := m_X12_in) dX12_know_8 lk_X12_215 mS_X12_in ((by have z := r_inm (h := h) (x := nI s) (n := n) (by omega); rw [hi] at z; exact z)) (by decide) (Nat.le_of_ble_eq_true rfl) (Nat.le_of_ble_eq_true rfl) ?_
      refine Ef_if_eq dX12_know_11 (tgt := 23) rfl (by exact zf1) ?_
      refine Eq_aln dX12_know_14 rfl ?_
      refine Eq_getI dX12_know_15 fl_X12_261 (ws_50 hW) rfl (by first | assumption | rfl) ?_
      refine Eq_bp (v := nI 20) dX12_know_18 rfl ?_
      refine Ef_ic_ne dX12_know_20 (tgt := 25) rfl (by rw [show kn = 20 by omega]) ?_
      refine Eq_ic (v := -1) dX12_know_23 rfl ?_
      refine Eq_ir dX12_know_24 rfl ?_
      exact ⟨rfl, rfl⟩
set_option maxHeartbeats 2000000 in
theorem c_forgetKnown {h : am_H} (hW : Wd h)  : am_C 0 m_X10_forgetKnown [.ref 16] h (none, am_wI h 16 3 (nI 0)) := by
  refine q_aln dX10_forgetKnown_0 rfl ?_
  refine q_ic (v := nI 0) dX10_forgetKnown_1 rfl ?_
  refine am_x_putI dX10_forgetKnown_2 (fw_X10_26 rfl) (ws_16 hW) (Or.inl rfl) ?_
  refine q_vr dX10_forgetKnown_5 rfl ?_
  rfl
theorem alp_n {n : Nat} {g : Bool} {F : Nat → Nat → Nat} {S T : Nat → Nat} {m : Nat} (h : mth n g F S T m = none) : alp n g F S T m = !(g && decide (F 3 m ≠ 1)) := by simp [alp, h]
theorem alp_s {n : Nat} {g : Bool} {F : Nat → Nat → Nat} {S T : Nat → Nat} {m q : Nat} (h : mth n g F S T m = some q) : alp n g F S T m = decide (¬ swl F q m) := by simp [alp, h]
theorem alB_s {p : Nat → Bool} {k : Nat} : alB p (k + 1) = (alB p k && p k) := rfl
set_option maxHeartbeats 2000000 in
theorem c_isAllHeard_lp {h : am_H} {n : Nat} {g : Bool} {F : Nat → Nat → Nat} (hW : Wd h) (hM : MB h n g F) {S T : Nat → Nat} (hS : SB 30 31 32 h n S T)  : ∀ k j (x2 : Option Value), j + k = n → alB (alp n g F S T) j = true → am_Sem 2 m_X8_isAllHeard 2 [some (.ref 33), some (.int (nI j)), x2] [] h (some (.int (nI (if alh n g F S T = true then 1 else 0))), h) := by
  obtain ⟨hn, hg, h7, hF, hB⟩ := id hM
  intro k
  induction k with
  | zero =>
    intro j x2 hj ha
    have hjn : j = n := by omega
    subst hjn
    rw [if_pos (show alh j g F S T = true from ha)]
    refine q_iln dX8_isAllHeard_2 rfl ?_
    refine q_aln dX8_isAllHeard_3 rfl ?_
    refine q_getR dX8_isAllHeard_4 fl_X8_9 (ws_33 hW) rfl (wp_33_0 hW) ?_
    refine q_getI dX8_isAllHeard_7 fl_X8_35 (ws_9 hW) rfl (by first | assumption | rfl) ?_
    refine t_ic_ge 68 dX8_isAllHeard_10 rfl (by exact nI_le (by omega) (by omega)) ?_
    refine q_ic (v := nI 1) dX8_isAllHeard_68 rfl ?_
    first | refine q_zrn dX8_isAllHeard_69 rfl (by first | omega | exact b2_le) ?_ | refine q_zr dX8_isAllHeard_69 rfl (by first | exact Or.inl rfl | exact Or.inr rfl | assumption) ?_
    rfl
  | succ k ih =>
    intro j x2 hj ha
    have hno : alp n g F S T j = false → ¬ alh n g F S T = true := fun z y => by
      have := alB_iff.mp y j (by omega)
      rw [z] at this
      cases this
    have hgo : alp n g F S T j = true → alB (alp n g F S T) (j + 1) = true := fun z => by rw [alB_s, ha, z]; rfl
    cases hq : mth n g F S T j with
    | none =>
      by_cases hg1 : g = true
      · by_cases hl : F 3 j ≠ 1
        · rw [if_neg (hno (by rw [alp_n hq, hg1]; simp [hl]))]
          refine q_iln dX8_isAllHeard_2 rfl ?_
          refine q_aln dX8_isAllHeard_3 rfl ?_
          refine q_getR dX8_isAllHeard_4 fl_X8_9 (ws_33 hW) rfl (wp_33_0 hW) ?_
          refine q_getI dX8_isAllHeard_7 fl_X8_35 (ws_9 hW) rfl (by first | assumption | rfl) ?_
          refine f_ic_ge dX8_isAllHeard_10 (tgt := 68) rfl (by exact nI_ge (by omega) (by omega)) ?_
          refine q_aln dX8_isAllHeard_13 rfl ?_
          refine q_iln dX8_isAllHeard_14 rfl ?_
          refine q_V1 (N := m_X8_mouthOf) dX8_isAllHeard_15 lk_X8_50 mV_X8_mouthOf ((by have z := c_mouthOf33 hW hM hS (m := j) (by omega); rw [hq] at z; exact z)) (by decide) (ws_33 hW) rfl (by decide) (Nat.le_of_ble_eq_true rfl) (Nat.le_of_ble_eq_true rfl) ?_
          refine q_isn dX8_isAllHeard_18 (by decide) ?_
          refine am_nl (pc' := 19) (l' := [_, _, _]) rfl rfl ?_
          refine q_iln dX8_isAllHeard_19 rfl ?_
          refine q_ic (v := -1) dX8_isAllHeard_20 rfl ?_
          refine f_ic_ne dX8_isAllHeard_21 (tgt := 48) rfl (by rfl) ?_
          refine q_aln dX8_isAllHeard_24 rfl ?_
          refine q_getR dX8_isAllHeard_25 fl_X8_9 (ws_33 hW) rfl (wp_33_0 hW) ?_
          refine q_getI dX8_isAllHeard_28 fl_X8_39 (ws_9 hW) rfl (by first | assumption | rfl) ?_
          refine f_if_eq dX8_isAllHeard_31 (tgt := 62) rfl (by rw [if_pos hg1]; exact zf1) ?_
          refine q_aln dX8_isAllHeard_34 rfl ?_
          refine q_getR dX8_isAllHeard_35 fl_X8_9 (ws_33 hW) rfl (wp_33_0 hW) ?_
          refine q_iln dX8_isAllHeard_38 rfl ?_
          refine q_V1 (N := m_X5_lives) dX8_isAllHeard_39 lk_X8_23 mV_X5_lives (c_lives hW hM (by omega)) (by decide) (ws_9 hW) rfl (by decide) (Nat.le_of_ble_eq_true rfl) (Nat.le_of_ble_eq_true rfl) ?_
          refine f_if_eq dX8_isAllHeard_42 (tgt := 62) rfl (by rw [if_pos hl]; exact zf1) ?_
          refine am_x_goto (tgt := 60) dX8_isAllHeard_45 rfl ?_
          refine q_ic (v := nI 0) dX8_isAllHeard_60 rfl ?_
          first | refine q_zrn dX8_isAllHeard_61 rfl (by first | omega | exact b2_le) ?_ | refine q_zr dX8_isAllHeard_61 rfl (by first | exact Or.inl rfl | exact Or.inr rfl | assumption) ?_
          rfl
        · refine q_iln dX8_isAllHeard_2 rfl ?_
          refine q_aln dX8_isAllHeard_3 rfl ?_
          refine q_getR dX8_isAllHeard_4 fl_X8_9 (ws_33 hW) rfl (wp_33_0 hW) ?_
          refine q_getI dX8_isAllHeard_7 fl_X8_35 (ws_9 hW) rfl (by first | assumption | rfl) ?_
          refine f_ic_ge dX8_isAllHeard_10 (tgt := 68) rfl (by exact nI_ge (by omega) (by omega)) ?_
          refine q_aln dX8_isAllHeard_13 rfl ?_
          refine q_iln dX8_isAllHeard_14 rfl ?_
          refine q_V1 (N := m_X8_mouthOf) dX8_isAllHeard_15 lk_X8_50 mV_X8_mouthOf ((by have z := c_mouthOf33 hW hM hS (m := j) (by omega); rw [hq] at z; exact z)) (by decide) (ws_33 hW) rfl (by decide) (Nat.le_of_ble_eq_true rfl) (Nat.le_of_ble_eq_true rfl) ?_
          refine q_isn dX8_isAllHeard_18 (by decide) ?_
          refine am_nl (pc' := 19) (l' := [_, _, _]) rfl rfl ?_
          refine q_iln dX8_isAllHeard_19 rfl ?_
          refine q_ic (v := -1) dX8_isAllHeard_20 rfl ?_
          refine f_ic_ne dX8_isAllHeard_21 (tgt := 48) rfl (by rfl) ?_
          refine q_aln dX8_isAllHeard_24 rfl ?_
          refine q_getR dX8_isAllHeard_25 fl_X8_9 (ws_33 hW) rfl (wp_33_0 hW) ?_
          refine q_getI dX8_isAllHeard_28 fl_X8_39 (ws_9 hW) rfl (by first | assumption | rfl) ?_
          refine f_if_eq dX8_isAllHeard_31 (tgt := 62) rfl (by rw [if_pos hg1]; exact zf1) ?_
          refine q_aln dX8_isAllHeard_34 rfl ?_
          refine q_getR dX8_isAllHeard_35 fl_X8_9 (ws_33 hW) rfl (wp_33_0 hW) ?_
          refine q_iln dX8_isAllHeard_38 rfl ?_
          refine q_V1 (N := m_X5_lives) dX8_isAllHeard_39 lk_X8_23 mV_X5_lives (c_lives hW hM (by omega)) (by decide) (ws_9 hW) rfl (by decide) (Nat.le_of_ble_eq_true rfl) (Nat.le_of_ble_eq_true rfl) ?_
          refine t_if_eq 62 dX8_isAllHeard_42 rfl (by rw [if_neg hl]; rfl) ?_
          refine q_inc dX8_isAllHeard_62 rfl (by decide) ?_
          refine am_nl (pc' := 65) (l' := [_, _, _]) rfl rfl ?_
          refine am_x_goto (tgt := 2) dX8_isAllHeard_65 rfl ?_
          exact ih (j + 1) _ (by omega) (hgo (by rw [alp_n hq]; simp at hl; simp [hl]))
      · refine q_iln dX8_isAllHeard_2 rfl ?_
        refine q_aln dX8_isAllHeard_3 rfl ?_
        refine q_getR dX8_isAllHeard_4 fl_X8_9 (ws_33 hW) rfl (wp_33_0 hW) ?_
        refine q_getI dX8_isAllHeard_7 fl_X8_35 (ws_9 hW) rfl (by first | assumption | rfl) ?_
        refine f_ic_ge dX8_isAllHeard_10 (tgt := 68) rfl (by exact nI_ge (by omega) (by omega)) ?_
        refine q_aln dX8_isAllHeard_13 rfl ?_
        refine q_iln dX8_isAllHeard_14 rfl ?_
        refine q_V1 (N := m_X8_mouthOf) dX8_isAllHeard_15 lk_X8_50 mV_X8_mouthOf ((by have z := c_mouthOf33 hW hM hS (m := j) (by omega); rw [hq] at z; exact z)) (by decide) (ws_33 hW) rfl (by decide) (Nat.le_of_ble_eq_true rfl) (Nat.le_of_ble_eq_true rfl) ?_
        refine q_isn dX8_isAllHeard_18 (by decide) ?_
        refine am_nl (pc' := 19) (l' := [_, _, _]) rfl rfl ?_
        refine q_iln dX8_isAllHeard_19 rfl ?_
        refine q_ic (v := -1) dX8_isAllHeard_20 rfl ?_
        refine f_ic_ne dX8_isAllHeard_21 (tgt := 48) rfl (by rfl) ?_
        refine q_aln dX8_isAllHeard_24 rfl ?_
        refine q_getR dX8_isAllHeard_25 fl_X8_9 (ws_33 hW) rfl (wp_33_0 hW) ?_
        refine q_getI dX8_isAllHeard_28 fl_X8_39 (ws_9 hW) rfl (by first | assumption | rfl) ?_
        refine t_if_eq 62 dX8_isAllHeard_31 rfl (by rw [if_neg hg1]; rfl) ?_
        refine q_inc dX8_isAllHeard_62 rfl (by decide) ?_
        refine am_nl (pc' := 65) (l' := [_, _, _]) rfl rfl ?_
        refine am_x_goto (tgt := 2) dX8_isAllHeard_65 rfl ?_
        exact ih (j + 1) _ (by omega) (hgo (by rw [alp_n hq]; simp at hg1; simp [hg1]))
    | some q =>
      have hqn := mth_lt hS.S hS.T (by omega) hq
      by_cases hsw : swl F q j
      · rw [if_neg (hno (by rw [alp_s hq]; simp [hsw]))]
        refine q_iln dX8_isAllHeard_2 rfl ?_
        refine q_aln dX8_isAllHeard_3 rfl ?_
        refine q_getR dX8_isAllHeard_4 fl_X8_9 (ws_33 hW) rfl (wp_33_0 hW) ?_
        refine q_getI dX8_isAllHeard_7 fl_X8_35 (ws_9 hW) rfl (by first | assumption | rfl) ?_
        refine f_ic_ge dX8_isAllHeard_10 (tgt := 68) rfl (by exact nI_ge (by omega) (by omega)) ?_
        refine q_aln dX8_isAllHeard_13 rfl ?_
        refine q_iln dX8_isAllHeard_14 rfl ?_
        refine q_V1 (N := m_X8_mouthOf) dX8_isAllHeard_15 lk_X8_50 mV_X8_mouthOf ((by have z := c_mouthOf33 hW hM hS (m := j) (by omega); rw [hq] at z; exact z)) (by decide) (ws_33 hW) rfl (by decide) (Nat.le_of_ble_eq_true rfl) (Nat.le_of_ble_eq_true rfl) ?_
        refine q_isn dX8_isAllHeard_18 (by decide) ?_
        refine am_nl (pc' := 19) (l' := [_, _, _]) rfl rfl ?_
        refine q_iln dX8_isAllHeard_19 rfl ?_
        refine q_ic (v := -1) dX8_isAllHeard_20 rfl ?_
        refine t_ic_ne 48 dX8_isAllHeard_21 rfl (by exact nI_m1 (by omega)) ?_
        refine q_aln dX8_isAllHeard_48 rfl ?_
        refine q_getR dX8_isAllHeard_49 fl_X8_9 (ws_33 hW) rfl (wp_33_0 hW) ?_
        refine q_iln dX8_isAllHeard_52 rfl ?_
        refine q_iln dX8_isAllHeard_53 rfl ?_
        refine q_V2 (N := m_X5_swallows) dX8_isAllHeard_54 lk_X8_53 mV_X5_swallows (c_swallows hW hM hqn (by omega)) (by decide) (ws_9 hW) rfl (by decide) (Nat.le_of_ble_eq_true rfl) (Nat.le_of_ble_eq_true rfl) ?_
        refine f_if_eq dX8_isAllHeard_57 (tgt := 62) rfl (by rw [if_pos hsw]; exact zf1) ?_
        refine q_ic (v := nI 0) dX8_isAllHeard_60 rfl ?_
        first | refine q_zrn dX8_isAllHeard_61 rfl (by first | omega | exact b2_le) ?_ | refine q_zr dX8_isAllHeard_61 rfl (by first | exact Or.inl rfl | exact Or.inr rfl | assumption) ?_
        rfl
      · refine q_iln dX8_isAllHeard_2 rfl ?_
        refine q_aln dX8_isAllHeard_3 rfl ?_
        refine q_getR dX8_isAllHeard_4 fl_X8_9 (ws_33 hW) rfl (wp_33_0 hW) ?_
        refine q_getI dX8_isAllHeard_7 fl_X8_35 (ws_9 hW) rfl (by first | assumption | rfl) ?_
        refine f_ic_ge dX8_isAllHeard_10 (tgt := 68) rfl (by exact nI_ge (by omega) (by omega)) ?_
        refine q_aln dX8_isAllHeard_13 rfl ?_
        refine q_iln dX8_isAllHeard_14 rfl ?_
        refine q_V1 (N := m_X8_mouthOf) dX8_isAllHeard_15 lk_X8_50 mV_X8_mouthOf ((by have z := c_mouthOf33 hW hM hS (m := j) (by omega); rw [hq] at z; exact z)) (by decide) (ws_33 hW) rfl (by decide) (Nat.le_of_ble_eq_true rfl) (Nat.le_of_ble_eq_true rfl) ?_
        refine q_isn dX8_isAllHeard_18 (by decide) ?_
        refine am_nl (pc' := 19) (l' := [_, _, _]) rfl rfl ?_
        refine q_iln dX8_isAllHeard_19 rfl ?_
        refine q_ic (v := -1) dX8_isAllHeard_20 rfl ?_
        refine t_ic_ne 48 dX8_isAllHeard_21 rfl (by exact nI_m1 (by omega)) ?_
        refine q_aln dX8_isAllHeard_48 rfl ?_
        refine q_getR dX8_isAllHeard_49 fl_X8_9 (ws_33 hW) rfl (wp_33_0 hW) ?_
        refine q_iln dX8_isAllHeard_52 rfl ?_
        refine q_iln dX8_isAllHeard_53 rfl ?_
        refine q_V2 (N := m_X5_swallows) dX8_isAllHeard_54 lk_X8_53 mV_X5_swallows (c_swallows hW hM hqn (by omega)) (by decide) (ws_9 hW) rfl (by decide) (Nat.le_of_ble_eq_true rfl) (Nat.le_of_ble_eq_true rfl) ?_
        refine t_if_eq 62 dX8_isAllHeard_57 rfl (by rw [if_neg hsw]; rfl) ?_
        refine q_inc dX8_isAllHeard_62 rfl (by decide) ?_
        refine am_nl (pc' := 65) (l' := [_, _, _]) rfl rfl ?_
        refine am_x_goto (tgt := 2) dX8_isAllHeard_65 rfl ?_
        exact ih (j + 1) _ (by omega) (hgo (by rw [alp_s hq]; simp [hsw]))
set_option maxHeartbeats 2000000 in
theorem c_isAllHeard {h : am_H} {n : Nat} {g : Bool} {F : Nat → Nat → Nat} (hW : Wd h) (hM : MB h n g F) {S T : Nat → Nat} (hS : SB 30 31 32 h n S T)  : am_C 2 m_X8_isAllHeard [.ref 33] h (some (.int (nI (if alh n g F S T = true then 1 else 0))), h) := by
  refine q_ic (v := nI 0) dX8_isAllHeard_0 rfl ?_
  refine q_isn dX8_isAllHeard_1 (by decide) ?_
  refine am_nl (pc' := 2) (l' := [_, _, _]) rfl rfl ?_
  exact c_isAllHeard_lp hW hM hS n 0 _ (by omega) rfl
/-- nobody below k has a mouth that swallows -/
def nsw (n : Nat) (g : Bool) (F : Nat → Nat → Nat) (S T : Nat → Nat) (m : Nat) : Bool := match mth n g F S T m with
  | none => true
  | some q => decide (¬ swl F q m)
theorem nsw_n {n : Nat} {g : Bool} {F : Nat → Nat → Nat} {S T : Nat → Nat} {m : Nat} (h : mth n g F S T m = none) : nsw n g F S T m = true := by simp [nsw, h]
theorem nsw_s {n : Nat} {g : Bool} {F : Nat → Nat → Nat} {S T : Nat → Nat} {m q : Nat} (h : mth n g F S T m = some q) : nsw n g F S T m = decide (¬ swl F q m) := by simp [nsw, h]
theorem ct_0 {p : Nat → Bool} : ∀ {k : Nat}, ct p k = 0 → ∀ i, i < k → p i = false
  | 0, _, i, hi => by omega
  | k + 1, h, i, hi => by
    simp only [ct] at h
    by_cases hp : p k = true
    · rw [if_pos hp] at h; omega
    · rw [if_neg hp] at h
      by_cases e : i = k
      · subst e; exact Bool.eq_false_iff.mpr hp
      · exact ct_0 (k := k) (by omega) i (by omega)
theorem ct_1 {p : Nat → Bool} {k : Nat} (h : ct p k ≠ 0) : ∃ i, i < k ∧ p i = true := by
  induction k with
  | zero => exact absurd rfl h
  | succ k ih =>
    by_cases hp : p k = true
    · exact ⟨k, by omega, hp⟩
    · rw [ct_f hp] at h
      obtain ⟨i, hi, hh⟩ := ih h
      exact ⟨i, by omega, hh⟩
theorem alh_iff {n : Nat} {g : Bool} {F : Nat → Nat → Nat} {S T : Nat → Nat} (hn : alB (nsw n g F S T) n = true) : alh n g F S T = true ↔ (ct (fun m => decide (F 3 m ≠ 1) && (mth n g F S T m).isNone) n = 0 ∨ ¬ g = true) := by
  constructor
  · intro h
    by_cases hg : g = true
    · left
      by_cases hz : ct (fun m => decide (F 3 m ≠ 1) && (mth n g F S T m).isNone) n = 0
      · exact hz
      · obtain ⟨i, hi, hh⟩ := ct_1 hz
        have ha := alB_iff.mp h i hi
        cases hq : mth n g F S T i with
        | none => rw [alp_n hq, hg] at ha; simp at ha hh; exact absurd ha hh.1
        | some q => rw [hq] at hh; simp at hh
    · exact Or.inr hg
  · intro h
    refine alB_iff.mpr (fun i hi => ?_)
    cases hq : mth n g F S T i with
    | none =>
      rw [alp_n hq]
      rcases h with h | h
      · have := ct_0 h i hi
        simp [hq] at this
        simp [this]
      · simp at h; simp [h]
    | some q =>
      have := alB_iff.mp hn i hi
      rw [nsw_s hq] at this
      rw [alp_s hq]
      exact this
set_option maxHeartbeats 2000000 in
theorem r_isAllHeard_lp {h : am_H} {n : Nat} {g : Bool} {F : Nat → Nat → Nat} {S T : Nat → Nat} (hW : Wd h) (hR : RB h n g F S T)  : ∀ k j, j + k = n → alB (nsw n g F S T) j = true → am_Sem 3 m_X12_isAllHeard 4 [some (.ref 50), some (.int (nI (ct (fun m => decide (F 3 m ≠ 1) && (mth n g F S T m).isNone) j))), some (.int (nI j))] [] h (some (.int (nI (if alh n g F S T = true then 1 else 0))), h) := by
  obtain ⟨hn, hg, h7, hF, hB, hS, hT⟩ := id hR
  intro k
  induction k with
  | zero =>
    intro j hj ha
    have hjn : j = n := by omega
    subst hjn
    have hi := alh_iff ha
    have hcl : ct (fun m => decide (F 3 m ≠ 1) && (mth j g F S T m).isNone) j ≤ j := ct_le _ j
    by_cases hz : ct (fun m => decide (F 3 m ≠ 1) && (mth j g F S T m).isNone) j = 0
    · rw [if_pos (hi.mpr (Or.inl hz)), hz]
      refine q_iln dX12_isAllHeard_4 rfl ?_
      refine q_aln dX12_isAllHeard_5 rfl ?_
      refine q_getI dX12_isAllHeard_6 fl_X12_252 (ws_50 hW) rfl (by first | assumption | rfl) ?_
      refine t_ic_ge 50 dX12_isAllHeard_9 rfl (by exact nI_le (by omega) (by omega)) ?_
      refine q_iln dX12_isAllHeard_50 rfl ?_
      refine t_if_eq 61 dX12_isAllHeard_51 rfl (by rfl) ?_
      refine q_ic (v := nI 1) dX12_isAllHeard_61 rfl ?_
      refine am_x_goto (tgt := 66) dX12_isAllHeard_62 rfl ?_
      first | refine q_zrn dX12_isAllHeard_66 rfl (by first | omega | exact b2_le) ?_ | refine q_zr dX12_isAllHeard_66 rfl (by first | exact Or.inl rfl | exact Or.inr rfl | assumption) ?_
      rfl
    · by_cases hg1 : g = true
      · rw [if_neg (fun z => (hi.mp z).elim hz (fun y => y hg1))]
        refine q_iln dX12_isAllHeard_4 rfl ?_
        refine q_aln dX12_isAllHeard_5 rfl ?_
        refine q_getI dX12_isAllHeard_6 fl_X12_252 (ws_50 hW) rfl (by first | assumption | rfl) ?_
        refine t_ic_ge 50 dX12_isAllHeard_9 rfl (by exact nI_le (by omega) (by omega)) ?_
        refine q_iln dX12_isAllHeard_50 rfl ?_
        refine f_if_eq dX12_isAllHeard_51 (tgt := 61) rfl (by exact nI_ne0 (by omega) (by omega)) ?_
        refine q_aln dX12_isAllHeard_54 rfl ?_
        refine q_getI dX12_isAllHeard_55 fl_X12_255 (ws_50 hW) rfl (by first | assumption | rfl) ?_
        refine t_if_ne 65 dX12_isAllHeard_58 rfl (by rw [if_pos hg1]; exact zf1) ?_
        refine q_ic (v := nI 0) dX12_isAllHeard_65 rfl ?_
        first | refine q_zrn dX12_isAllHeard_66 rfl (by first | omega | exact b2_le) ?_ | refine q_zr dX12_isAllHeard_66 rfl (by first | exact Or.inl rfl | exact Or.inr rfl | assumption) ?_
        rfl
      · rw [if_pos (hi.mpr (Or.inr hg1))]
        refine q_iln dX12_isAllHeard_4 rfl ?_
        refine q_aln dX12_isAllHeard_5 rfl ?_
        refine q_getI dX12_isAllHeard_6 fl_X12_252 (ws_50 hW) rfl (by first | assumption | rfl) ?_
        refine t_ic_ge 50 dX12_isAllHeard_9 rfl (by exact nI_le (by omega) (by omega)) ?_
        refine q_iln dX12_isAllHeard_50 rfl ?_
        refine f_if_eq dX12_isAllHeard_51 (tgt := 61) rfl (by exact nI_ne0 (by omega) (by omega)) ?_
        refine q_aln dX12_isAllHeard_54 rfl ?_
        refine q_getI dX12_isAllHeard_55 fl_X12_255 (ws_50 hW) rfl (by first | assumption | rfl) ?_
        refine f_if_ne dX12_isAllHeard_58 (tgt := 65) rfl (by rw [if_neg hg1]; rfl) ?_
        refine q_ic (v := nI 1) dX12_isAllHeard_61 rfl ?_
        refine am_x_goto (tgt := 66) dX12_isAllHeard_62 rfl ?_
        first | refine q_zrn dX12_isAllHeard_66 rfl (by first | omega | exact b2_le) ?_ | refine q_zr dX12_isAllHeard_66 rfl (by first | exact Or.inl rfl | exact Or.inr rfl | assumption) ?_
        rfl
  | succ k ih =>
    intro j hj ha
    have hb := hB j (by omega)
    have z := ih (j + 1) (by omega)
    have hgo : nsw n g F S T j = true → alB (nsw n g F S T) (j + 1) = true := fun z => by rw [alB_s, ha, z]; rfl
    by_cases hd : F 3 j = 1
    · have hq : mth n g F S T j = none := mth_n (by omega)
      rw [ct_f (by simp [hd])] at z
      refine q_iln dX12_isAllHeard_4 rfl ?_
      refine q_aln dX12_isAllHeard_5 rfl ?_
      refine q_getI dX12_isAllHeard_6 fl_X12_252 (ws_50 hW) rfl (by first | assumption | rfl) ?_
      refine f_ic_ge dX12_isAllHeard_9 (tgt := 50) rfl (by exact nI_ge (by omega) (by omega)) ?_
      refine q_aln dX12_isAllHeard_12 rfl ?_
      refine q_iln dX12_isAllHeard_13 rfl ?_
      refine q_ic (v := nI 3) dX12_isAllHeard_14 rfl ?_
      refine q_V2 (N := m_X12_of) dX12_isAllHeard_15 lk_X12_258 mV_X12_of (r_of hW hR (by omega) (by omega)) (by decide) (ws_50 hW) rfl (by decide) (Nat.le_of_ble_eq_true rfl) (Nat.le_of_ble_eq_true rfl) ?_
      refine q_ic (v := nI 1) dX12_isAllHeard_18 rfl ?_
      refine t_ic_eq 44 dX12_isAllHeard_19 rfl (by rw [hd]) ?_
      refine q_inc dX12_isAllHeard_44 rfl (by decide) ?_
      refine am_nl (pc' := 47) (l' := [_, _, _]) rfl rfl ?_
      refine am_x_goto (tgt := 4) dX12_isAllHeard_47 rfl ?_
      exact z (hgo (nsw_n hq))
    · cases hq : mth n g F S T j with
      | none =>
        rw [ct_t (by simp [hd, hq])] at z
        refine q_iln dX12_isAllHeard_4 rfl ?_
        refine q_aln dX12_isAllHeard_5 rfl ?_
        refine q_getI dX12_isAllHeard_6 fl_X12_252 (ws_50 hW) rfl (by first | assumption | rfl) ?_
        refine f_ic_ge dX12_isAllHeard_9 (tgt := 50) rfl (by exact nI_ge (by omega) (by omega)) ?_
        refine q_aln dX12_isAllHeard_12 rfl ?_
        refine q_iln dX12_isAllHeard_13 rfl ?_
        refine q_ic (v := nI 3) dX12_isAllHeard_14 rfl ?_
        refine q_V2 (N := m_X12_of) dX12_isAllHeard_15 lk_X12_258 mV_X12_of (r_of hW hR (by omega) (by omega)) (by decide) (ws_50 hW) rfl (by decide) (Nat.le_of_ble_eq_true rfl) (Nat.le_of_ble_eq_true rfl) ?_
        refine q_ic (v := nI 1) dX12_isAllHeard_18 rfl ?_
        refine f_ic_eq dX12_isAllHeard_19 (tgt := 44) rfl (by exact fun z => hd ((nI_eq (by omega) (by omega)).mp z)) ?_
        refine q_aln dX12_isAllHeard_22 rfl ?_
        refine q_iln dX12_isAllHeard_23 rfl ?_
        refine q_V1 (N := m_X12_isHeard) dX12_isAllHeard_24 lk_X12_291 mV_X12_isHeard (r_isHeard hW hR (by omega)) (by decide) (ws_50 hW) rfl (by decide) (Nat.le_of_ble_eq_true rfl) (Nat.le_of_ble_eq_true rfl) ?_
        refine f_if_ne dX12_isAllHeard_27 (tgt := 44) rfl (by rw [hrd_n hq]; rfl) ?_
        refine q_aln dX12_isAllHeard_30 rfl ?_
        refine q_iln dX12_isAllHeard_31 rfl ?_
        refine q_V1 (N := m_X12_mouthOf) dX12_isAllHeard_32 lk_X12_282 mV_X12_mouthOf ((by have z := r_mouthOf hW hR (m := j) (by omega); rw [hq] at z; exact z)) (by decide) (ws_50 hW) rfl (by decide) (Nat.le_of_ble_eq_true rfl) (Nat.le_of_ble_eq_true rfl) ?_
        refine q_ic (v := -1) dX12_isAllHeard_35 rfl ?_
        refine t_ic_eq 41 dX12_isAllHeard_36 rfl (by rfl) ?_
        refine q_inc dX12_isAllHeard_41 rfl (by decide) ?_
        refine am_nl (pc' := 44) (l' := [_, _, _]) rfl rfl ?_
        refine q_inc dX12_isAllHeard_44 rfl (by decide) ?_
        refine am_nl (pc' := 47) (l' := [_, _, _]) rfl rfl ?_
        refine am_x_goto (tgt := 4) dX12_isAllHeard_47 rfl ?_
        exact z (hgo (nsw_n hq))
      | some q =>
        have hqn := mth_lt hR.S hR.T (by omega) hq
        rw [ct_f (by simp [hq])] at z
        by_cases hsw : swl F q j
        · rw [if_neg (fun y => by have := alB_iff.mp y j (by omega); rw [alp_s hq] at this; simp [hsw] at this)]
          refine q_iln dX12_isAllHeard_4 rfl ?_
          refine q_aln dX12_isAllHeard_5 rfl ?_
          refine q_getI dX12_isAllHeard_6 fl_X12_252 (ws_50 hW) rfl (by first | assumption | rfl) ?_
          refine f_ic_ge dX12_isAllHeard_9 (tgt := 50) rfl (by exact nI_ge (by omega) (by omega)) ?_
          refine q_aln dX12_isAllHeard_12 rfl ?_
          refine q_iln dX12_isAllHeard_13 rfl ?_
          refine q_ic (v := nI 3) dX12_isAllHeard_14 rfl ?_
          refine q_V2 (N := m_X12_of) dX12_isAllHeard_15 lk_X12_258 mV_X12_of (r_of hW hR (by omega) (by omega)) (by decide) (ws_50 hW) rfl (by decide) (Nat.le_of_ble_eq_true rfl) (Nat.le_of_ble_eq_true rfl) ?_
          refine q_ic (v := nI 1) dX12_isAllHeard_18 rfl ?_
          refine f_ic_eq dX12_isAllHeard_19 (tgt := 44) rfl (by exact fun z => hd ((nI_eq (by omega) (by omega)).mp z)) ?_
          refine q_aln dX12_isAllHeard_22 rfl ?_
          refine q_iln dX12_isAllHeard_23 rfl ?_
          refine q_V1 (N := m_X12_isHeard) dX12_isAllHeard_24 lk_X12_291 mV_X12_isHeard (r_isHeard hW hR (by omega)) (by decide) (ws_50 hW) rfl (by decide) (Nat.le_of_ble_eq_true rfl) (Nat.le_of_ble_eq_true rfl) ?_
          refine f_if_ne dX12_isAllHeard_27 (tgt := 44) rfl (by rw [hrd_s hq]; simp [hsw]; rfl) ?_
          refine q_aln dX12_isAllHeard_30 rfl ?_
          refine q_iln dX12_isAllHeard_31 rfl ?_
          refine q_V1 (N := m_X12_mouthOf) dX12_isAllHeard_32 lk_X12_282 mV_X12_mouthOf ((by have z := r_mouthOf hW hR (m := j) (by omega); rw [hq] at z; exact z)) (by decide) (ws_50 hW) rfl (by decide) (Nat.le_of_ble_eq_true rfl) (Nat.le_of_ble_eq_true rfl) ?_
          refine q_ic (v := -1) dX12_isAllHeard_35 rfl ?_
          refine f_ic_eq dX12_isAllHeard_36 (tgt := 41) rfl (by exact nI_m1 (by omega)) ?_
          refine q_ic (v := nI 0) dX12_isAllHeard_39 rfl ?_
          first | refine q_zrn dX12_isAllHeard_40 rfl (by first | omega | exact b2_le) ?_ | refine q_zr dX12_isAllHeard_40 rfl (by first | exact Or.inl rfl | exact Or.inr rfl | assumption) ?_
          rfl
        · refine q_iln dX12_isAllHeard_4 rfl ?_
          refine q_aln dX12_isAllHeard_5 rfl ?_
          refine q_getI dX12_isAllHeard_6 fl_X12_252 (ws_50 hW) rfl (by first | assumption | rfl) ?_
          refine f_ic_ge dX12_isAllHeard_9 (tgt := 50) rfl (by exact nI_ge (by omega) (by omega)) ?_
          refine q_aln dX12_isAllHeard_12 rfl ?_
          refine q_iln dX12_isAllHeard_13 rfl ?_
          refine q_ic (v := nI 3) dX12_isAllHeard_14 rfl ?_
          refine q_V2 (N := m_X12_of) dX12_isAllHeard_15 lk_X12_258 mV_X12_of (r_of hW hR (by omega) (by omega)) (by decide) (ws_50 hW) rfl (by decide) (Nat.le_of_ble_eq_true rfl) (Nat.le_of_ble_eq_true rfl) ?_
          refine q_ic (v := nI 1) dX12_isAllHeard_18 rfl ?_
          refine f_ic_eq dX12_isAllHeard_19 (tgt := 44) rfl (by exact fun z => hd ((nI_eq (by omega) (by omega)).mp z)) ?_
          refine q_aln dX12_isAllHeard_22 rfl ?_
          refine q_iln dX12_isAllHeard_23 rfl ?_
          refine q_V1 (N := m_X12_isHeard) dX12_isAllHeard_24 lk_X12_291 mV_X12_isHeard (r_isHeard hW hR (by omega)) (by decide) (ws_50 hW) rfl (by decide) (Nat.le_of_ble_eq_true rfl) (Nat.le_of_ble_eq_true rfl) ?_
          refine t_if_ne 44 dX12_isAllHeard_27 rfl (by rw [hrd_s hq]; simp [hsw]; exact zf1) ?_
          refine q_inc dX12_isAllHeard_44 rfl (by decide) ?_
          refine am_nl (pc' := 47) (l' := [_, _, _]) rfl rfl ?_
          refine am_x_goto (tgt := 4) dX12_isAllHeard_47 rfl ?_
          exact z (hgo (by rw [nsw_s hq]; simp [hsw]))
set_option maxHeartbeats 2000000 in
theorem r_isAllHeard {h : am_H} {n : Nat} {g : Bool} {F : Nat → Nat → Nat} {S T : Nat → Nat} (hW : Wd h) (hR : RB h n g F S T)  : am_C 3 m_X12_isAllHeard [.ref 50] h (some (.int (nI (if alh n g F S T = true then 1 else 0))), h) := by
  refine q_ic (v := nI 0) dX12_isAllHeard_0 rfl ?_
  refine q_isn dX12_isAllHeard_1 (by decide) ?_
  refine am_nl (pc' := 2) (l' := [_, _, _]) rfl rfl ?_
  refine q_ic (v := nI 0) dX12_isAllHeard_2 rfl ?_
  refine q_isn dX12_isAllHeard_3 (by decide) ?_
  refine am_nl (pc' := 4) (l' := [_, _, _]) rfl rfl ?_
  exact r_isAllHeard_lp hW hR n 0 (by omega) rfl
