set_option maxHeartbeats 2000000 in
theorem r_laySp2 {h : am_H} {n : Nat} {g : Bool} {F : Nat → Nat → Nat} {S T : Nat → Nat} (hW : Wd h) (hR : RB h n g F S T)  : ∀ k j hc, j + k = n → Fx [70] [] h hc → (∀ s, s < n → am_i hc 70 s = oN (spo (spp n g F S T s) j)) → am_E 3 m_X12_laySpeaks 25 [some (.ref 50), some (.int (nI j))] [] hc (fun v h2 => v = none ∧ Fx [70] [] h h2 ∧ ∀ s, s < n → am_i h2 70 s = oN (spk n g F S T s)) := by
  obtain ⟨hn, hg, h7, hF, hB, hS, hT⟩ := id hR
  intro k
  induction k with
  | zero =>
    intro j hc hj hfr hi
    have hjn : j = n := by omega
    subst hjn
    have hWc := hfr.Wd hW
    have hRc := hR.fx hfr (by decide)
    have hn := hRc.1
    refine Eq_iln dX12_laySpeaks_25 rfl ?_
    refine Eq_aln dX12_laySpeaks_26 rfl ?_
    refine Eq_getI dX12_laySpeaks_27 fl_X12_252 (ws_50 hWc) rfl (by first | assumption | rfl) ?_
    refine Et_ic_ge 62 dX12_laySpeaks_30 rfl (by exact nI_le (by omega) (by omega)) ?_
    refine Eq_vr dX12_laySpeaks_62 rfl ?_
    exact ⟨rfl, hfr, hi⟩
  | succ k ih =>
    intro j hc hj hfr hi
    have hWc := hfr.Wd hW
    have hRc := hR.fx hfr (by decide)
    have hn := hRc.1
    by_cases hh : hrd n g F S T j = true
    · obtain ⟨q, hq⟩ := hrd_m hh
      have hqn := mth_lt hR.S hR.T (by omega) hq
      have hTq := hT q hqn
      refine Eq_iln dX12_laySpeaks_25 rfl ?_
      refine Eq_aln dX12_laySpeaks_26 rfl ?_
      refine Eq_getI dX12_laySpeaks_27 fl_X12_252 (ws_50 hWc) rfl (by first | assumption | rfl) ?_
      refine Ef_ic_ge dX12_laySpeaks_30 (tgt := 62) rfl (by exact nI_ge (by omega) (by omega)) ?_
      refine Eq_aln dX12_laySpeaks_33 rfl ?_
      refine Eq_iln dX12_laySpeaks_34 rfl ?_
      refine Eq_V1 (N := m_X12_isHeard) dX12_laySpeaks_35 lk_X12_291 mV_X12_isHeard (r_isHeard hWc hRc (by omega)) (by decide) (ws_50 hWc) rfl (by decide) (Nat.le_of_ble_eq_true rfl) (Nat.le_of_ble_eq_true rfl) ?_
      refine Ef_if_eq dX12_laySpeaks_38 (tgt := 56) rfl (by rw [if_pos hh]; exact zf1) ?_
      refine Eq_aln dX12_laySpeaks_41 rfl ?_
      refine Eq_getR dX12_laySpeaks_42 fl_X12_73 (ws_50 hWc) rfl (wp_50_37 hWc) ?_
      refine Eq_aln dX12_laySpeaks_45 rfl ?_
      refine Eq_aln dX12_laySpeaks_46 rfl ?_
      refine Eq_iln dX12_laySpeaks_47 rfl ?_
      refine Eq_V1 (N := m_X12_mouthOf) dX12_laySpeaks_48 lk_X12_282 mV_X12_mouthOf ((by have z := r_mouthOf hWc hRc (m := j) (by omega); rw [hq] at z; exact z)) (by decide) (ws_50 hWc) rfl (by decide) (Nat.le_of_ble_eq_true rfl) (Nat.le_of_ble_eq_true rfl) ?_
      refine Eq_V1 (N := m_X12_seatOf) dX12_laySpeaks_51 lk_X12_276 mV_X12_seatOf (r_seatOf hWc hRc hqn) (by decide) (ws_50 hWc) rfl (by decide) (Nat.le_of_ble_eq_true rfl) (Nat.le_of_ble_eq_true rfl) ?_
      refine Eq_iln dX12_laySpeaks_54 rfl ?_
      refine Eq_ast dX12_laySpeaks_55 (ws_70 hWc) (by omega) (by omega) ?_
      refine Eq_inc dX12_laySpeaks_56 rfl (by decide) ?_
      refine Eam_nl (pc' := 59) (l' := [_, _]) rfl rfl ?_
      refine Eam_x_goto (tgt := 25) dX12_laySpeaks_59 rfl ?_
      refine ih (j + 1) _ (by omega) (hfr.tr (Fx.wI (Or.inl (by decide)))) (fun s hs => ?_)
      rw [wI_eq]
      by_cases e : s = T q
      · rw [if_pos e, spo_t (show spp n g F S T s j = true by simp [spp, hh, hq, e, hTq.2])]
        rfl
      · rw [if_neg e, spo_f (show ¬ spp n g F S T s j = true by
          simp only [spp, hh, hq, Bool.true_and, decide_eq_true_eq, Option.some.injEq]
          intro z
          exact e (by rw [z]; exact (hS s hs).2.2.symm))]
        exact hi s hs
    · refine Eq_iln dX12_laySpeaks_25 rfl ?_
      refine Eq_aln dX12_laySpeaks_26 rfl ?_
      refine Eq_getI dX12_laySpeaks_27 fl_X12_252 (ws_50 hWc) rfl (by first | assumption | rfl) ?_
      refine Ef_ic_ge dX12_laySpeaks_30 (tgt := 62) rfl (by exact nI_ge (by omega) (by omega)) ?_
      refine Eq_aln dX12_laySpeaks_33 rfl ?_
      refine Eq_iln dX12_laySpeaks_34 rfl ?_
      refine Eq_V1 (N := m_X12_isHeard) dX12_laySpeaks_35 lk_X12_291 mV_X12_isHeard (r_isHeard hWc hRc (by omega)) (by decide) (ws_50 hWc) rfl (by decide) (Nat.le_of_ble_eq_true rfl) (Nat.le_of_ble_eq_true rfl) ?_
      refine Et_if_eq 56 dX12_laySpeaks_38 rfl (by rw [if_neg hh]; rfl) ?_
      refine Eq_inc dX12_laySpeaks_56 rfl (by decide) ?_
      refine Eam_nl (pc' := 59) (l' := [_, _]) rfl rfl ?_
      refine Eam_x_goto (tgt := 25) dX12_laySpeaks_59 rfl ?_
      exact ih (j + 1) hc (by omega) hfr (fun s hs => by rw [spo_f (by simp [spp, hh])]; exact hi s hs)
set_option maxHeartbeats 2000000 in
theorem r_laySp1 {h : am_H} {n : Nat} {g : Bool} {F : Nat → Nat → Nat} {S T : Nat → Nat} (hW : Wd h) (hR : RB h n g F S T)  : ∀ k j hc, j + k = n → Fx [70] [] h hc → (∀ s, s < j → am_i hc 70 s = -1) → am_E 3 m_X12_laySpeaks 2 [some (.ref 50), some (.int (nI j))] [] hc (fun v h2 => v = none ∧ Fx [70] [] h h2 ∧ ∀ s, s < n → am_i h2 70 s = oN (spk n g F S T s)) := by
  obtain ⟨hn, hg, h7, hF, hB, hS, hT⟩ := id hR
  intro k
  induction k with
  | zero =>
    intro j hc hj hfr hi
    have hjn : j = n := by omega
    subst hjn
    have hWc := hfr.Wd hW
    have hRc := hR.fx hfr (by decide)
    have hn := hRc.1
    refine Eq_iln dX12_laySpeaks_2 rfl ?_
    refine Eq_aln dX12_laySpeaks_3 rfl ?_
    refine Eq_getI dX12_laySpeaks_4 fl_X12_252 (ws_50 hWc) rfl (by first | assumption | rfl) ?_
    refine Et_ic_ge 23 dX12_laySpeaks_7 rfl (by exact nI_le (by omega) (by omega)) ?_
    refine Eq_ic (v := nI 0) dX12_laySpeaks_23 rfl ?_
    refine Eq_isn dX12_laySpeaks_24 (by decide) ?_
    refine Eam_nl (pc' := 25) (l' := [_, _]) rfl rfl ?_
    exact r_laySp2 hW hR j 0 hc (by omega) hfr (fun s hs => hi s hs)
  | succ k ih =>
    intro j hc hj hfr hi
    have hWc := hfr.Wd hW
    have hRc := hR.fx hfr (by decide)
    have hn := hRc.1
    refine Eq_iln dX12_laySpeaks_2 rfl ?_
    refine Eq_aln dX12_laySpeaks_3 rfl ?_
    refine Eq_getI dX12_laySpeaks_4 fl_X12_252 (ws_50 hWc) rfl (by first | assumption | rfl) ?_
    refine Ef_ic_ge dX12_laySpeaks_7 (tgt := 23) rfl (by exact nI_ge (by omega) (by omega)) ?_
    refine Eq_aln dX12_laySpeaks_10 rfl ?_
    refine Eq_getR dX12_laySpeaks_11 fl_X12_73 (ws_50 hWc) rfl (wp_50_37 hWc) ?_
    refine Eq_iln dX12_laySpeaks_14 rfl ?_
    refine Eq_ic (v := -1) dX12_laySpeaks_15 rfl ?_
    refine Eq_ast dX12_laySpeaks_16 (ws_70 hWc) (by omega) (by omega) ?_
    refine Eq_inc dX12_laySpeaks_17 rfl (by decide) ?_
    refine Eam_nl (pc' := 20) (l' := [_, _]) rfl rfl ?_
    refine Eam_x_goto (tgt := 2) dX12_laySpeaks_20 rfl ?_
    (refine ih (j + 1) _ (by omega) (hfr.tr (Fx.wI (Or.inl (by decide)))) (fun s hs => ?_); rw [wI_eq]; by_cases e : s = j; rw [if_pos e]; rw [if_neg e]; exact hi s (by omega))
set_option maxHeartbeats 2000000 in
theorem r_laySpeaks {h : am_H} {n : Nat} {g : Bool} {F : Nat → Nat → Nat} {S T : Nat → Nat} (hW : Wd h) (hR : RB h n g F S T)  : am_D 3 m_X12_laySpeaks [.ref 50] h (fun v h2 => v = none ∧ Fx [70] [] h h2 ∧ ∀ s, s < n → am_i h2 70 s = oN (spk n g F S T s)) := by
  refine Eq_ic (v := nI 0) dX12_laySpeaks_0 rfl ?_
  refine Eq_isn dX12_laySpeaks_1 (by decide) ?_
  refine Eam_nl (pc' := 2) (l' := [_, _]) rfl rfl ?_
  exact r_laySp1 hW hR n 0 h (by omega) Fx.rf (fun s hs => by omega)
theorem bne {a b : Bool} (h : ¬ a = b) : ¬ nI (if a = true then 1 else 0) = nI (if b = true then 1 else 0) := by
  cases a <;> cases b <;> first | exact absurd rfl h | decide +kernel
set_option maxHeartbeats 2000000 in
theorem r_agrees_lp {h : am_H} {n : Nat} {g : Bool} {F : Nat → Nat → Nat} {S T : Nat → Nat} (hW : Wd h) (hR : RB h n g F S T) {kn : Nat} {ks : Nat → Nat} {ky : Nat → Bool} (hK : KB 50 36 68 69 h n kn ks ky) (hp : ∀ s, s < n → am_i h 70 s = oN (spk n g F S T s)) {v : Nat} (hv : v < 128) : ∀ k j (x3 : Option Value), j + k = kn → alB (agp n g F S T ks ky v) j = true → am_Sem 1 m_X12_agrees 2 [some (.ref 50), some (.int (nI v)), some (.int (nI j)), x3] [] h (some (.int (nI (if agr n g F S T kn ks ky v = true then 1 else 0))), h) := by
  obtain ⟨hn, hg, h7, hF, hB, hS, hT⟩ := id hR
  have hk20 := hK.2.1
  have hk0 := hK.1
  intro k
  induction k with
  | zero =>
    intro j x3 hj ha
    have hjn : j = kn := by omega
    subst hjn
    rw [if_pos (show agr n g F S T j ks ky v = true from ha)]
    refine q_iln dX12_agrees_2 rfl ?_
    refine q_aln dX12_agrees_3 rfl ?_
    refine q_getI dX12_agrees_4 fl_X12_261 (ws_50 hW) rfl (by first | assumption | rfl) ?_
    refine t_ic_ge 49 dX12_agrees_7 rfl (by exact nI_le (by omega) (by omega)) ?_
    refine q_ic (v := nI 1) dX12_agrees_49 rfl ?_
    first | refine q_zrn dX12_agrees_50 rfl (by first | omega | exact b2_le) ?_ | refine q_zr dX12_agrees_50 rfl (by first | exact Or.inl rfl | exact Or.inr rfl | assumption) ?_
    rfl
  | succ k ih =>
    intro j x3 hj ha
    have hkj := hK.2.2 j (by omega)
    cases hq : spk n g F S T (ks j) with
    | none =>
      rw [if_neg (by rw [agr_no (show j < kn by omega) hq]; decide)]
      refine q_iln dX12_agrees_2 rfl ?_
      refine q_aln dX12_agrees_3 rfl ?_
      refine q_getI dX12_agrees_4 fl_X12_261 (ws_50 hW) rfl (by first | assumption | rfl) ?_
      refine f_ic_ge dX12_agrees_7 (tgt := 49) rfl (by exact nI_ge (by omega) (by omega)) ?_
      refine q_aln dX12_agrees_10 rfl ?_
      refine q_getR dX12_agrees_11 fl_X12_73 (ws_50 hW) rfl (wp_50_37 hW) ?_
      refine q_aln dX12_agrees_14 rfl ?_
      refine q_getR dX12_agrees_15 fl_X12_66 (ws_50 hW) rfl (wp_50_34 hW) ?_
      refine q_iln dX12_agrees_18 rfl ?_
      refine q_ald dX12_agrees_19 (ws_68 hW) (by omega) (by omega) (by first | exact hkj.1 | exact hkj.2.2) ?_
      refine q_ald dX12_agrees_20 (ws_70 hW) (by omega) (by omega) ((hp _ hkj.2.1).trans (congrArg oN hq)) ?_
      refine q_isn dX12_agrees_21 (by decide) ?_
      refine am_nl (pc' := 22) (l' := [_, _, _, _]) rfl rfl ?_
      refine q_iln dX12_agrees_22 rfl ?_
      refine q_ic (v := -1) dX12_agrees_23 rfl ?_
      refine t_ic_eq 41 dX12_agrees_24 rfl (by rfl) ?_
      refine q_ic (v := nI 0) dX12_agrees_41 rfl ?_
      first | refine q_zrn dX12_agrees_42 rfl (by first | omega | exact b2_le) ?_ | refine q_zr dX12_agrees_42 rfl (by first | exact Or.inl rfl | exact Or.inr rfl | assumption) ?_
      rfl
    | some m =>
      have hm := spk_lt hq
      have hb := hB m hm
      by_cases he : v.testBit m = ky j
      · refine q_iln dX12_agrees_2 rfl ?_
        refine q_aln dX12_agrees_3 rfl ?_
        refine q_getI dX12_agrees_4 fl_X12_261 (ws_50 hW) rfl (by first | assumption | rfl) ?_
        refine f_ic_ge dX12_agrees_7 (tgt := 49) rfl (by exact nI_ge (by omega) (by omega)) ?_
        refine q_aln dX12_agrees_10 rfl ?_
        refine q_getR dX12_agrees_11 fl_X12_73 (ws_50 hW) rfl (wp_50_37 hW) ?_
        refine q_aln dX12_agrees_14 rfl ?_
        refine q_getR dX12_agrees_15 fl_X12_66 (ws_50 hW) rfl (wp_50_34 hW) ?_
        refine q_iln dX12_agrees_18 rfl ?_
        refine q_ald dX12_agrees_19 (ws_68 hW) (by omega) (by omega) (by first | exact hkj.1 | exact hkj.2.2) ?_
        refine q_ald dX12_agrees_20 (ws_70 hW) (by omega) (by omega) ((hp _ hkj.2.1).trans (congrArg oN hq)) ?_
        refine q_isn dX12_agrees_21 (by decide) ?_
        refine am_nl (pc' := 22) (l' := [_, _, _, _]) rfl rfl ?_
        refine q_iln dX12_agrees_22 rfl ?_
        refine q_ic (v := -1) dX12_agrees_23 rfl ?_
        refine f_ic_eq dX12_agrees_24 (tgt := 41) rfl (by exact nI_m1 (by omega)) ?_
        refine q_iln dX12_agrees_27 rfl ?_
        refine q_iln dX12_agrees_28 rfl ?_
        refine q_S2 (N := m_X12_has) dX12_agrees_29 lk_X12_228 mS_X12_has (r_has (by omega) (by omega)) (by decide) (Nat.le_of_ble_eq_true rfl) (Nat.le_of_ble_eq_true rfl) ?_
        refine q_aln dX12_agrees_32 rfl ?_
        refine q_getR dX12_agrees_33 fl_X12_69 (ws_50 hW) rfl (wp_50_35 hW) ?_
        refine q_iln dX12_agrees_36 rfl ?_
        refine q_zld dX12_agrees_37 (ws_69 hW) (by omega) (by omega) (by first | exact hkj.1 | exact hkj.2.2) ?_
        refine t_ic_eq 43 dX12_agrees_38 rfl (by rw [he]) ?_
        refine q_inc dX12_agrees_43 rfl (by decide) ?_
        refine am_nl (pc' := 46) (l' := [_, _, _, _]) rfl rfl ?_
        refine am_x_goto (tgt := 2) dX12_agrees_46 rfl ?_
        exact ih (j + 1) _ (by omega) (by rw [alB_s, ha, agp_s hq, he]; simp)
      · rw [if_neg (show ¬ agr n g F S T kn ks ky v = true from fun z => he (by have := alB_iff.mp z j (by omega); rw [agp_s hq] at this; simpa using this))]
        refine q_iln dX12_agrees_2 rfl ?_
        refine q_aln dX12_agrees_3 rfl ?_
        refine q_getI dX12_agrees_4 fl_X12_261 (ws_50 hW) rfl (by first | assumption | rfl) ?_
        refine f_ic_ge dX12_agrees_7 (tgt := 49) rfl (by exact nI_ge (by omega) (by omega)) ?_
        refine q_aln dX12_agrees_10 rfl ?_
        refine q_getR dX12_agrees_11 fl_X12_73 (ws_50 hW) rfl (wp_50_37 hW) ?_
        refine q_aln dX12_agrees_14 rfl ?_
        refine q_getR dX12_agrees_15 fl_X12_66 (ws_50 hW) rfl (wp_50_34 hW) ?_
        refine q_iln dX12_agrees_18 rfl ?_
        refine q_ald dX12_agrees_19 (ws_68 hW) (by omega) (by omega) (by first | exact hkj.1 | exact hkj.2.2) ?_
        refine q_ald dX12_agrees_20 (ws_70 hW) (by omega) (by omega) ((hp _ hkj.2.1).trans (congrArg oN hq)) ?_
        refine q_isn dX12_agrees_21 (by decide) ?_
        refine am_nl (pc' := 22) (l' := [_, _, _, _]) rfl rfl ?_
        refine q_iln dX12_agrees_22 rfl ?_
        refine q_ic (v := -1) dX12_agrees_23 rfl ?_
        refine f_ic_eq dX12_agrees_24 (tgt := 41) rfl (by exact nI_m1 (by omega)) ?_
        refine q_iln dX12_agrees_27 rfl ?_
        refine q_iln dX12_agrees_28 rfl ?_
        refine q_S2 (N := m_X12_has) dX12_agrees_29 lk_X12_228 mS_X12_has (r_has (by omega) (by omega)) (by decide) (Nat.le_of_ble_eq_true rfl) (Nat.le_of_ble_eq_true rfl) ?_
        refine q_aln dX12_agrees_32 rfl ?_
        refine q_getR dX12_agrees_33 fl_X12_69 (ws_50 hW) rfl (wp_50_35 hW) ?_
        refine q_iln dX12_agrees_36 rfl ?_
        refine q_zld dX12_agrees_37 (ws_69 hW) (by omega) (by omega) (by first | exact hkj.1 | exact hkj.2.2) ?_
        refine f_ic_eq dX12_agrees_38 (tgt := 43) rfl (by exact bne he) ?_
        refine q_ic (v := nI 0) dX12_agrees_41 rfl ?_
        first | refine q_zrn dX12_agrees_42 rfl (by first | omega | exact b2_le) ?_ | refine q_zr dX12_agrees_42 rfl (by first | exact Or.inl rfl | exact Or.inr rfl | assumption) ?_
        rfl
set_option maxHeartbeats 2000000 in
theorem r_agrees {h : am_H} {n : Nat} {g : Bool} {F : Nat → Nat → Nat} {S T : Nat → Nat} (hW : Wd h) (hR : RB h n g F S T) {kn : Nat} {ks : Nat → Nat} {ky : Nat → Bool} (hK : KB 50 36 68 69 h n kn ks ky) (hp : ∀ s, s < n → am_i h 70 s = oN (spk n g F S T s)) {v : Nat} (hv : v < 128) : am_C 1 m_X12_agrees [.ref 50, .int (nI v)] h (some (.int (nI (if agr n g F S T kn ks ky v = true then 1 else 0))), h) := by
  refine q_ic (v := nI 0) dX12_agrees_0 rfl ?_
  refine q_isn dX12_agrees_1 (by decide) ?_
  refine am_nl (pc' := 2) (l' := [_, _, _, _]) rfl rfl ?_
  exact r_agrees_lp hW hR hK hp hv kn 0 _ (by omega) rfl
set_option maxHeartbeats 2000000 in
theorem r_fits_lp {h : am_H} {n : Nat} {g : Bool} {F : Nat → Nat → Nat} {S T : Nat → Nat} (hW : Wd h) (hR : RB h n g F S T) {kn : Nat} {ks : Nat → Nat} {ky : Nat → Bool} (hK : KB 50 36 68 69 h n kn ks ky) (hp : ∀ s, s < n → am_i h 70 s = oN (spk n g F S T s)) {x : Int32} : ∀ k j, j + k = 2 ^ n → (∀ r, r < j → ¬ ftp (agr n g F S T kn ks ky) x r = true) → am_Sem 4 m_X12_fits 22 [some (.ref 50), some (.int x), some (.int (nI (ct (agr n g F S T kn ks ky) j))), some (.int (nI j))] [] h (some (.int (if x = -1 then nI (ct (agr n g F S T kn ks ky) (2 ^ n)) else oN (spo (ftp (agr n g F S T kn ks ky) x) (2 ^ n)))), h) := by
  obtain ⟨hn, hg, h7, hF, hB, hS, hT⟩ := id hR
  have p2 := p2_128 h7
  intro k
  induction k with
  | zero =>
    intro j hj hno
    have hjn : j = 2 ^ n := by omega
    subst hjn
    by_cases hm : x = -1
    · rw [if_pos hm]
      refine q_iln dX12_fits_22 rfl ?_
      refine q_ic (v := nI 1) dX12_fits_23 rfl ?_
      refine q_aln dX12_fits_24 rfl ?_
      refine q_getI dX12_fits_25 fl_X12_252 (ws_50 hW) rfl (by first | assumption | rfl) ?_
      first | refine q_shl1 dX12_fits_28 (by omega) ?_ | refine am_x_pu dX12_fits_28 rfl ?_
      refine t_ic_ge 56 dX12_fits_29 rfl (by exact nI_le (by omega) (by omega)) ?_
      refine q_iln dX12_fits_56 rfl ?_
      refine q_ic (v := -1) dX12_fits_57 rfl ?_
      refine f_ic_ne dX12_fits_58 (tgt := 65) rfl (by exact hm) ?_
      refine q_iln dX12_fits_61 rfl ?_
      refine am_x_goto (tgt := 66) dX12_fits_62 rfl ?_
      refine q_ir dX12_fits_66 rfl ?_
      rfl
    · rw [if_neg hm, spo_none hno]
      refine q_iln dX12_fits_22 rfl ?_
      refine q_ic (v := nI 1) dX12_fits_23 rfl ?_
      refine q_aln dX12_fits_24 rfl ?_
      refine q_getI dX12_fits_25 fl_X12_252 (ws_50 hW) rfl (by first | assumption | rfl) ?_
      first | refine q_shl1 dX12_fits_28 (by omega) ?_ | refine am_x_pu dX12_fits_28 rfl ?_
      refine t_ic_ge 56 dX12_fits_29 rfl (by exact nI_le (by omega) (by omega)) ?_
      refine q_iln dX12_fits_56 rfl ?_
      refine q_ic (v := -1) dX12_fits_57 rfl ?_
      refine t_ic_ne 65 dX12_fits_58 rfl (by exact hm) ?_
      refine q_ic (v := -1) dX12_fits_65 rfl ?_
      refine q_ir dX12_fits_66 rfl ?_
      rfl
  | succ k ih =>
    intro j hj hno
    have z := ih (j + 1) (by omega)
    have hcl := ct_le (agr n g F S T kn ks ky) j
    by_cases hp2 : agr n g F S T kn ks ky j = true
    · rw [ct_t hp2] at z
      by_cases he : nI (ct (agr n g F S T kn ks ky) j) = x
      · rw [if_neg (show ¬ x = -1 by rw [← he]; exact nI_m1 (by omega)), ftp_uniq (by omega) (show j < 2 ^ n by omega) (show ftp (agr n g F S T kn ks ky) x j = true by simp [ftp, hp2, he])]
        refine q_iln dX12_fits_22 rfl ?_
        refine q_ic (v := nI 1) dX12_fits_23 rfl ?_
        refine q_aln dX12_fits_24 rfl ?_
        refine q_getI dX12_fits_25 fl_X12_252 (ws_50 hW) rfl (by first | assumption | rfl) ?_
        first | refine q_shl1 dX12_fits_28 (by omega) ?_ | refine am_x_pu dX12_fits_28 rfl ?_
        refine f_ic_ge dX12_fits_29 (tgt := 56) rfl (by exact nI_ge (by omega) (by omega)) ?_
        refine q_aln dX12_fits_32 rfl ?_
        refine q_iln dX12_fits_33 rfl ?_
        refine q_V1 (N := m_X12_agrees) dX12_fits_34 lk_X12_390 mV_X12_agrees (r_agrees hW hR hK hp (by omega)) (by decide) (ws_50 hW) rfl (by decide) (Nat.le_of_ble_eq_true rfl) (Nat.le_of_ble_eq_true rfl) ?_
        refine f_if_eq dX12_fits_37 (tgt := 50) rfl (by rw [if_pos hp2]; exact zf1) ?_
        refine q_iln dX12_fits_40 rfl ?_
        refine q_iln dX12_fits_41 rfl ?_
        refine f_ic_ne dX12_fits_42 (tgt := 47) rfl (by exact he) ?_
        refine q_iln dX12_fits_45 rfl ?_
        refine q_ir dX12_fits_46 rfl ?_
        rfl
      · refine q_iln dX12_fits_22 rfl ?_
        refine q_ic (v := nI 1) dX12_fits_23 rfl ?_
        refine q_aln dX12_fits_24 rfl ?_
        refine q_getI dX12_fits_25 fl_X12_252 (ws_50 hW) rfl (by first | assumption | rfl) ?_
        first | refine q_shl1 dX12_fits_28 (by omega) ?_ | refine am_x_pu dX12_fits_28 rfl ?_
        refine f_ic_ge dX12_fits_29 (tgt := 56) rfl (by exact nI_ge (by omega) (by omega)) ?_
        refine q_aln dX12_fits_32 rfl ?_
        refine q_iln dX12_fits_33 rfl ?_
        refine q_V1 (N := m_X12_agrees) dX12_fits_34 lk_X12_390 mV_X12_agrees (r_agrees hW hR hK hp (by omega)) (by decide) (ws_50 hW) rfl (by decide) (Nat.le_of_ble_eq_true rfl) (Nat.le_of_ble_eq_true rfl) ?_
        refine f_if_eq dX12_fits_37 (tgt := 50) rfl (by rw [if_pos hp2]; exact zf1) ?_
        refine q_iln dX12_fits_40 rfl ?_
        refine q_iln dX12_fits_41 rfl ?_
        refine t_ic_ne 47 dX12_fits_42 rfl (by exact he) ?_
        refine q_inc dX12_fits_47 rfl (by decide) ?_
        refine am_nl (pc' := 50) (l' := [_, _, _, _]) rfl rfl ?_
        refine q_inc dX12_fits_50 rfl (by decide) ?_
        refine am_nl (pc' := 53) (l' := [_, _, _, _]) rfl rfl ?_
        refine am_x_goto (tgt := 22) dX12_fits_53 rfl ?_
        exact z (fun r hr => by by_cases e : r = j; (subst e; simp [ftp, he]); exact hno r (by omega))
    · rw [ct_f hp2] at z
      refine q_iln dX12_fits_22 rfl ?_
      refine q_ic (v := nI 1) dX12_fits_23 rfl ?_
      refine q_aln dX12_fits_24 rfl ?_
      refine q_getI dX12_fits_25 fl_X12_252 (ws_50 hW) rfl (by first | assumption | rfl) ?_
      first | refine q_shl1 dX12_fits_28 (by omega) ?_ | refine am_x_pu dX12_fits_28 rfl ?_
      refine f_ic_ge dX12_fits_29 (tgt := 56) rfl (by exact nI_ge (by omega) (by omega)) ?_
      refine q_aln dX12_fits_32 rfl ?_
      refine q_iln dX12_fits_33 rfl ?_
      refine q_V1 (N := m_X12_agrees) dX12_fits_34 lk_X12_390 mV_X12_agrees (r_agrees hW hR hK hp (by omega)) (by decide) (ws_50 hW) rfl (by decide) (Nat.le_of_ble_eq_true rfl) (Nat.le_of_ble_eq_true rfl) ?_
      refine t_if_eq 50 dX12_fits_37 rfl (by rw [if_neg hp2]; rfl) ?_
      refine q_inc dX12_fits_50 rfl (by decide) ?_
      refine am_nl (pc' := 53) (l' := [_, _, _, _]) rfl rfl ?_
      refine am_x_goto (tgt := 22) dX12_fits_53 rfl ?_
      exact z (fun r hr => by by_cases e : r = j; (subst e; simp [ftp, hp2]); exact hno r (by omega))
set_option maxHeartbeats 2000000 in
theorem r_fits {h : am_H} {n : Nat} {g : Bool} {F : Nat → Nat → Nat} {S T : Nat → Nat} (hW : Wd h) (hR : RB h n g F S T) {kn : Nat} {ks : Nat → Nat} {ky : Nat → Bool} (hK : KB 50 36 68 69 h n kn ks ky) {x : Int32} : am_D 4 m_X12_fits [.ref 50, .int x] h (fun v h2 => v = some (.int (fiV n g F S T kn ks ky x)) ∧ Fx [70] [] h h2) := by
  obtain ⟨hn, hg, h7, hF, hB, hS, hT⟩ := id hR
  unfold fiV
  by_cases h0 : n = 0
  · rw [if_pos h0]
    refine Eq_aln dX12_fits_0 rfl ?_
    refine Eq_getI dX12_fits_1 fl_X12_252 (ws_50 hW) rfl (by first | assumption | rfl) ?_
    refine Et_if_eq 12 dX12_fits_4 rfl (by rw [h0]; rfl) ?_
    refine Eq_ic (v := -1) dX12_fits_12 rfl ?_
    refine Eq_ir dX12_fits_13 rfl ?_
    exact ⟨rfl, Fx.rf⟩
  · rw [if_neg h0]
    by_cases hx : x < -1
    · rw [if_pos hx]
      refine Eq_aln dX12_fits_0 rfl ?_
      refine Eq_getI dX12_fits_1 fl_X12_252 (ws_50 hW) rfl (by first | assumption | rfl) ?_
      refine Ef_if_eq dX12_fits_4 (tgt := 12) rfl (by exact nI_ne0 (by omega) (by omega)) ?_
      refine Eq_iln dX12_fits_7 rfl ?_
      refine Eq_ic (v := -1) dX12_fits_8 rfl ?_
      refine Ef_ic_ge dX12_fits_9 (tgt := 14) rfl (by exact Int32.not_le.mpr hx) ?_
      refine Eq_ic (v := -1) dX12_fits_12 rfl ?_
      refine Eq_ir dX12_fits_13 rfl ?_
      exact ⟨rfl, Fx.rf⟩
    · rw [if_neg hx]
      refine Eq_aln dX12_fits_0 rfl ?_
      refine Eq_getI dX12_fits_1 fl_X12_252 (ws_50 hW) rfl (by first | assumption | rfl) ?_
      refine Ef_if_eq dX12_fits_4 (tgt := 12) rfl (by exact nI_ne0 (by omega) (by omega)) ?_
      refine Eq_iln dX12_fits_7 rfl ?_
      refine Eq_ic (v := -1) dX12_fits_8 rfl ?_
      refine Et_ic_ge 14 dX12_fits_9 rfl (by exact Int32.not_lt.mp hx) ?_
      refine Eq_aln dX12_fits_14 rfl ?_
      refine Eq_W0 (N := m_X12_laySpeaks) dX12_fits_15 lk_X12_387 mV_X12_laySpeaks (r_laySpeaks hW hR) (by decide) (ws_50 hW) rfl (by decide) (Nat.le_of_ble_eq_true rfl) (Nat.le_of_ble_eq_true rfl) (fun vq hq1 hq2 => ?_)
      obtain ⟨rfl, hf, hp⟩ := hq2
      have hW2 := hf.Wd hW
      have hR2 := hR.fx hf (by decide)
      have hK2 := hK.fx hf (by decide)
      have hn2 := hR2.1
      refine Eq_ic (v := nI 0) dX12_fits_18 rfl ?_
      refine Eq_isn dX12_fits_19 (by decide) ?_
      refine Eam_nl (pc' := 20) (l' := [_, _, _, _]) rfl rfl ?_
      refine Eq_ic (v := nI 0) dX12_fits_20 rfl ?_
      refine Eq_isn dX12_fits_21 (by decide) ?_
      refine Eam_nl (pc' := 22) (l' := [_, _, _, _]) rfl rfl ?_
      exact ⟨_, _, r_fits_lp hW2 hR2 hK2 hp (2 ^ n) 0 (by omega) (fun r hr => by omega), rfl, hf⟩
theorem spo_ne {p : Nat → Bool} {a : Nat} : ∀ {k : Nat}, a < k → p a = true → spo p k ≠ none
  | 0, h, _ => by omega
  | k + 1, h, hp => by
    by_cases hk : p k = true
    · rw [spo_t hk]; exact fun z => nomatch z
    · rw [spo_f hk]
      have : a ≠ k := fun z => hk (z ▸ hp)
      exact spo_ne (by omega) hp
set_option maxHeartbeats 2000000 in
theorem r_sure_lp {h : am_H} {n : Nat} {g : Bool} {F : Nat → Nat → Nat} {S T : Nat → Nat} (hW : Wd h) (hR : RB h n g F S T) {kn : Nat} {ks : Nat → Nat} {ky : Nat → Bool} (hK : KB 50 36 68 69 h n kn ks ky) (hp : ∀ s, s < n → am_i h 70 s = oN (spk n g F S T s)) {y : Bool} : ∀ k j, j + k = 2 ^ n → am_Sem 4 m_X12_sure 30 [some (.ref 50), some (.int (nI (if y = true then 1 else 0))), some (.int (nI (2 ^ n - 1))), some (.int (nI (sfo (agr n g F S T kn ks ky) y n j))), some (.int (nI (if (spo (agr n g F S T kn ks ky) j).isSome = true then 1 else 0))), some (.int (nI j))] [] h (some (.int (if cF n g F S T kn ks ky = true then nI (if y = true then mY n g F S T kn ks ky else mN n g F S T kn ks ky) else -1)), h) := by
  obtain ⟨hn, hg, h7, hF, hB, hS, hT⟩ := id hR
  have p2 := p2_128 h7
  intro k
  induction k with
  | zero =>
    intro j hj
    have hjn : j = 2 ^ n := by omega
    subst hjn
    by_cases hcf : cF n g F S T kn ks ky = true
    · obtain ⟨l1, l2, l3, l4⟩ := cF_yes hcf
      obtain ⟨e1, e2⟩ := sfo_fit (y := y) h7 l1 l2 l3 l4
      have e3 : (spo (agr n g F S T kn ks ky) (2 ^ n)).isSome = true := by
        cases hq : spo (agr n g F S T kn ks ky) (2 ^ n) with
        | some _ => rfl
        | none => exact absurd hq (spo_ne l1 e2)
      rw [if_pos hcf, e1, if_pos e3]
      refine q_il dX12_sure_30 rfl ?_
      refine q_ic (v := nI 1) dX12_sure_32 rfl ?_
      refine q_aln dX12_sure_33 rfl ?_
      refine q_getI dX12_sure_34 fl_X12_252 (ws_50 hW) rfl (by first | assumption | rfl) ?_
      first | refine q_shl1 dX12_sure_37 (by omega) ?_ | refine am_x_pu dX12_sure_37 rfl ?_
      refine t_ic_ge 75 dX12_sure_38 rfl (by exact nI_le (by omega) (by omega)) ?_
      refine q_il dX12_sure_75 rfl ?_
      refine f_if_eq dX12_sure_77 (tgt := 84) rfl (by exact zf1) ?_
      refine q_iln dX12_sure_80 rfl ?_
      refine am_x_goto (tgt := 85) dX12_sure_81 rfl ?_
      refine q_ir dX12_sure_85 rfl ?_
      rfl
    · rw [if_neg hcf, spo_none (fun r _ => by rw [cF_no hcf r]; decide)]
      refine q_il dX12_sure_30 rfl ?_
      refine q_ic (v := nI 1) dX12_sure_32 rfl ?_
      refine q_aln dX12_sure_33 rfl ?_
      refine q_getI dX12_sure_34 fl_X12_252 (ws_50 hW) rfl (by first | assumption | rfl) ?_
      first | refine q_shl1 dX12_sure_37 (by omega) ?_ | refine am_x_pu dX12_sure_37 rfl ?_
      refine t_ic_ge 75 dX12_sure_38 rfl (by exact nI_le (by omega) (by omega)) ?_
      refine q_il dX12_sure_75 rfl ?_
      refine t_if_eq 84 dX12_sure_77 rfl (by rfl) ?_
      refine q_ic (v := -1) dX12_sure_84 rfl ?_
      refine q_ir dX12_sure_85 rfl ?_
      rfl
  | succ k ih =>
    intro j hj
    have z := ih (j + 1) (by omega)
    have hlt := sfo_lt (p := agr n g F S T kn ks ky) (y := y) h7 j
    by_cases hp2 : agr n g F S T kn ks ky j = true
    · rw [spo_t hp2, show sfo (agr n g F S T kn ks ky) y n (j + 1) = sfo (agr n g F S T kn ks ky) y n j &&& (if y = true then j else 127 ^^^ j) by simp only [sfo]; rw [if_pos hp2]] at z
      by_cases hy : y = true
      · rw [if_pos hy, if_pos hy, show (if (some j).isSome = true then 1 else 0 : Nat) = 1 from rfl] at z
        rw [if_pos hy]
        refine q_il dX12_sure_30 rfl ?_
        refine q_ic (v := nI 1) dX12_sure_32 rfl ?_
        refine q_aln dX12_sure_33 rfl ?_
        refine q_getI dX12_sure_34 fl_X12_252 (ws_50 hW) rfl (by first | assumption | rfl) ?_
        first | refine q_shl1 dX12_sure_37 (by omega) ?_ | refine am_x_pu dX12_sure_37 rfl ?_
        refine f_ic_ge dX12_sure_38 (tgt := 75) rfl (by exact nI_ge (by omega) (by omega)) ?_
        refine q_aln dX12_sure_41 rfl ?_
        refine q_il dX12_sure_42 rfl ?_
        refine q_V1 (N := m_X12_agrees) dX12_sure_44 lk_X12_390 mV_X12_agrees (r_agrees hW hR hK hp (by omega)) (by decide) (ws_50 hW) rfl (by decide) (Nat.le_of_ble_eq_true rfl) (Nat.le_of_ble_eq_true rfl) ?_
        refine f_if_eq dX12_sure_47 (tgt := 69) rfl (by rw [if_pos hp2]; exact zf1) ?_
        refine q_ic (v := nI 1) dX12_sure_50 rfl ?_
        refine q_is dX12_sure_51 (by decide) ?_
        refine am_nl (pc' := 53) (l' := [_, _, _, _, _, _]) rfl rfl ?_
        refine q_iln dX12_sure_53 rfl ?_
        refine q_iln dX12_sure_54 rfl ?_
        refine f_if_eq dX12_sure_55 (tgt := 63) rfl (by exact zf1) ?_
        refine q_il dX12_sure_58 rfl ?_
        refine am_x_goto (tgt := 67) dX12_sure_60 rfl ?_
        first | refine q_and dX12_sure_67 ?_ | refine am_x_pu dX12_sure_67 rfl ?_
        refine q_isn dX12_sure_68 (by decide) ?_
        refine am_nl (pc' := 69) (l' := [_, _, _, _, _, _]) rfl rfl ?_
        refine q_inc dX12_sure_69 rfl (by decide) ?_
        refine am_nl (pc' := 72) (l' := [_, _, _, _, _, _]) rfl rfl ?_
        refine am_x_goto (tgt := 30) dX12_sure_72 rfl ?_
        exact z
      · rw [if_neg hy, if_neg hy, show (if (some j).isSome = true then 1 else 0 : Nat) = 1 from rfl] at z
        rw [if_neg hy]
        refine q_il dX12_sure_30 rfl ?_
        refine q_ic (v := nI 1) dX12_sure_32 rfl ?_
        refine q_aln dX12_sure_33 rfl ?_
        refine q_getI dX12_sure_34 fl_X12_252 (ws_50 hW) rfl (by first | assumption | rfl) ?_
        first | refine q_shl1 dX12_sure_37 (by omega) ?_ | refine am_x_pu dX12_sure_37 rfl ?_
        refine f_ic_ge dX12_sure_38 (tgt := 75) rfl (by exact nI_ge (by omega) (by omega)) ?_
        refine q_aln dX12_sure_41 rfl ?_
        refine q_il dX12_sure_42 rfl ?_
        refine q_V1 (N := m_X12_agrees) dX12_sure_44 lk_X12_390 mV_X12_agrees (r_agrees hW hR hK hp (by omega)) (by decide) (ws_50 hW) rfl (by decide) (Nat.le_of_ble_eq_true rfl) (Nat.le_of_ble_eq_true rfl) ?_
        refine f_if_eq dX12_sure_47 (tgt := 69) rfl (by rw [if_pos hp2]; exact zf1) ?_
        refine q_ic (v := nI 1) dX12_sure_50 rfl ?_
        refine q_is dX12_sure_51 (by decide) ?_
        refine am_nl (pc' := 53) (l' := [_, _, _, _, _, _]) rfl rfl ?_
        refine q_iln dX12_sure_53 rfl ?_
        refine q_iln dX12_sure_54 rfl ?_
        refine t_if_eq 63 dX12_sure_55 rfl (by rfl) ?_
        refine q_il dX12_sure_63 rfl ?_
        refine q_ic (v := -1) dX12_sure_65 rfl ?_
        refine am_x_pu dX12_sure_66 rfl ?_
        refine am_x_pu dX12_sure_67 rfl ?_
        rw [and_not _ hlt _ (by omega)]
        refine q_isn dX12_sure_68 (by decide) ?_
        refine am_nl (pc' := 69) (l' := [_, _, _, _, _, _]) rfl rfl ?_
        refine q_inc dX12_sure_69 rfl (by decide) ?_
        refine am_nl (pc' := 72) (l' := [_, _, _, _, _, _]) rfl rfl ?_
        refine am_x_goto (tgt := 30) dX12_sure_72 rfl ?_
        exact z
    · rw [spo_f hp2, show sfo (agr n g F S T kn ks ky) y n (j + 1) = sfo (agr n g F S T kn ks ky) y n j by simp only [sfo]; rw [if_neg hp2]] at z
      refine q_il dX12_sure_30 rfl ?_
      refine q_ic (v := nI 1) dX12_sure_32 rfl ?_
      refine q_aln dX12_sure_33 rfl ?_
      refine q_getI dX12_sure_34 fl_X12_252 (ws_50 hW) rfl (by first | assumption | rfl) ?_
      first | refine q_shl1 dX12_sure_37 (by omega) ?_ | refine am_x_pu dX12_sure_37 rfl ?_
      refine f_ic_ge dX12_sure_38 (tgt := 75) rfl (by exact nI_ge (by omega) (by omega)) ?_
      refine q_aln dX12_sure_41 rfl ?_
      refine q_il dX12_sure_42 rfl ?_
      refine q_V1 (N := m_X12_agrees) dX12_sure_44 lk_X12_390 mV_X12_agrees (r_agrees hW hR hK hp (by omega)) (by decide) (ws_50 hW) rfl (by decide) (Nat.le_of_ble_eq_true rfl) (Nat.le_of_ble_eq_true rfl) ?_
      refine t_if_eq 69 dX12_sure_47 rfl (by rw [if_neg hp2]; rfl) ?_
      refine q_inc dX12_sure_69 rfl (by decide) ?_
      refine am_nl (pc' := 72) (l' := [_, _, _, _, _, _]) rfl rfl ?_
      refine am_x_goto (tgt := 30) dX12_sure_72 rfl ?_
      exact z
set_option maxHeartbeats 2000000 in
theorem r_sure {h : am_H} {n : Nat} {g : Bool} {F : Nat → Nat → Nat} {S T : Nat → Nat} (hW : Wd h) (hR : RB h n g F S T) {kn : Nat} {ks : Nat → Nat} {ky : Nat → Bool} (hK : KB 50 36 68 69 h n kn ks ky) {y : Bool} : am_D 4 m_X12_sure [.ref 50, .int (nI (if y = true then 1 else 0))] h (fun v h2 => v = some (.int (suV n g F S T kn ks ky y)) ∧ Fx [70] [] h h2) := by
  obtain ⟨hn, hg, h7, hF, hB, hS, hT⟩ := id hR
  unfold suV
  have p2 := p2_128 h7
  have p3 : 0 < 2 ^ n := Nat.pow_pos (by omega)
  by_cases h0 : n = 0
  · rw [if_pos h0]
    refine Eq_aln dX12_sure_0 rfl ?_
    refine Eq_getI dX12_sure_1 fl_X12_252 (ws_50 hW) rfl (by first | assumption | rfl) ?_
    refine Ef_if_ne dX12_sure_4 (tgt := 9) rfl (by rw [h0]; rfl) ?_
    refine Eq_ic (v := -1) dX12_sure_7 rfl ?_
    refine Eq_ir dX12_sure_8 rfl ?_
    exact ⟨rfl, Fx.rf⟩
  · rw [if_neg h0]
    refine Eq_aln dX12_sure_0 rfl ?_
    refine Eq_getI dX12_sure_1 fl_X12_252 (ws_50 hW) rfl (by first | assumption | rfl) ?_
    refine Et_if_ne 9 dX12_sure_4 rfl (by exact nI_ne0 (by omega) (by omega)) ?_
    refine Eq_aln dX12_sure_9 rfl ?_
    refine Eq_W0 (N := m_X12_laySpeaks) dX12_sure_10 lk_X12_387 mV_X12_laySpeaks (r_laySpeaks hW hR) (by decide) (ws_50 hW) rfl (by decide) (Nat.le_of_ble_eq_true rfl) (Nat.le_of_ble_eq_true rfl) (fun vq hq1 hq2 => ?_)
    obtain ⟨rfl, hf, hp⟩ := hq2
    have hW2 := hf.Wd hW
    have hR2 := hR.fx hf (by decide)
    have hK2 := hK.fx hf (by decide)
    have hn2 := hR2.1
    refine Eq_ic (v := nI 1) dX12_sure_13 rfl ?_
    refine Eq_aln dX12_sure_14 rfl ?_
    refine Eq_getI dX12_sure_15 fl_X12_252 (ws_50 hW2) rfl (by first | assumption | rfl) ?_
    first | refine Eq_shl1 dX12_sure_18 (by omega) ?_ | refine Eam_x_pu dX12_sure_18 rfl ?_
    refine Eq_ic (v := nI 1) dX12_sure_19 rfl ?_
    first | refine Eq_sub dX12_sure_20 (by omega) ?_ | refine Eam_x_pu dX12_sure_20 rfl ?_
    refine Eq_isn dX12_sure_21 (by decide) ?_
    refine Eam_nl (pc' := 22) (l' := [_, _, _, _, _, _]) rfl rfl ?_
    refine Eq_iln dX12_sure_22 rfl ?_
    refine Eq_isn dX12_sure_23 (by decide) ?_
    refine Eam_nl (pc' := 24) (l' := [_, _, _, _, _, _]) rfl rfl ?_
    refine Eq_ic (v := nI 0) dX12_sure_24 rfl ?_
    refine Eq_is dX12_sure_25 (by decide) ?_
    refine Eam_nl (pc' := 27) (l' := [_, _, _, _, _, _]) rfl rfl ?_
    refine Eq_ic (v := nI 0) dX12_sure_27 rfl ?_
    refine Eq_is dX12_sure_28 (by decide) ?_
    refine Eam_nl (pc' := 30) (l' := [_, _, _, _, _, _]) rfl rfl ?_
    exact ⟨_, _, r_sure_lp hW2 hR2 hK2 hp (2 ^ n) 0 (by omega), rfl, hf⟩
