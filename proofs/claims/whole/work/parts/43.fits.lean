theorem mus_t {n : Nat} {g : Bool} {F : Nat → Nat → Nat} {S T : Nat → Nat} {ks : Nat → Nat} {ky : Nat → Bool} {y : Bool} {k m : Nat} (h : spk n g F S T (ks k) = some m) (hy : ky k = y) : mus n g F S T ks ky y (k + 1) = mus n g F S T ks ky y k ||| 2 ^ m := by simp [mus, h, hy]
theorem mus_f {n : Nat} {g : Bool} {F : Nat → Nat → Nat} {S T : Nat → Nat} {ks : Nat → Nat} {ky : Nat → Bool} {y : Bool} {k : Nat} (hy : ¬ ky k = y) : mus n g F S T ks ky y (k + 1) = mus n g F S T ks ky y k ||| 0 := by simp [mus, hy]
def fiV (n : Nat) (g : Bool) (F : Nat → Nat → Nat) (S T : Nat → Nat) (kn : Nat) (ks : Nat → Nat) (ky : Nat → Bool) (x : Int32) : Int32 := if n = 0 then -1 else if x < -1 then -1 else if x = -1 then nI (ct (agr n g F S T kn ks ky) (2 ^ n)) else oN (spo (ftp (agr n g F S T kn ks ky) x) (2 ^ n))
def suV (n : Nat) (g : Bool) (F : Nat → Nat → Nat) (S T : Nat → Nat) (kn : Nat) (ks : Nat → Nat) (ky : Nat → Bool) (y : Bool) : Int32 := if n = 0 then -1 else if cF n g F S T kn ks ky = true then nI (if y = true then mY n g F S T kn ks ky else mN n g F S T kn ks ky) else -1
theorem agr_ct0 {p : Nat → Bool} (h : ∀ v, p v = false) : ∀ k, ct p k = 0
  | 0 => rfl
  | k + 1 => by rw [ct_f (by rw [h k]; decide)]; exact agr_ct0 h k
theorem oNlt {x : Option Nat} (h : ∀ k, x = some k → k < 2 ^ 31) (j : Nat) (hj : j < 2 ^ 31) : oN x = nI j ↔ x = some j := by
  cases x with
  | none => exact ⟨fun z => absurd z.symm (nI_m1 hj), fun z => nomatch z⟩
  | some k => rw [show oN (some k) = nI k from rfl, nI_eq (h k rfl) hj]; simp
set_option maxHeartbeats 2000000 in
theorem c_speaker_lp {h : am_H} {n : Nat} {g : Bool} {F : Nat → Nat → Nat} (hW : Wd h) (hM : MB h n g F) {S T : Nat → Nat} (hS : SB 11 12 13 h n S T) {s : Nat} (hs : s < n) : ∀ k j, j + k = n → (∀ m, m < j → ¬ spp n g F S T s m = true) → am_Sem 3 m_X8_speakerThrough 11 [some (.ref 14), some (.int (nI s)), some (.int (nI (S s))), some (.int (nI j))] [] h (some (.int (oN (spk n g F S T s))), h) := by
  obtain ⟨hn, hg, h7, hF, hB⟩ := id hM
  have hSs := hS.S s hs
  intro k
  induction k with
  | zero =>
    intro j hj hno
    have hjn : j = n := by omega
    subst hjn
    rw [show spk j g F S T s = none from spo_none hno]
    refine q_iln dX8_speakerThrough_11 rfl ?_
    refine q_aln dX8_speakerThrough_12 rfl ?_
    refine q_getR dX8_speakerThrough_13 fl_X8_9 (ws_14 hW) rfl (wp_14_0 hW) ?_
    refine q_getI dX8_speakerThrough_16 fl_X8_35 (ws_9 hW) rfl (by first | assumption | rfl) ?_
    refine t_ic_ge 47 dX8_speakerThrough_19 rfl (by exact nI_le (by omega) (by omega)) ?_
    refine q_ic (v := -1) dX8_speakerThrough_47 rfl ?_
    refine q_ir dX8_speakerThrough_48 rfl ?_
    rfl
  | succ k ih =>
    intro j hj hno
    have hmo := c_mouthOf14 hW hM hS (m := j) (by omega)
    have hlt : ∀ k, mth n g F S T j = some k → k < 2 ^ 31 := fun k hk => by have := mth_lt hS.S hS.T (by omega) hk; omega
    by_cases he : mth n g F S T j = some (S s)
    · by_cases hh : hrd n g F S T j = true
      · rw [spk_of hS.pm (by omega) (show spp n g F S T s j = true by simp [spp, hh, he])]
        refine q_iln dX8_speakerThrough_11 rfl ?_
        refine q_aln dX8_speakerThrough_12 rfl ?_
        refine q_getR dX8_speakerThrough_13 fl_X8_9 (ws_14 hW) rfl (wp_14_0 hW) ?_
        refine q_getI dX8_speakerThrough_16 fl_X8_35 (ws_9 hW) rfl (by first | assumption | rfl) ?_
        refine f_ic_ge dX8_speakerThrough_19 (tgt := 47) rfl (by exact nI_ge (by omega) (by omega)) ?_
        refine q_aln dX8_speakerThrough_22 rfl ?_
        refine q_iln dX8_speakerThrough_23 rfl ?_
        refine q_V1 (N := m_X8_mouthOf) dX8_speakerThrough_24 lk_X8_50 mV_X8_mouthOf (hmo) (by decide) (ws_14 hW) rfl (by decide) (Nat.le_of_ble_eq_true rfl) (Nat.le_of_ble_eq_true rfl) ?_
        refine q_iln dX8_speakerThrough_27 rfl ?_
        refine f_ic_ne dX8_speakerThrough_28 (tgt := 41) rfl (by exact (oNlt hlt _ (by omega)).mpr he) ?_
        refine q_aln dX8_speakerThrough_31 rfl ?_
        refine q_iln dX8_speakerThrough_32 rfl ?_
        refine q_V1 (N := m_X8_isHeard) dX8_speakerThrough_33 lk_X8_61 mV_X8_isHeard (c_isHeard14 hW hM hS (by omega)) (by decide) (ws_14 hW) rfl (by decide) (Nat.le_of_ble_eq_true rfl) (Nat.le_of_ble_eq_true rfl) ?_
        refine f_if_eq dX8_speakerThrough_36 (tgt := 41) rfl (by rw [if_pos hh]; exact zf1) ?_
        refine q_iln dX8_speakerThrough_39 rfl ?_
        refine q_ir dX8_speakerThrough_40 rfl ?_
        rfl
      · refine q_iln dX8_speakerThrough_11 rfl ?_
        refine q_aln dX8_speakerThrough_12 rfl ?_
        refine q_getR dX8_speakerThrough_13 fl_X8_9 (ws_14 hW) rfl (wp_14_0 hW) ?_
        refine q_getI dX8_speakerThrough_16 fl_X8_35 (ws_9 hW) rfl (by first | assumption | rfl) ?_
        refine f_ic_ge dX8_speakerThrough_19 (tgt := 47) rfl (by exact nI_ge (by omega) (by omega)) ?_
        refine q_aln dX8_speakerThrough_22 rfl ?_
        refine q_iln dX8_speakerThrough_23 rfl ?_
        refine q_V1 (N := m_X8_mouthOf) dX8_speakerThrough_24 lk_X8_50 mV_X8_mouthOf (hmo) (by decide) (ws_14 hW) rfl (by decide) (Nat.le_of_ble_eq_true rfl) (Nat.le_of_ble_eq_true rfl) ?_
        refine q_iln dX8_speakerThrough_27 rfl ?_
        refine f_ic_ne dX8_speakerThrough_28 (tgt := 41) rfl (by exact (oNlt hlt _ (by omega)).mpr he) ?_
        refine q_aln dX8_speakerThrough_31 rfl ?_
        refine q_iln dX8_speakerThrough_32 rfl ?_
        refine q_V1 (N := m_X8_isHeard) dX8_speakerThrough_33 lk_X8_61 mV_X8_isHeard (c_isHeard14 hW hM hS (by omega)) (by decide) (ws_14 hW) rfl (by decide) (Nat.le_of_ble_eq_true rfl) (Nat.le_of_ble_eq_true rfl) ?_
        refine t_if_eq 41 dX8_speakerThrough_36 rfl (by rw [if_neg hh]; rfl) ?_
        refine q_inc dX8_speakerThrough_41 rfl (by decide) ?_
        refine am_nl (pc' := 44) (l' := [_, _, _, _]) rfl rfl ?_
        refine am_x_goto (tgt := 11) dX8_speakerThrough_44 rfl ?_
        exact ih (j + 1) (by omega) (fun m hm => by by_cases e : m = j; (subst e; simp [spp, hh]); exact hno m (by omega))
    · refine q_iln dX8_speakerThrough_11 rfl ?_
      refine q_aln dX8_speakerThrough_12 rfl ?_
      refine q_getR dX8_speakerThrough_13 fl_X8_9 (ws_14 hW) rfl (wp_14_0 hW) ?_
      refine q_getI dX8_speakerThrough_16 fl_X8_35 (ws_9 hW) rfl (by first | assumption | rfl) ?_
      refine f_ic_ge dX8_speakerThrough_19 (tgt := 47) rfl (by exact nI_ge (by omega) (by omega)) ?_
      refine q_aln dX8_speakerThrough_22 rfl ?_
      refine q_iln dX8_speakerThrough_23 rfl ?_
      refine q_V1 (N := m_X8_mouthOf) dX8_speakerThrough_24 lk_X8_50 mV_X8_mouthOf (hmo) (by decide) (ws_14 hW) rfl (by decide) (Nat.le_of_ble_eq_true rfl) (Nat.le_of_ble_eq_true rfl) ?_
      refine q_iln dX8_speakerThrough_27 rfl ?_
      refine t_ic_ne 41 dX8_speakerThrough_28 rfl (by exact fun z => he ((oNlt hlt _ (by omega)).mp z)) ?_
      refine q_inc dX8_speakerThrough_41 rfl (by decide) ?_
      refine am_nl (pc' := 44) (l' := [_, _, _, _]) rfl rfl ?_
      refine am_x_goto (tgt := 11) dX8_speakerThrough_44 rfl ?_
      exact ih (j + 1) (by omega) (fun m hm => by by_cases e : m = j; (subst e; simp [spp, he]); exact hno m (by omega))
set_option maxHeartbeats 2000000 in
theorem c_speaker {h : am_H} {n : Nat} {g : Bool} {F : Nat → Nat → Nat} (hW : Wd h) (hM : MB h n g F) {S T : Nat → Nat} (hS : SB 11 12 13 h n S T) {s : Nat} (hs : s < n) : am_C 3 m_X8_speakerThrough [.ref 14, .int (nI s)] h (some (.int (oN (spk n g F S T s))), h) := by
  refine q_aln dX8_speakerThrough_0 rfl ?_
  refine q_getR dX8_speakerThrough_1 fl_X8_15 (ws_14 hW) rfl (wp_14_1 hW) ?_
  refine q_iln dX8_speakerThrough_4 rfl ?_
  refine q_V1 (N := m_X6_memberOn) dX8_speakerThrough_5 lk_X8_47 mV_X6_memberOn (c_memberOn11 hW hS hs) (by decide) (ws_11 hW) rfl (by decide) (Nat.le_of_ble_eq_true rfl) (Nat.le_of_ble_eq_true rfl) ?_
  refine q_isn dX8_speakerThrough_8 (by decide) ?_
  refine am_nl (pc' := 9) (l' := [_, _, _, _]) rfl rfl ?_
  refine q_ic (v := nI 0) dX8_speakerThrough_9 rfl ?_
  refine q_isn dX8_speakerThrough_10 (by decide) ?_
  refine am_nl (pc' := 11) (l' := [_, _, _, _]) rfl rfl ?_
  exact c_speaker_lp hW hM hS hs n 0 (by omega) (fun m hm => by omega)
set_option maxHeartbeats 2000000 in
theorem c_canFit_lp {h : am_H} {n : Nat} {g : Bool} {F : Nat → Nat → Nat} (hW : Wd h) (hM : MB h n g F) {S T : Nat → Nat} (hS : SB 11 12 13 h n S T) {kn : Nat} {ks : Nat → Nat} {ky : Nat → Bool} (hK : KB 16 3 18 19 h n kn ks ky)  : ∀ k j hc (x2 : Option Value), j + k = kn → Fx [] [(16, 6), (16, 7)] h hc → am_i hc 16 6 = nI (mus n g F S T ks ky true j) → am_i hc 16 7 = nI (mus n g F S T ks ky false j) → alB (spB n g F S T ks) j = true → am_E 4 m_X10_canFit 12 [some (.ref 16), some (.int (nI j)), x2] [] hc (fun v h2 => v = some (.int (nI (if cF n g F S T kn ks ky = true then 1 else 0))) ∧ Fx [] [(16, 6), (16, 7)] h h2 ∧ (cF n g F S T kn ks ky = true → am_i h2 16 6 = nI (mY n g F S T kn ks ky) ∧ am_i h2 16 7 = nI (mN n g F S T kn ks ky))) := by
  obtain ⟨hn, hg, h7, hF, hB⟩ := id hM
  have hk20 := hK.2.1
  have p2 := p2_128 h7
  intro k
  induction k with
  | zero =>
    intro j hc x2 hj hfr f6 f7 ha
    have hjn : j = kn := by omega
    subst hjn
    have hWc := hfr.Wd hW
    have hKc := hK.fx hfr (by decide)
    have hk0 := hKc.1
    have h2 := alB_iff.mp ha
    have l1 : mY n g F S T j ks ky < 2 ^ n := mus_lt j h2
    have l3 := and_128 (a := mY n g F S T j ks ky) (b := mN n g F S T j ks ky) (by omega)
    by_cases hz : mY n g F S T j ks ky &&& mN n g F S T j ks ky = 0
    · have hcf : cF n g F S T j ks ky = true := by unfold cF; rw [ha, decide_eq_true hz]; rfl
      rw [if_pos hcf]
      refine Eq_iln dX10_canFit_12 rfl ?_
      refine Eq_aln dX10_canFit_13 rfl ?_
      refine Eq_getI dX10_canFit_14 fl_X10_26 (ws_16 hWc) rfl (by first | assumption | exact f7 | exact f6) ?_
      refine Et_ic_ge 103 dX10_canFit_17 rfl (by exact nI_le (by omega) (by omega)) ?_
      refine Eq_aln dX10_canFit_103 rfl ?_
      refine Eq_getI dX10_canFit_104 fl_X10_38 (ws_16 hWc) rfl (by first | assumption | exact f7 | exact f6) ?_
      refine Eq_aln dX10_canFit_107 rfl ?_
      refine Eq_getI dX10_canFit_108 fl_X10_41 (ws_16 hWc) rfl (by first | assumption | exact f7 | exact f6) ?_
      first | refine Eq_and dX10_canFit_111 ?_ | refine Eam_x_pu dX10_canFit_111 rfl ?_
      refine Ef_if_ne dX10_canFit_112 (tgt := 119) rfl (by exact (show nI (mY n g F S T j ks ky &&& mN n g F S T j ks ky) = 0 by rw [hz]; rfl)) ?_
      refine Eq_ic (v := nI 1) dX10_canFit_115 rfl ?_
      refine Eam_x_goto (tgt := 120) dX10_canFit_116 rfl ?_
      first | refine Eq_zrn dX10_canFit_120 rfl (by first | omega | exact b2_le) ?_ | refine Eq_zr dX10_canFit_120 rfl (by first | exact Or.inl rfl | exact Or.inr rfl | assumption) ?_
      exact ⟨rfl, hfr, fun _ => ⟨f6, f7⟩⟩
    · have hcf : ¬ cF n g F S T j ks ky = true := by unfold cF; rw [decide_eq_false hz]; simp
      rw [if_neg hcf]
      refine Eq_iln dX10_canFit_12 rfl ?_
      refine Eq_aln dX10_canFit_13 rfl ?_
      refine Eq_getI dX10_canFit_14 fl_X10_26 (ws_16 hWc) rfl (by first | assumption | exact f7 | exact f6) ?_
      refine Et_ic_ge 103 dX10_canFit_17 rfl (by exact nI_le (by omega) (by omega)) ?_
      refine Eq_aln dX10_canFit_103 rfl ?_
      refine Eq_getI dX10_canFit_104 fl_X10_38 (ws_16 hWc) rfl (by first | assumption | exact f7 | exact f6) ?_
      refine Eq_aln dX10_canFit_107 rfl ?_
      refine Eq_getI dX10_canFit_108 fl_X10_41 (ws_16 hWc) rfl (by first | assumption | exact f7 | exact f6) ?_
      first | refine Eq_and dX10_canFit_111 ?_ | refine Eam_x_pu dX10_canFit_111 rfl ?_
      refine Et_if_ne 119 dX10_canFit_112 rfl (by exact (show ¬ nI (mY n g F S T j ks ky &&& mN n g F S T j ks ky) = 0 from nI_ne0 (Nat.pos_of_ne_zero hz) (by omega))) ?_
      refine Eq_ic (v := nI 0) dX10_canFit_119 rfl ?_
      first | refine Eq_zrn dX10_canFit_120 rfl (by first | omega | exact b2_le) ?_ | refine Eq_zr dX10_canFit_120 rfl (by first | exact Or.inl rfl | exact Or.inr rfl | assumption) ?_
      exact ⟨rfl, hfr, fun z => absurd z hcf⟩
  | succ k ih =>
    intro j hc x2 hj hfr f6 f7 ha
    have hWc := hfr.Wd hW
    have hMc := hM.fx hfr (by decide)
    have hSc := hS.fx hfr (by decide)
    have hKc := hK.fx hfr (by decide)
    have hk0 := hKc.1
    have hkj := hKc.2.2 j (by omega)
    cases hq : spk n g F S T (ks j) with
    | none =>
      have hcf : ¬ cF n g F S T kn ks ky = true := by
        unfold cF
        rw [alB_f (show j < kn by omega) (show spB n g F S T ks j = false by simp [spB, hq])]
        simp
      rw [if_neg hcf]
      refine Eq_iln dX10_canFit_12 rfl ?_
      refine Eq_aln dX10_canFit_13 rfl ?_
      refine Eq_getI dX10_canFit_14 fl_X10_26 (ws_16 hWc) rfl (by first | assumption | exact f7 | exact f6) ?_
      refine Ef_ic_ge dX10_canFit_17 (tgt := 103) rfl (by exact nI_ge (by omega) (by omega)) ?_
      refine Eq_iln dX10_canFit_20 rfl ?_
      refine Eq_bp (v := nI 20) dX10_canFit_21 rfl ?_
      refine Ef_ic_ge dX10_canFit_23 (tgt := 103) rfl (by exact nI_ge (by omega) (by omega)) ?_
      refine Eq_aln dX10_canFit_26 rfl ?_
      refine Eq_getR dX10_canFit_27 fl_X10_9 (ws_16 hWc) rfl (wp_16_0 hWc) ?_
      refine Eq_aln dX10_canFit_30 rfl ?_
      refine Eq_getR dX10_canFit_31 fl_X10_30 (ws_16 hWc) rfl (wp_16_4 hWc) ?_
      refine Eq_iln dX10_canFit_34 rfl ?_
      refine Eq_ald dX10_canFit_35 (ws_18 hWc) (by omega) (by omega) (by first | exact hkj.1 | exact hkj.2.2) ?_
      refine Eq_V1 (N := m_X8_speakerThrough) dX10_canFit_36 lk_X10_103 mV_X8_speakerThrough ((by have z := c_speaker hWc hMc hSc hkj.2.1; rw [hq] at z; exact z)) (by decide) (ws_14 hWc) rfl (by decide) (Nat.le_of_ble_eq_true rfl) (Nat.le_of_ble_eq_true rfl) ?_
      refine Eq_isn dX10_canFit_39 (by decide) ?_
      refine Eam_nl (pc' := 40) (l' := [_, _, _]) rfl rfl ?_
      refine Eq_iln dX10_canFit_40 rfl ?_
      refine Eq_ic (v := -1) dX10_canFit_41 rfl ?_
      refine Ef_ic_ne dX10_canFit_42 (tgt := 47) rfl (by rfl) ?_
      refine Eq_ic (v := nI 0) dX10_canFit_45 rfl ?_
      first | refine Eq_zrn dX10_canFit_46 rfl (by first | omega | exact b2_le) ?_ | refine Eq_zr dX10_canFit_46 rfl (by first | exact Or.inl rfl | exact Or.inr rfl | assumption) ?_
      exact ⟨rfl, hfr, fun z => absurd z hcf⟩
    | some m =>
      have hm := spk_lt hq
      have ha2 : alB (spB n g F S T ks) (j + 1) = true := by rw [alB_s, ha]; simp [spB, hq]
      cases hy : ky j with
      | true =>
        rw [hy] at hkj
        have z := fun hc2 x2 a1 a2 a3 => ih (j + 1) hc2 x2 (by omega) a1 a2 a3 ha2
        rw [mus_t hq hy, mus_f (y := false) (by rw [hy]; decide)] at z
        refine Eq_iln dX10_canFit_12 rfl ?_
        refine Eq_aln dX10_canFit_13 rfl ?_
        refine Eq_getI dX10_canFit_14 fl_X10_26 (ws_16 hWc) rfl (by first | assumption | exact f7 | exact f6) ?_
        refine Ef_ic_ge dX10_canFit_17 (tgt := 103) rfl (by exact nI_ge (by omega) (by omega)) ?_
        refine Eq_iln dX10_canFit_20 rfl ?_
        refine Eq_bp (v := nI 20) dX10_canFit_21 rfl ?_
        refine Ef_ic_ge dX10_canFit_23 (tgt := 103) rfl (by exact nI_ge (by omega) (by omega)) ?_
        refine Eq_aln dX10_canFit_26 rfl ?_
        refine Eq_getR dX10_canFit_27 fl_X10_9 (ws_16 hWc) rfl (wp_16_0 hWc) ?_
        refine Eq_aln dX10_canFit_30 rfl ?_
        refine Eq_getR dX10_canFit_31 fl_X10_30 (ws_16 hWc) rfl (wp_16_4 hWc) ?_
        refine Eq_iln dX10_canFit_34 rfl ?_
        refine Eq_ald dX10_canFit_35 (ws_18 hWc) (by omega) (by omega) (by first | exact hkj.1 | exact hkj.2.2) ?_
        refine Eq_V1 (N := m_X8_speakerThrough) dX10_canFit_36 lk_X10_103 mV_X8_speakerThrough ((by have z := c_speaker hWc hMc hSc hkj.2.1; rw [hq] at z; exact z)) (by decide) (ws_14 hWc) rfl (by decide) (Nat.le_of_ble_eq_true rfl) (Nat.le_of_ble_eq_true rfl) ?_
        refine Eq_isn dX10_canFit_39 (by decide) ?_
        refine Eam_nl (pc' := 40) (l' := [_, _, _]) rfl rfl ?_
        refine Eq_iln dX10_canFit_40 rfl ?_
        refine Eq_ic (v := -1) dX10_canFit_41 rfl ?_
        refine Et_ic_ne 47 dX10_canFit_42 rfl (by exact nI_m1 (by omega)) ?_
        refine Eq_aln dX10_canFit_47 rfl ?_
        refine Eam_x_pu dX10_canFit_48 rfl ?_
        refine Eq_getI dX10_canFit_49 fl_X10_38 (ws_16 hWc) rfl (by first | assumption | exact f7 | exact f6) ?_
        refine Eq_aln dX10_canFit_52 rfl ?_
        refine Eq_getR dX10_canFit_53 fl_X10_34 (ws_16 hWc) rfl (wp_16_5 hWc) ?_
        refine Eq_iln dX10_canFit_56 rfl ?_
        refine Eq_zld dX10_canFit_57 (ws_19 hWc) (by omega) (by omega) (by first | exact hkj.1 | exact hkj.2.2) ?_
        refine Ef_if_eq dX10_canFit_58 (tgt := 67) rfl (by exact zf1) ?_
        refine Eq_ic (v := nI 1) dX10_canFit_61 rfl ?_
        refine Eq_iln dX10_canFit_62 rfl ?_
        first | refine Eq_shl1 dX10_canFit_63 (by omega) ?_ | refine Eam_x_pu dX10_canFit_63 rfl ?_
        refine Eam_x_goto (tgt := 68) dX10_canFit_64 rfl ?_
        first | refine Eq_or dX10_canFit_68 ?_ | refine Eam_x_pu dX10_canFit_68 rfl ?_
        refine Eam_x_putI dX10_canFit_69 (fw_X10_38 rfl) (ws_16 hWc) (Or.inl rfl) ?_
        refine Eq_aln dX10_canFit_72 rfl ?_
        refine Eam_x_pu dX10_canFit_73 rfl ?_
        refine Eq_getI dX10_canFit_74 fl_X10_41 (ws_16 hWc) rfl (by first | assumption | exact f7 | exact f6) ?_
        refine Eq_aln dX10_canFit_77 rfl ?_
        refine Eq_getR dX10_canFit_78 fl_X10_34 (ws_16 hWc) rfl (wp_16_5 hWc) ?_
        refine Eq_iln dX10_canFit_81 rfl ?_
        refine Eq_zld dX10_canFit_82 (ws_19 hWc) (by omega) (by omega) (by first | exact hkj.1 | exact hkj.2.2) ?_
        refine Ef_if_eq dX10_canFit_83 (tgt := 90) rfl (by exact zf1) ?_
        refine Eq_ic (v := nI 0) dX10_canFit_86 rfl ?_
        refine Eam_x_goto (tgt := 93) dX10_canFit_87 rfl ?_
        first | refine Eq_or dX10_canFit_93 ?_ | refine Eam_x_pu dX10_canFit_93 rfl ?_
        refine Eam_x_putI dX10_canFit_94 (fw_X10_41 rfl) (ws_16 hWc) (Or.inl rfl) ?_
        refine Eq_inc dX10_canFit_97 rfl (by decide) ?_
        refine Eam_nl (pc' := 100) (l' := [_, _, _]) rfl rfl ?_
        refine Eam_x_goto (tgt := 12) dX10_canFit_100 rfl ?_
        exact z _ _ (hfr.tr ((Fx.wI (Or.inr (by decide))).tr (Fx.wI (Or.inr (by decide))))) (by rw [wI_eq, if_neg (by decide), wI_eq, if_pos rfl]) (by rw [wI_eq, if_pos rfl])
      | false =>
        rw [hy] at hkj
        have z := fun hc2 x2 a1 a2 a3 => ih (j + 1) hc2 x2 (by omega) a1 a2 a3 ha2
        rw [mus_t hq hy, mus_f (y := true) (by rw [hy]; decide)] at z
        refine Eq_iln dX10_canFit_12 rfl ?_
        refine Eq_aln dX10_canFit_13 rfl ?_
        refine Eq_getI dX10_canFit_14 fl_X10_26 (ws_16 hWc) rfl (by first | assumption | exact f7 | exact f6) ?_
        refine Ef_ic_ge dX10_canFit_17 (tgt := 103) rfl (by exact nI_ge (by omega) (by omega)) ?_
        refine Eq_iln dX10_canFit_20 rfl ?_
        refine Eq_bp (v := nI 20) dX10_canFit_21 rfl ?_
        refine Ef_ic_ge dX10_canFit_23 (tgt := 103) rfl (by exact nI_ge (by omega) (by omega)) ?_
        refine Eq_aln dX10_canFit_26 rfl ?_
        refine Eq_getR dX10_canFit_27 fl_X10_9 (ws_16 hWc) rfl (wp_16_0 hWc) ?_
        refine Eq_aln dX10_canFit_30 rfl ?_
        refine Eq_getR dX10_canFit_31 fl_X10_30 (ws_16 hWc) rfl (wp_16_4 hWc) ?_
        refine Eq_iln dX10_canFit_34 rfl ?_
        refine Eq_ald dX10_canFit_35 (ws_18 hWc) (by omega) (by omega) (by first | exact hkj.1 | exact hkj.2.2) ?_
        refine Eq_V1 (N := m_X8_speakerThrough) dX10_canFit_36 lk_X10_103 mV_X8_speakerThrough ((by have z := c_speaker hWc hMc hSc hkj.2.1; rw [hq] at z; exact z)) (by decide) (ws_14 hWc) rfl (by decide) (Nat.le_of_ble_eq_true rfl) (Nat.le_of_ble_eq_true rfl) ?_
        refine Eq_isn dX10_canFit_39 (by decide) ?_
        refine Eam_nl (pc' := 40) (l' := [_, _, _]) rfl rfl ?_
        refine Eq_iln dX10_canFit_40 rfl ?_
        refine Eq_ic (v := -1) dX10_canFit_41 rfl ?_
        refine Et_ic_ne 47 dX10_canFit_42 rfl (by exact nI_m1 (by omega)) ?_
        refine Eq_aln dX10_canFit_47 rfl ?_
        refine Eam_x_pu dX10_canFit_48 rfl ?_
        refine Eq_getI dX10_canFit_49 fl_X10_38 (ws_16 hWc) rfl (by first | assumption | exact f7 | exact f6) ?_
        refine Eq_aln dX10_canFit_52 rfl ?_
        refine Eq_getR dX10_canFit_53 fl_X10_34 (ws_16 hWc) rfl (wp_16_5 hWc) ?_
        refine Eq_iln dX10_canFit_56 rfl ?_
        refine Eq_zld dX10_canFit_57 (ws_19 hWc) (by omega) (by omega) (by first | exact hkj.1 | exact hkj.2.2) ?_
        refine Et_if_eq 67 dX10_canFit_58 rfl (by rfl) ?_
        refine Eq_ic (v := nI 0) dX10_canFit_67 rfl ?_
        first | refine Eq_or dX10_canFit_68 ?_ | refine Eam_x_pu dX10_canFit_68 rfl ?_
        refine Eam_x_putI dX10_canFit_69 (fw_X10_38 rfl) (ws_16 hWc) (Or.inl rfl) ?_
        refine Eq_aln dX10_canFit_72 rfl ?_
        refine Eam_x_pu dX10_canFit_73 rfl ?_
        refine Eq_getI dX10_canFit_74 fl_X10_41 (ws_16 hWc) rfl (by first | assumption | exact f7 | exact f6) ?_
        refine Eq_aln dX10_canFit_77 rfl ?_
        refine Eq_getR dX10_canFit_78 fl_X10_34 (ws_16 hWc) rfl (wp_16_5 hWc) ?_
        refine Eq_iln dX10_canFit_81 rfl ?_
        refine Eq_zld dX10_canFit_82 (ws_19 hWc) (by omega) (by omega) (by first | exact hkj.1 | exact hkj.2.2) ?_
        refine Et_if_eq 90 dX10_canFit_83 rfl (by rfl) ?_
        refine Eq_ic (v := nI 1) dX10_canFit_90 rfl ?_
        refine Eq_iln dX10_canFit_91 rfl ?_
        first | refine Eq_shl1 dX10_canFit_92 (by omega) ?_ | refine Eam_x_pu dX10_canFit_92 rfl ?_
        first | refine Eq_or dX10_canFit_93 ?_ | refine Eam_x_pu dX10_canFit_93 rfl ?_
        refine Eam_x_putI dX10_canFit_94 (fw_X10_41 rfl) (ws_16 hWc) (Or.inl rfl) ?_
        refine Eq_inc dX10_canFit_97 rfl (by decide) ?_
        refine Eam_nl (pc' := 100) (l' := [_, _, _]) rfl rfl ?_
        refine Eam_x_goto (tgt := 12) dX10_canFit_100 rfl ?_
        exact z _ _ (hfr.tr ((Fx.wI (Or.inr (by decide))).tr (Fx.wI (Or.inr (by decide))))) (by rw [wI_eq, if_neg (by decide), wI_eq, if_pos rfl]) (by rw [wI_eq, if_pos rfl])
set_option maxHeartbeats 2000000 in
theorem c_canFit {h : am_H} {n : Nat} {g : Bool} {F : Nat → Nat → Nat} (hW : Wd h) (hM : MB h n g F) {S T : Nat → Nat} (hS : SB 11 12 13 h n S T) {kn : Nat} {ks : Nat → Nat} {ky : Nat → Bool} (hK : KB 16 3 18 19 h n kn ks ky)  : am_D 4 m_X10_canFit [.ref 16] h (fun v h2 => v = some (.int (nI (if cF n g F S T kn ks ky = true then 1 else 0))) ∧ Fx [] [(16, 6), (16, 7)] h h2 ∧ (cF n g F S T kn ks ky = true → am_i h2 16 6 = nI (mY n g F S T kn ks ky) ∧ am_i h2 16 7 = nI (mN n g F S T kn ks ky))) := by
  refine Eq_aln dX10_canFit_0 rfl ?_
  refine Eq_ic (v := nI 0) dX10_canFit_1 rfl ?_
  refine Eam_x_putI dX10_canFit_2 (fw_X10_38 rfl) (ws_16 hW) (Or.inl rfl) ?_
  refine Eq_aln dX10_canFit_5 rfl ?_
  refine Eq_ic (v := nI 0) dX10_canFit_6 rfl ?_
  refine Eam_x_putI dX10_canFit_7 (fw_X10_41 rfl) (ws_16 hW) (Or.inl rfl) ?_
  refine Eq_ic (v := nI 0) dX10_canFit_10 rfl ?_
  refine Eq_isn dX10_canFit_11 (by decide) ?_
  refine Eam_nl (pc' := 12) (l' := [_, _, _]) rfl rfl ?_
  exact c_canFit_lp hW hM hS hK kn 0 _ _ (by omega) ((Fx.wI (Or.inr (by decide))).tr (Fx.wI (Or.inr (by decide)))) (by rw [wI_eq, if_neg (by decide), wI_eq, if_pos rfl]; rfl) (by rw [wI_eq, if_pos rfl]; rfl) rfl
set_option maxHeartbeats 2000000 in
theorem c_isFit {h : am_H} (hW : Wd h) {n a b v : Nat} (hn : n ≤ 7) (ha : a < 2 ^ n) (hb : b < 2 ^ n) (f6 : am_i h 16 6 = nI a) (f7 : am_i h 16 7 = nI b) (hv : v < 128) : am_C 0 m_X10_isFit [.ref 16, .int (nI v)] h (some (.int (nI (if fitb a b v n = true then 1 else 0))), h) := by
  have p2 := p2_128 hn
  have e := fitb_iff (v := v) ha hb
  have l1 := and_128 (b := a) hv
  have l2 := and_128 (b := b) hv
  by_cases h1 : v &&& a = a
  · by_cases h2 : v &&& b = 0
    · rw [if_pos (e.mpr ⟨h1, h2⟩)]
      refine q_iln dX10_isFit_0 rfl ?_
      refine q_aln dX10_isFit_1 rfl ?_
      refine q_getI dX10_isFit_2 fl_X10_38 (ws_16 hW) rfl (by first | assumption | rfl) ?_
      first | refine q_and dX10_isFit_5 ?_ | refine am_x_pu dX10_isFit_5 rfl ?_
      refine q_aln dX10_isFit_6 rfl ?_
      refine q_getI dX10_isFit_7 fl_X10_38 (ws_16 hW) rfl (by first | assumption | rfl) ?_
      refine f_ic_ne dX10_isFit_10 (tgt := 26) rfl (by rw [h1]) ?_
      refine q_iln dX10_isFit_13 rfl ?_
      refine q_aln dX10_isFit_14 rfl ?_
      refine q_getI dX10_isFit_15 fl_X10_41 (ws_16 hW) rfl (by first | assumption | rfl) ?_
      first | refine q_and dX10_isFit_18 ?_ | refine am_x_pu dX10_isFit_18 rfl ?_
      refine f_if_ne dX10_isFit_19 (tgt := 26) rfl (by rw [h2]; rfl) ?_
      refine q_ic (v := nI 1) dX10_isFit_22 rfl ?_
      refine am_x_goto (tgt := 27) dX10_isFit_23 rfl ?_
      first | refine q_zrn dX10_isFit_27 rfl (by first | omega | exact b2_le) ?_ | refine q_zr dX10_isFit_27 rfl (by first | exact Or.inl rfl | exact Or.inr rfl | assumption) ?_
      rfl
    · rw [if_neg (fun z => h2 (e.mp z).2)]
      refine q_iln dX10_isFit_0 rfl ?_
      refine q_aln dX10_isFit_1 rfl ?_
      refine q_getI dX10_isFit_2 fl_X10_38 (ws_16 hW) rfl (by first | assumption | rfl) ?_
      first | refine q_and dX10_isFit_5 ?_ | refine am_x_pu dX10_isFit_5 rfl ?_
      refine q_aln dX10_isFit_6 rfl ?_
      refine q_getI dX10_isFit_7 fl_X10_38 (ws_16 hW) rfl (by first | assumption | rfl) ?_
      refine f_ic_ne dX10_isFit_10 (tgt := 26) rfl (by rw [h1]) ?_
      refine q_iln dX10_isFit_13 rfl ?_
      refine q_aln dX10_isFit_14 rfl ?_
      refine q_getI dX10_isFit_15 fl_X10_41 (ws_16 hW) rfl (by first | assumption | rfl) ?_
      first | refine q_and dX10_isFit_18 ?_ | refine am_x_pu dX10_isFit_18 rfl ?_
      refine t_if_ne 26 dX10_isFit_19 rfl (by exact nI_ne0 (by omega) (by omega)) ?_
      refine q_ic (v := nI 0) dX10_isFit_26 rfl ?_
      first | refine q_zrn dX10_isFit_27 rfl (by first | omega | exact b2_le) ?_ | refine q_zr dX10_isFit_27 rfl (by first | exact Or.inl rfl | exact Or.inr rfl | assumption) ?_
      rfl
  · rw [if_neg (fun z => h1 (e.mp z).1)]
    refine q_iln dX10_isFit_0 rfl ?_
    refine q_aln dX10_isFit_1 rfl ?_
    refine q_getI dX10_isFit_2 fl_X10_38 (ws_16 hW) rfl (by first | assumption | rfl) ?_
    first | refine q_and dX10_isFit_5 ?_ | refine am_x_pu dX10_isFit_5 rfl ?_
    refine q_aln dX10_isFit_6 rfl ?_
    refine q_getI dX10_isFit_7 fl_X10_38 (ws_16 hW) rfl (by first | assumption | rfl) ?_
    refine t_ic_ne 26 dX10_isFit_10 rfl (by exact fun z => h1 ((nI_eq (by omega) (by omega)).mp z)) ?_
    refine q_ic (v := nI 0) dX10_isFit_26 rfl ?_
    first | refine q_zrn dX10_isFit_27 rfl (by first | omega | exact b2_le) ?_ | refine q_zr dX10_isFit_27 rfl (by first | exact Or.inl rfl | exact Or.inr rfl | assumption) ?_
    rfl
theorem mx0 {a : Nat} (h : a < 2 ^ 31) : (if (nI 0) < nI a then nI a else nI 0) = nI a := by
  by_cases e : 0 < a
  · rw [if_pos (nI_lt e h)]
  · rw [if_neg (nI_nlt (by omega) (by omega)), show a = 0 by omega]
set_option maxHeartbeats 2000000 in
theorem c_fitting {h : am_H} {n : Nat} {g : Bool} {F : Nat → Nat → Nat} (hW : Wd h) (hM : MB h n g F) {S T : Nat → Nat} (hS : SB 11 12 13 h n S T) {kn : Nat} {ks : Nat → Nat} {ky : Nat → Bool} (hK : KB 16 3 18 19 h n kn ks ky)  : am_D 5 m_X10_fitting [.ref 16] h (fun v h2 => v = some (.int (nI (ct (agr n g F S T kn ks ky) (2 ^ n)))) ∧ Fx [] [(16, 6), (16, 7)] h h2) := by
  obtain ⟨hn, hg, h7, hF, hB⟩ := id hM
  by_cases hcf : cF n g F S T kn ks ky = true
  · obtain ⟨l1, l2, l3, l4⟩ := cF_yes hcf
    have p2 := p2_128 h7
    have e1 : (agr n g F S T kn ks ky) = fun v => fitb (mY n g F S T kn ks ky) (mN n g F S T kn ks ky) v n := funext l4
    have l5 : mY n g F S T kn ks ky ||| mN n g F S T kn ks ky < 2 ^ n := Nat.or_lt_two_pow l1 l2
    have e2 : popc (mY n g F S T kn ks ky ||| mN n g F S T kn ks ky) = ct (fun i => (mY n g F S T kn ks ky ||| mN n g F S T kn ks ky).testBit i) n := by
      unfold popc
      rw [← ct_cut (p := fun i => (mY n g F S T kn ks ky ||| mN n g F S T kn ks ky).testBit i) 7 h7]
      refine ct_cong (fun i hi => ?_)
      by_cases hin : i < n
      · simp [hin]
      · rw [lt_bit l5 (by omega)]; simp [hin]
    have l6 : ct (fun i => (mY n g F S T kn ks ky ||| mN n g F S T kn ks ky).testBit i) n ≤ n := ct_le _ n
    rw [e1, fit_ct n _ _ l1 l2 l3]
    refine Eq_aln dX10_fitting_0 rfl ?_
    refine Eq_W0 (N := m_X10_canFit) dX10_fitting_1 lk_X10_106 mV_X10_canFit (c_canFit hW hM hS hK) (by decide) (ws_16 hW) rfl (by decide) (Nat.le_of_ble_eq_true rfl) (Nat.le_of_ble_eq_true rfl) (fun vq hq1 hq2 => ?_)
    obtain ⟨rfl, hf, hmm⟩ := hq2
    have hW2 := hf.Wd hW
    refine Et_if_ne 9 dX10_fitting_4 rfl (by rw [if_pos hcf]; exact zf1) ?_
    refine Eq_aln dX10_fitting_9 rfl ?_
    refine Eq_getR dX10_fitting_10 fl_X10_21 (ws_16 hW2) rfl (wp_16_1 hW2) ?_
    refine Eq_getI dX10_fitting_13 fl_X10_44 (ws_9 hW2) rfl ((hf.i (by decide) (by decide)).trans hn) ?_
    refine Eq_aln dX10_fitting_16 rfl ?_
    refine Eq_getI dX10_fitting_17 fl_X10_38 (ws_16 hW2) rfl (hmm hcf).1 ?_
    refine Eq_aln dX10_fitting_20 rfl ?_
    refine Eq_getI dX10_fitting_21 fl_X10_41 (ws_16 hW2) rfl (hmm hcf).2 ?_
    refine Eq_or dX10_fitting_24 ?_
    refine Eq_S1 (N := m_J6_bitCount_0f7a4) dX10_fitting_25 lk_X10_61 mS_J6_bitCount_0f7a4 ((by have z := c_bitCount (h := hq1) (b := mY n g F S T kn ks ky ||| mN n g F S T kn ks ky) (by omega); rw [e2] at z; exact z)) (by decide) (Nat.le_of_ble_eq_true rfl) (Nat.le_of_ble_eq_true rfl) ?_
    refine Eq_sub dX10_fitting_28 (by omega) ?_
    refine Eq_isn dX10_fitting_29 (by decide) ?_
    refine Eam_nl (pc' := 30) (l' := [_, _]) rfl rfl ?_
    refine Eq_ic (v := nI 1) dX10_fitting_30 rfl ?_
    refine Eq_ic (v := nI 0) dX10_fitting_31 rfl ?_
    refine Eq_iln dX10_fitting_32 rfl ?_
    refine Eq_max dX10_fitting_33 lk_X10_110 js_J9_max_7cf53 in_J9 jc_J9_max_7cf53 (by decide) (Nat.le_of_ble_eq_true rfl) ?_
    rw [mx0 (by omega)]
    refine Eq_shl1 dX10_fitting_36 (by omega) ?_
    refine Eq_ir dX10_fitting_37 rfl ?_
    exact ⟨rfl, hf⟩
  · rw [agr_ct0 (fun v => cF_no hcf v)]
    refine Eq_aln dX10_fitting_0 rfl ?_
    refine Eq_W0 (N := m_X10_canFit) dX10_fitting_1 lk_X10_106 mV_X10_canFit (c_canFit hW hM hS hK) (by decide) (ws_16 hW) rfl (by decide) (Nat.le_of_ble_eq_true rfl) (Nat.le_of_ble_eq_true rfl) (fun vq hq1 hq2 => ?_)
    obtain ⟨rfl, hf, hmm⟩ := hq2
    have hW2 := hf.Wd hW
    refine Ef_if_ne dX10_fitting_4 (tgt := 9) rfl (by rw [if_neg hcf]; rfl) ?_
    refine Eq_ic (v := nI 0) dX10_fitting_7 rfl ?_
    refine Eq_ir dX10_fitting_8 rfl ?_
    exact ⟨rfl, hf⟩
set_option maxHeartbeats 2000000 in
theorem c_fitRow_lp {h : am_H} {n : Nat} {g : Bool} {F : Nat → Nat → Nat} (hW : Wd h) (hM : MB h n g F) {S T : Nat → Nat} {kn : Nat} {ks : Nat → Nat} {ky : Nat → Bool} {x : Int32} (f6 : am_i h 16 6 = nI (mY n g F S T kn ks ky)) (f7 : am_i h 16 7 = nI (mN n g F S T kn ks ky)) (hcf : cF n g F S T kn ks ky = true) : ∀ k j, j + k = 2 ^ n → (∀ r, r < j → ¬ ftp (agr n g F S T kn ks ky) x r = true) → am_Sem 5 m_X10_fittingRow 13 [some (.ref 16), some (.int x), some (.int (nI (ct (agr n g F S T kn ks ky) j))), some (.int (nI j))] [] h (some (.int (oN (spo (ftp (agr n g F S T kn ks ky) x) (2 ^ n)))), h) := by
  obtain ⟨hn, hg, h7, hF, hB⟩ := id hM
  have p2 := p2_128 h7
  obtain ⟨l1, l2, l3, l4⟩ := cF_yes hcf
  intro k
  induction k with
  | zero =>
    intro j hj hno
    have hjn : j = 2 ^ n := by omega
    subst hjn
    rw [spo_none hno]
    refine q_iln dX10_fittingRow_13 rfl ?_
    refine q_ic (v := nI 1) dX10_fittingRow_14 rfl ?_
    refine q_aln dX10_fittingRow_15 rfl ?_
    refine q_getR dX10_fittingRow_16 fl_X10_21 (ws_16 hW) rfl (wp_16_1 hW) ?_
    refine q_getI dX10_fittingRow_19 fl_X10_44 (ws_9 hW) rfl (by first | assumption | rfl) ?_
    first | refine q_shl1 dX10_fittingRow_22 (by omega) ?_ | refine am_x_pu dX10_fittingRow_22 rfl ?_
    refine t_ic_ge 50 dX10_fittingRow_23 rfl (by exact nI_le (by omega) (by omega)) ?_
    refine q_ic (v := -1) dX10_fittingRow_50 rfl ?_
    refine q_ir dX10_fittingRow_51 rfl ?_
    rfl
  | succ k ih =>
    intro j hj hno
    have z := ih (j + 1) (by omega)
    have hcl := ct_le (agr n g F S T kn ks ky) j
    by_cases hp : agr n g F S T kn ks ky j = true
    · rw [ct_t hp] at z
      by_cases he : nI (ct (agr n g F S T kn ks ky) j) = x
      · rw [ftp_uniq (by omega) (show j < 2 ^ n by omega) (show ftp (agr n g F S T kn ks ky) x j = true by simp [ftp, hp, he])]
        refine q_iln dX10_fittingRow_13 rfl ?_
        refine q_ic (v := nI 1) dX10_fittingRow_14 rfl ?_
        refine q_aln dX10_fittingRow_15 rfl ?_
        refine q_getR dX10_fittingRow_16 fl_X10_21 (ws_16 hW) rfl (wp_16_1 hW) ?_
        refine q_getI dX10_fittingRow_19 fl_X10_44 (ws_9 hW) rfl (by first | assumption | rfl) ?_
        first | refine q_shl1 dX10_fittingRow_22 (by omega) ?_ | refine am_x_pu dX10_fittingRow_22 rfl ?_
        refine f_ic_ge dX10_fittingRow_23 (tgt := 50) rfl (by exact nI_ge (by omega) (by omega)) ?_
        refine q_aln dX10_fittingRow_26 rfl ?_
        refine q_iln dX10_fittingRow_27 rfl ?_
        refine q_V1 (N := m_X10_isFit) dX10_fittingRow_28 lk_X10_115 mV_X10_isFit ((by have z := c_isFit (v := j) hW h7 l1 l2 f6 f7 (by omega); rw [← l4 j] at z; exact z)) (by decide) (ws_16 hW) rfl (by decide) (Nat.le_of_ble_eq_true rfl) (Nat.le_of_ble_eq_true rfl) ?_
        refine f_if_eq dX10_fittingRow_31 (tgt := 44) rfl (by rw [if_pos hp]; exact zf1) ?_
        refine q_iln dX10_fittingRow_34 rfl ?_
        refine q_iln dX10_fittingRow_35 rfl ?_
        refine f_ic_ne dX10_fittingRow_36 (tgt := 41) rfl (by exact he) ?_
        refine q_iln dX10_fittingRow_39 rfl ?_
        refine q_ir dX10_fittingRow_40 rfl ?_
        rfl
      · refine q_iln dX10_fittingRow_13 rfl ?_
        refine q_ic (v := nI 1) dX10_fittingRow_14 rfl ?_
        refine q_aln dX10_fittingRow_15 rfl ?_
        refine q_getR dX10_fittingRow_16 fl_X10_21 (ws_16 hW) rfl (wp_16_1 hW) ?_
        refine q_getI dX10_fittingRow_19 fl_X10_44 (ws_9 hW) rfl (by first | assumption | rfl) ?_
        first | refine q_shl1 dX10_fittingRow_22 (by omega) ?_ | refine am_x_pu dX10_fittingRow_22 rfl ?_
        refine f_ic_ge dX10_fittingRow_23 (tgt := 50) rfl (by exact nI_ge (by omega) (by omega)) ?_
        refine q_aln dX10_fittingRow_26 rfl ?_
        refine q_iln dX10_fittingRow_27 rfl ?_
        refine q_V1 (N := m_X10_isFit) dX10_fittingRow_28 lk_X10_115 mV_X10_isFit ((by have z := c_isFit (v := j) hW h7 l1 l2 f6 f7 (by omega); rw [← l4 j] at z; exact z)) (by decide) (ws_16 hW) rfl (by decide) (Nat.le_of_ble_eq_true rfl) (Nat.le_of_ble_eq_true rfl) ?_
        refine f_if_eq dX10_fittingRow_31 (tgt := 44) rfl (by rw [if_pos hp]; exact zf1) ?_
        refine q_iln dX10_fittingRow_34 rfl ?_
        refine q_iln dX10_fittingRow_35 rfl ?_
        refine t_ic_ne 41 dX10_fittingRow_36 rfl (by exact he) ?_
        refine q_inc dX10_fittingRow_41 rfl (by decide) ?_
        refine am_nl (pc' := 44) (l' := [_, _, _, _]) rfl rfl ?_
        refine q_inc dX10_fittingRow_44 rfl (by decide) ?_
        refine am_nl (pc' := 47) (l' := [_, _, _, _]) rfl rfl ?_
        refine am_x_goto (tgt := 13) dX10_fittingRow_47 rfl ?_
        exact z (fun r hr => by by_cases e : r = j; (subst e; simp [ftp, he]); exact hno r (by omega))
    · rw [ct_f hp] at z
      refine q_iln dX10_fittingRow_13 rfl ?_
      refine q_ic (v := nI 1) dX10_fittingRow_14 rfl ?_
      refine q_aln dX10_fittingRow_15 rfl ?_
      refine q_getR dX10_fittingRow_16 fl_X10_21 (ws_16 hW) rfl (wp_16_1 hW) ?_
      refine q_getI dX10_fittingRow_19 fl_X10_44 (ws_9 hW) rfl (by first | assumption | rfl) ?_
      first | refine q_shl1 dX10_fittingRow_22 (by omega) ?_ | refine am_x_pu dX10_fittingRow_22 rfl ?_
      refine f_ic_ge dX10_fittingRow_23 (tgt := 50) rfl (by exact nI_ge (by omega) (by omega)) ?_
      refine q_aln dX10_fittingRow_26 rfl ?_
      refine q_iln dX10_fittingRow_27 rfl ?_
      refine q_V1 (N := m_X10_isFit) dX10_fittingRow_28 lk_X10_115 mV_X10_isFit ((by have z := c_isFit (v := j) hW h7 l1 l2 f6 f7 (by omega); rw [← l4 j] at z; exact z)) (by decide) (ws_16 hW) rfl (by decide) (Nat.le_of_ble_eq_true rfl) (Nat.le_of_ble_eq_true rfl) ?_
      refine t_if_eq 44 dX10_fittingRow_31 rfl (by rw [if_neg hp]; rfl) ?_
      refine q_inc dX10_fittingRow_44 rfl (by decide) ?_
      refine am_nl (pc' := 47) (l' := [_, _, _, _]) rfl rfl ?_
      refine am_x_goto (tgt := 13) dX10_fittingRow_47 rfl ?_
      exact z (fun r hr => by by_cases e : r = j; (subst e; simp [ftp, hp]); exact hno r (by omega))
set_option maxHeartbeats 2000000 in
theorem c_fitRow {h : am_H} {n : Nat} {g : Bool} {F : Nat → Nat → Nat} (hW : Wd h) (hM : MB h n g F) {S T : Nat → Nat} (hS : SB 11 12 13 h n S T) {kn : Nat} {ks : Nat → Nat} {ky : Nat → Bool} (hK : KB 16 3 18 19 h n kn ks ky) {x : Int32} : am_D 5 m_X10_fittingRow [.ref 16, .int x] h (fun v h2 => v = some (.int (oN (spo (ftp (agr n g F S T kn ks ky) x) (2 ^ n)))) ∧ Fx [] [(16, 6), (16, 7)] h h2) := by
  by_cases hcf : cF n g F S T kn ks ky = true
  · refine Eq_aln dX10_fittingRow_0 rfl ?_
    refine Eq_W0 (N := m_X10_canFit) dX10_fittingRow_1 lk_X10_106 mV_X10_canFit (c_canFit hW hM hS hK) (by decide) (ws_16 hW) rfl (by decide) (Nat.le_of_ble_eq_true rfl) (Nat.le_of_ble_eq_true rfl) (fun vq hq1 hq2 => ?_)
    obtain ⟨rfl, hf, hmm⟩ := hq2
    have hW2 := hf.Wd hW
    refine Et_if_ne 9 dX10_fittingRow_4 rfl (by rw [if_pos hcf]; exact zf1) ?_
    refine Eq_ic (v := nI 0) dX10_fittingRow_9 rfl ?_
    refine Eq_isn dX10_fittingRow_10 (by decide) ?_
    refine Eam_nl (pc' := 11) (l' := [_, _, _, _]) rfl rfl ?_
    refine Eq_ic (v := nI 0) dX10_fittingRow_11 rfl ?_
    refine Eq_isn dX10_fittingRow_12 (by decide) ?_
    refine Eam_nl (pc' := 13) (l' := [_, _, _, _]) rfl rfl ?_
    exact ⟨_, _, c_fitRow_lp hW2 (hM.fx hf (by decide)) (hmm hcf).1 (hmm hcf).2 hcf (2 ^ n) 0 (by omega) (fun r hr => by omega), rfl, hf⟩
  · rw [spo_none (fun r _ => by simp [ftp, cF_no hcf r])]
    refine Eq_aln dX10_fittingRow_0 rfl ?_
    refine Eq_W0 (N := m_X10_canFit) dX10_fittingRow_1 lk_X10_106 mV_X10_canFit (c_canFit hW hM hS hK) (by decide) (ws_16 hW) rfl (by decide) (Nat.le_of_ble_eq_true rfl) (Nat.le_of_ble_eq_true rfl) (fun vq hq1 hq2 => ?_)
    obtain ⟨rfl, hf, hmm⟩ := hq2
    have hW2 := hf.Wd hW
    refine Ef_if_ne dX10_fittingRow_4 (tgt := 9) rfl (by rw [if_neg hcf]; rfl) ?_
    refine Eq_ic (v := -1) dX10_fittingRow_7 rfl ?_
    refine Eq_ir dX10_fittingRow_8 rfl ?_
    exact ⟨rfl, hf⟩
set_option maxHeartbeats 2000000 in
theorem c_certain {h : am_H} {n : Nat} {g : Bool} {F : Nat → Nat → Nat} (hW : Wd h) (hM : MB h n g F) {S T : Nat → Nat} (hS : SB 11 12 13 h n S T) {kn : Nat} {ks : Nat → Nat} {ky : Nat → Bool} (hK : KB 16 3 18 19 h n kn ks ky) {y : Bool} : am_D 5 m_X10_certain [.ref 16, .int (nI (if y = true then 1 else 0))] h (fun v h2 => v = some (.int ((if cF n g F S T kn ks ky = true then nI (if y = true then mY n g F S T kn ks ky else mN n g F S T kn ks ky) else -1))) ∧ Fx [] [(16, 6), (16, 7)] h h2) := by
  by_cases hcf : cF n g F S T kn ks ky = true
  · rw [if_pos hcf]
    by_cases hy : y = true
    · rw [if_pos hy]
      refine Eq_aln dX10_certain_0 rfl ?_
      refine Eq_W0 (N := m_X10_canFit) dX10_certain_1 lk_X10_106 mV_X10_canFit (c_canFit hW hM hS hK) (by decide) (ws_16 hW) rfl (by decide) (Nat.le_of_ble_eq_true rfl) (Nat.le_of_ble_eq_true rfl) (fun vq hq1 hq2 => ?_)
      obtain ⟨rfl, hf, hmm⟩ := hq2
      have hW2 := hf.Wd hW
      refine Et_if_ne 9 dX10_certain_4 rfl (by rw [if_pos hcf]; exact zf1) ?_
      refine Eq_iln dX10_certain_9 rfl ?_
      refine Ef_if_eq dX10_certain_10 (tgt := 20) rfl (by exact zf1) ?_
      refine Eq_aln dX10_certain_13 rfl ?_
      refine Eq_getI dX10_certain_14 fl_X10_38 (ws_16 hW2) rfl (by first | exact (hmm hcf).1 | exact (hmm hcf).2) ?_
      refine Eam_x_goto (tgt := 24) dX10_certain_17 rfl ?_
      refine Eq_ir dX10_certain_24 rfl ?_
      exact ⟨by rw [if_pos hy], hf⟩
    · rw [if_neg hy]
      refine Eq_aln dX10_certain_0 rfl ?_
      refine Eq_W0 (N := m_X10_canFit) dX10_certain_1 lk_X10_106 mV_X10_canFit (c_canFit hW hM hS hK) (by decide) (ws_16 hW) rfl (by decide) (Nat.le_of_ble_eq_true rfl) (Nat.le_of_ble_eq_true rfl) (fun vq hq1 hq2 => ?_)
      obtain ⟨rfl, hf, hmm⟩ := hq2
      have hW2 := hf.Wd hW
      refine Et_if_ne 9 dX10_certain_4 rfl (by rw [if_pos hcf]; exact zf1) ?_
      refine Eq_iln dX10_certain_9 rfl ?_
      refine Et_if_eq 20 dX10_certain_10 rfl (by rfl) ?_
      refine Eq_aln dX10_certain_20 rfl ?_
      refine Eq_getI dX10_certain_21 fl_X10_41 (ws_16 hW2) rfl (by first | exact (hmm hcf).1 | exact (hmm hcf).2) ?_
      refine Eq_ir dX10_certain_24 rfl ?_
      exact ⟨by rw [if_neg hy], hf⟩
  · rw [if_neg hcf]
    refine Eq_aln dX10_certain_0 rfl ?_
    refine Eq_W0 (N := m_X10_canFit) dX10_certain_1 lk_X10_106 mV_X10_canFit (c_canFit hW hM hS hK) (by decide) (ws_16 hW) rfl (by decide) (Nat.le_of_ble_eq_true rfl) (Nat.le_of_ble_eq_true rfl) (fun vq hq1 hq2 => ?_)
    obtain ⟨rfl, hf, hmm⟩ := hq2
    have hW2 := hf.Wd hW
    refine Ef_if_ne dX10_certain_4 (tgt := 9) rfl (by rw [if_neg hcf]; rfl) ?_
    refine Eq_ic (v := -1) dX10_certain_7 rfl ?_
    refine Eq_ir dX10_certain_8 rfl ?_
    exact ⟨rfl, hf⟩
set_option maxHeartbeats 2000000 in
theorem c_fits {h : am_H} {n : Nat} {g : Bool} {F : Nat → Nat → Nat} (hW : Wd h) (hM : MB h n g F) {S T : Nat → Nat} (hS : SB 11 12 13 h n S T) {kn : Nat} {ks : Nat → Nat} {ky : Nat → Bool} (hK : KB 16 3 18 19 h n kn ks ky) {x : Int32} : am_D 6 m_X11_fits [.ref 0, .int x] h (fun v h2 => v = some (.int (fiV n g F S T kn ks ky x)) ∧ Fx [] [(16, 6), (16, 7)] h h2) := by
  obtain ⟨hn, hg, h7, hF, hB⟩ := id hM
  unfold fiV
  by_cases h0 : n = 0
  · rw [if_pos h0]
    refine Eq_aln dX11_fits_0 rfl ?_
    refine Eq_getR dX11_fits_1 fl_X11_48 (ws_0 hW) rfl (wp_0_6 hW) ?_
    refine Eq_getI dX11_fits_4 fl_X11_146 (ws_9 hW) rfl (by first | assumption | rfl) ?_
    refine Et_if_eq 15 dX11_fits_7 rfl (by rw [h0]; rfl) ?_
    refine Eq_ic (v := -1) dX11_fits_15 rfl ?_
    refine Eq_ir dX11_fits_16 rfl ?_
    exact ⟨rfl, Fx.rf⟩
  · rw [if_neg h0]
    by_cases hx : x < -1
    · rw [if_pos hx]
      refine Eq_aln dX11_fits_0 rfl ?_
      refine Eq_getR dX11_fits_1 fl_X11_48 (ws_0 hW) rfl (wp_0_6 hW) ?_
      refine Eq_getI dX11_fits_4 fl_X11_146 (ws_9 hW) rfl (by first | assumption | rfl) ?_
      refine Ef_if_eq dX11_fits_7 (tgt := 15) rfl (by exact nI_ne0 (by omega) (by omega)) ?_
      refine Eq_iln dX11_fits_10 rfl ?_
      refine Eq_ic (v := -1) dX11_fits_11 rfl ?_
      refine Ef_ic_ge dX11_fits_12 (tgt := 17) rfl (by exact Int32.not_le.mpr hx) ?_
      refine Eq_ic (v := -1) dX11_fits_15 rfl ?_
      refine Eq_ir dX11_fits_16 rfl ?_
      exact ⟨rfl, Fx.rf⟩
    · rw [if_neg hx]
      by_cases hm : x = -1
      · rw [if_pos hm]
        refine Eq_aln dX11_fits_0 rfl ?_
        refine Eq_getR dX11_fits_1 fl_X11_48 (ws_0 hW) rfl (wp_0_6 hW) ?_
        refine Eq_getI dX11_fits_4 fl_X11_146 (ws_9 hW) rfl (by first | assumption | rfl) ?_
        refine Ef_if_eq dX11_fits_7 (tgt := 15) rfl (by exact nI_ne0 (by omega) (by omega)) ?_
        refine Eq_iln dX11_fits_10 rfl ?_
        refine Eq_ic (v := -1) dX11_fits_11 rfl ?_
        refine Et_ic_ge 17 dX11_fits_12 rfl (by exact Int32.not_lt.mp hx) ?_
        refine Eq_iln dX11_fits_17 rfl ?_
        refine Eq_ic (v := -1) dX11_fits_18 rfl ?_
        refine Ef_ic_ne dX11_fits_19 (tgt := 32) rfl (by exact hm) ?_
        refine Eq_aln dX11_fits_22 rfl ?_
        refine Eq_getR dX11_fits_23 fl_X11_73 (ws_0 hW) rfl (wp_0_9 hW) ?_
        refine Eq_W0 (N := m_X10_fitting) dX11_fits_26 lk_X11_278 mV_X10_fitting (c_fitting hW hM hS hK) (by decide) (ws_16 hW) rfl (by decide) (Nat.le_of_ble_eq_true rfl) (Nat.le_of_ble_eq_true rfl) (fun vq hq1 hq2 => ?_)
        obtain ⟨rfl, hf⟩ := hq2
        refine Eam_x_goto (tgt := 40) dX11_fits_29 rfl ?_
        refine Eq_ir dX11_fits_40 rfl ?_
        exact ⟨rfl, hf⟩
      · rw [if_neg hm]
        refine Eq_aln dX11_fits_0 rfl ?_
        refine Eq_getR dX11_fits_1 fl_X11_48 (ws_0 hW) rfl (wp_0_6 hW) ?_
        refine Eq_getI dX11_fits_4 fl_X11_146 (ws_9 hW) rfl (by first | assumption | rfl) ?_
        refine Ef_if_eq dX11_fits_7 (tgt := 15) rfl (by exact nI_ne0 (by omega) (by omega)) ?_
        refine Eq_iln dX11_fits_10 rfl ?_
        refine Eq_ic (v := -1) dX11_fits_11 rfl ?_
        refine Et_ic_ge 17 dX11_fits_12 rfl (by exact Int32.not_lt.mp hx) ?_
        refine Eq_iln dX11_fits_17 rfl ?_
        refine Eq_ic (v := -1) dX11_fits_18 rfl ?_
        refine Et_ic_ne 32 dX11_fits_19 rfl (by exact hm) ?_
        refine Eq_aln dX11_fits_32 rfl ?_
        refine Eq_getR dX11_fits_33 fl_X11_73 (ws_0 hW) rfl (wp_0_9 hW) ?_
        refine Eq_iln dX11_fits_36 rfl ?_
        refine Eq_W1 (N := m_X10_fittingRow) dX11_fits_37 lk_X11_281 mV_X10_fittingRow (c_fitRow hW hM hS hK) (by decide) (ws_16 hW) rfl (by decide) (Nat.le_of_ble_eq_true rfl) (Nat.le_of_ble_eq_true rfl) (fun vq hq1 hq2 => ?_)
        obtain ⟨rfl, hf⟩ := hq2
        refine Eq_ir dX11_fits_40 rfl ?_
        exact ⟨rfl, hf⟩
set_option maxHeartbeats 2000000 in
theorem c_sure {h : am_H} {n : Nat} {g : Bool} {F : Nat → Nat → Nat} (hW : Wd h) (hM : MB h n g F) {S T : Nat → Nat} (hS : SB 11 12 13 h n S T) {kn : Nat} {ks : Nat → Nat} {ky : Nat → Bool} (hK : KB 16 3 18 19 h n kn ks ky) {y : Bool} : am_D 6 m_X11_sure [.ref 0, .int (nI (if y = true then 1 else 0))] h (fun v h2 => v = some (.int (suV n g F S T kn ks ky y)) ∧ Fx [] [(16, 6), (16, 7)] h h2) := by
  obtain ⟨hn, hg, h7, hF, hB⟩ := id hM
  unfold suV
  by_cases h0 : n = 0
  · rw [if_pos h0]
    refine Eq_aln dX11_sure_0 rfl ?_
    refine Eq_getR dX11_sure_1 fl_X11_48 (ws_0 hW) rfl (wp_0_6 hW) ?_
    refine Eq_getI dX11_sure_4 fl_X11_146 (ws_9 hW) rfl (by first | assumption | rfl) ?_
    refine Ef_if_ne dX11_sure_7 (tgt := 14) rfl (by rw [h0]; rfl) ?_
    refine Eq_ic (v := -1) dX11_sure_10 rfl ?_
    refine Eam_x_goto (tgt := 22) dX11_sure_11 rfl ?_
    refine Eq_ir dX11_sure_22 rfl ?_
    exact ⟨rfl, Fx.rf⟩
  · rw [if_neg h0]
    refine Eq_aln dX11_sure_0 rfl ?_
    refine Eq_getR dX11_sure_1 fl_X11_48 (ws_0 hW) rfl (wp_0_6 hW) ?_
    refine Eq_getI dX11_sure_4 fl_X11_146 (ws_9 hW) rfl (by first | assumption | rfl) ?_
    refine Et_if_ne 14 dX11_sure_7 rfl (by exact nI_ne0 (by omega) (by omega)) ?_
    refine Eq_aln dX11_sure_14 rfl ?_
    refine Eq_getR dX11_sure_15 fl_X11_73 (ws_0 hW) rfl (wp_0_9 hW) ?_
    refine Eq_iln dX11_sure_18 rfl ?_
    refine Eq_W1 (N := m_X10_certain) dX11_sure_19 lk_X11_284 mV_X10_certain (c_certain hW hM hS hK) (by decide) (ws_16 hW) rfl (by decide) (Nat.le_of_ble_eq_true rfl) (Nat.le_of_ble_eq_true rfl) (fun vq hq1 hq2 => ?_)
    obtain ⟨rfl, hf⟩ := hq2
    refine Eq_ir dX11_sure_22 rfl ?_
    exact ⟨rfl, hf⟩
