/-! the class's search: gains, hopes, judging -/
def AR (h : am_H) (a : List Nat) : Prop := a.length ≤ 7 ∧ ∀ i, i < a.length → am_i h 25 i = nI (sl a i)
def OR' (h : am_H) (l : List Nat) : Prop := l.length ≤ 7 ∧ ∀ i, i < l.length → am_i h 24 i = nI (sl l i)
set_option maxHeartbeats 2000000 in
theorem c_round_lp {h : am_H} {n : Nat} {g : Bool} {F : Nat → Nat → Nat} (hW : Wd h) (hM : MB h n g F) {a : List Nat} (hA : AR h a) (ha : ∀ x ∈ a, x < n)  : ∀ k st p sc, st + k = 7 → p < a.length → sc + 1000 * k ≤ 7000 → ∀ l5, am_Sem 2 m_X0_roundScore 41 [some (.ref 20), some (.int (nI a.length)), some (.int (nI p)), some (.int (nI sc)), some (.int (nI st)), l5] [] h (some (.int (nI (sc + rsx F g a k p))), h) := by
  have h7 := hM.2.2.1
  have hl7 := hA.1
  intro k
  induction k with
  | zero =>
    intro st p sc hk hp hsc l5
    show am_Sem _ _ _ _ _ _ (some (.int (nI (sc + 0))), h)
    refine q_il dX0_roundScore_41 rfl ?_
    refine q_bp (v := nI 7) dX0_roundScore_43 rfl ?_
    refine t_ic_ge 159 dX0_roundScore_45 rfl (by exact nI_le (by omega) (by omega)) ?_
    refine q_iln dX0_roundScore_159 rfl ?_
    refine q_ir dX0_roundScore_160 rfl ?_
    rfl
  | succ k ih =>
    intro st p sc hk hp hsc l5
    have hap := ha _ (sl_mem hp)
    have hpv := hA.2 p hp
    cases hb : bfo g a.length p with
    | none =>
      rw [rsx_n hb]
      have hp0 : p = 0 := by
        unfold bfo at hb
        split at hb
        · cases hb
        · omega
      subst hp0
      cases hg : g with
      | false =>
        have hgz : am_i h 9 1 = nI 0 := by rw [hM.2.1, hg]; rfl
        refine q_il dX0_roundScore_41 rfl ?_
        refine q_bp (v := nI 7) dX0_roundScore_43 rfl ?_
        refine f_ic_ge dX0_roundScore_45 (tgt := 159) rfl (by exact nI_ge (by omega) (by omega)) ?_
        refine q_iln dX0_roundScore_48 rfl ?_
        refine n_if_lt (tgt := 159) dX0_roundScore_49 rfl (by omega) ?_
        refine q_iln dX0_roundScore_52 rfl ?_
        refine q_bp (v := nI 7) dX0_roundScore_53 rfl ?_
        refine f_ic_ge dX0_roundScore_55 (tgt := 159) rfl (by exact nI_ge (by omega) (by omega)) ?_
        refine q_iln dX0_roundScore_58 rfl ?_
        refine f_if_gt dX0_roundScore_59 (tgt := 72) rfl (by decide +kernel) ?_
        refine q_aln dX0_roundScore_62 rfl ?_
        refine q_getR dX0_roundScore_63 fl_X0_9 (ws_20 hW) rfl (wp_20_0 hW) ?_
        refine q_getI dX0_roundScore_66 fl_X0_59 (ws_9 hW) rfl hgz ?_
        refine f_if_ne dX0_roundScore_69 (tgt := 78) rfl (by rfl) ?_
        refine q_iln dX0_roundScore_72 rfl ?_
        refine q_ic (v := nI 1) dX0_roundScore_73 rfl ?_
        refine am_x_pu dX0_roundScore_74 rfl ?_
        refine am_x_goto (tgt := 81) dX0_roundScore_75 rfl ?_
        refine q_is dX0_roundScore_81 (by decide) ?_
        refine am_nl (pc' := 83) (l' := [_, _, _, _, _, _]) rfl rfl ?_
        refine q_il dX0_roundScore_83 rfl ?_
        refine t_if_lt 101 dX0_roundScore_85 rfl (by decide +kernel) ?_
        refine q_iln dX0_roundScore_101 rfl ?_
        refine q_ir dX0_roundScore_102 rfl ?_
        rfl
      | true =>
        have hgo : am_i h 9 1 = nI 1 := by rw [hM.2.1, hg]; rfl
        have hl1 : a.length = 1 := by
          unfold bfo at hb
          rw [if_neg (by omega), hg] at hb
          by_cases e : 1 < a.length
          · rw [if_pos ⟨rfl, e⟩] at hb; cases hb
          · omega
        rw [hl1]
        refine q_il dX0_roundScore_41 rfl ?_
        refine q_bp (v := nI 7) dX0_roundScore_43 rfl ?_
        refine f_ic_ge dX0_roundScore_45 (tgt := 159) rfl (by exact nI_ge (by omega) (by omega)) ?_
        refine q_iln dX0_roundScore_48 rfl ?_
        refine n_if_lt (tgt := 159) dX0_roundScore_49 rfl (by omega) ?_
        refine q_iln dX0_roundScore_52 rfl ?_
        refine q_bp (v := nI 7) dX0_roundScore_53 rfl ?_
        refine f_ic_ge dX0_roundScore_55 (tgt := 159) rfl (by exact nI_ge (by omega) (by omega)) ?_
        refine q_iln dX0_roundScore_58 rfl ?_
        refine f_if_gt dX0_roundScore_59 (tgt := 72) rfl (by decide +kernel) ?_
        refine q_aln dX0_roundScore_62 rfl ?_
        refine q_getR dX0_roundScore_63 fl_X0_9 (ws_20 hW) rfl (wp_20_0 hW) ?_
        refine q_getI dX0_roundScore_66 fl_X0_59 (ws_9 hW) rfl hgo ?_
        refine t_if_ne 78 dX0_roundScore_69 rfl (by exact zf1) ?_
        refine q_iln dX0_roundScore_78 rfl ?_
        refine q_ic (v := nI 1) dX0_roundScore_79 rfl ?_
        first | refine q_sub dX0_roundScore_80 (by omega) ?_ | refine am_x_pu dX0_roundScore_80 rfl ?_
        refine q_is dX0_roundScore_81 (by decide) ?_
        refine am_nl (pc' := 83) (l' := [_, _, _, _, _, _]) rfl rfl ?_
        refine q_il dX0_roundScore_83 rfl ?_
        refine n_if_lt (tgt := 101) dX0_roundScore_85 rfl (by omega) ?_
        refine q_il dX0_roundScore_88 rfl ?_
        refine q_bp (v := nI 7) dX0_roundScore_90 rfl ?_
        refine f_ic_ge dX0_roundScore_92 (tgt := 101) rfl (by exact nI_ge (by omega) (by omega)) ?_
        refine q_il dX0_roundScore_95 rfl ?_
        refine q_iln dX0_roundScore_97 rfl ?_
        refine f_ic_ne dX0_roundScore_98 (tgt := 103) rfl (by rfl) ?_
        refine q_iln dX0_roundScore_101 rfl ?_
        refine q_ir dX0_roundScore_102 rfl ?_
        rfl
    | some b =>
      have hbl : b < a.length := by
        unfold bfo at hb
        split at hb
        · cases hb; omega
        · split at hb
          · cases hb; omega
          · cases hb
      have hab := ha _ (sl_mem hbl)
      have hbv := hA.2 b hbl
      have hbp : b ≠ p := by
        unfold bfo at hb
        split at hb
        · cases hb; omega
        · split at hb
          next e => cases hb; omega
          next => cases hb
      have hd20 := (hM.2.2.2.2 _ hab).2.2.2.1
      have fin : am_Sem 2 m_X0_roundScore 83 [some (.ref 20), some (.int (nI a.length)), some (.int (nI p)), some (.int (nI sc)), some (.int (nI st)), some (.int (nI b))] [] h (some (.int (nI (sc + rsx F g a (k + 1) p))), h) := by
        by_cases hs : swl F (sl a b) (sl a p)
        · rw [rsx_y hb hs]
          refine q_il dX0_roundScore_83 rfl ?_
          refine n_if_lt (tgt := 101) dX0_roundScore_85 rfl (by omega) ?_
          refine q_il dX0_roundScore_88 rfl ?_
          refine q_bp (v := nI 7) dX0_roundScore_90 rfl ?_
          refine f_ic_ge dX0_roundScore_92 (tgt := 101) rfl (by exact nI_ge (by omega) (by omega)) ?_
          refine q_il dX0_roundScore_95 rfl ?_
          refine q_iln dX0_roundScore_97 rfl ?_
          refine t_ic_ne 103 dX0_roundScore_98 rfl (by exact fun z => hbp ((nI_eq (by omega) (by omega)).mp z)) ?_
          refine q_aln dX0_roundScore_103 rfl ?_
          refine q_getR dX0_roundScore_104 fl_X0_9 (ws_20 hW) rfl (wp_20_0 hW) ?_
          refine q_aln dX0_roundScore_107 rfl ?_
          refine q_getR dX0_roundScore_108 fl_X0_37 (ws_20 hW) rfl (wp_20_6 hW) ?_
          refine q_il dX0_roundScore_111 rfl ?_
          refine q_ald dX0_roundScore_113 (ws_25 hW) (by omega) (by omega) (by first | exact hbv | exact hpv) ?_
          refine q_aln dX0_roundScore_114 rfl ?_
          refine q_getR dX0_roundScore_115 fl_X0_37 (ws_20 hW) rfl (wp_20_6 hW) ?_
          refine q_iln dX0_roundScore_118 rfl ?_
          refine q_ald dX0_roundScore_119 (ws_25 hW) (by omega) (by omega) (by first | exact hbv | exact hpv) ?_
          refine q_V2 (N := m_X5_swallows) dX0_roundScore_120 lk_X0_162 mV_X5_swallows (c_swallows hW hM hab hap) (by decide) (ws_9 hW) rfl (by decide) (Nat.le_of_ble_eq_true rfl) (Nat.le_of_ble_eq_true rfl) ?_
          refine f_if_eq dX0_roundScore_123 (tgt := 128) rfl (by rw [if_pos hs]; exact zf1) ?_
          refine q_iln dX0_roundScore_126 rfl ?_
          refine q_ir dX0_roundScore_127 rfl ?_
          rfl
        · rw [rsx_o hb hs]
          refine q_il dX0_roundScore_83 rfl ?_
          refine n_if_lt (tgt := 101) dX0_roundScore_85 rfl (by omega) ?_
          refine q_il dX0_roundScore_88 rfl ?_
          refine q_bp (v := nI 7) dX0_roundScore_90 rfl ?_
          refine f_ic_ge dX0_roundScore_92 (tgt := 101) rfl (by exact nI_ge (by omega) (by omega)) ?_
          refine q_il dX0_roundScore_95 rfl ?_
          refine q_iln dX0_roundScore_97 rfl ?_
          refine t_ic_ne 103 dX0_roundScore_98 rfl (by exact fun z => hbp ((nI_eq (by omega) (by omega)).mp z)) ?_
          refine q_aln dX0_roundScore_103 rfl ?_
          refine q_getR dX0_roundScore_104 fl_X0_9 (ws_20 hW) rfl (wp_20_0 hW) ?_
          refine q_aln dX0_roundScore_107 rfl ?_
          refine q_getR dX0_roundScore_108 fl_X0_37 (ws_20 hW) rfl (wp_20_6 hW) ?_
          refine q_il dX0_roundScore_111 rfl ?_
          refine q_ald dX0_roundScore_113 (ws_25 hW) (by omega) (by omega) (by first | exact hbv | exact hpv) ?_
          refine q_aln dX0_roundScore_114 rfl ?_
          refine q_getR dX0_roundScore_115 fl_X0_37 (ws_20 hW) rfl (wp_20_6 hW) ?_
          refine q_iln dX0_roundScore_118 rfl ?_
          refine q_ald dX0_roundScore_119 (ws_25 hW) (by omega) (by omega) (by first | exact hbv | exact hpv) ?_
          refine q_V2 (N := m_X5_swallows) dX0_roundScore_120 lk_X0_162 mV_X5_swallows (c_swallows hW hM hab hap) (by decide) (ws_9 hW) rfl (by decide) (Nat.le_of_ble_eq_true rfl) (Nat.le_of_ble_eq_true rfl) ?_
          refine t_if_eq 128 dX0_roundScore_123 rfl (by rw [if_neg hs]; rfl) ?_
          refine q_iln dX0_roundScore_128 rfl ?_
          refine q_sp (v := nI 1000) dX0_roundScore_129 rfl ?_
          refine q_aln dX0_roundScore_132 rfl ?_
          refine q_getR dX0_roundScore_133 fl_X0_9 (ws_20 hW) rfl (wp_20_0 hW) ?_
          refine q_ic (v := nI 1) dX0_roundScore_136 rfl ?_
          refine q_aln dX0_roundScore_137 rfl ?_
          refine q_getR dX0_roundScore_138 fl_X0_37 (ws_20 hW) rfl (wp_20_6 hW) ?_
          refine q_il dX0_roundScore_141 rfl ?_
          refine q_ald dX0_roundScore_143 (ws_25 hW) (by omega) (by omega) (by first | exact hbv | exact hpv) ?_
          refine q_V2 (N := m_X5_fact) dX0_roundScore_144 lk_X0_81 mV_X5_fact (c_fact hW hM (by omega) hab) (by decide) (ws_9 hW) rfl (by decide) (Nat.le_of_ble_eq_true rfl) (Nat.le_of_ble_eq_true rfl) ?_
          first | refine q_sub dX0_roundScore_147 (by omega) ?_ | refine am_x_pu dX0_roundScore_147 rfl ?_
          first | refine q_add dX0_roundScore_148 ?_ | refine am_x_pu dX0_roundScore_148 rfl ?_
          refine q_isn dX0_roundScore_149 (by decide) ?_
          refine am_nl (pc' := 150) (l' := [_, _, _, _, _, _]) rfl rfl ?_
          refine q_il dX0_roundScore_150 rfl ?_
          refine q_isn dX0_roundScore_152 (by decide) ?_
          refine am_nl (pc' := 153) (l' := [_, _, _, _, _, _]) rfl rfl ?_
          refine q_inc dX0_roundScore_153 rfl (by decide) ?_
          refine am_nl (pc' := 156) (l' := [_, _, _, _, _, _]) rfl rfl ?_
          refine am_x_goto (tgt := 41) dX0_roundScore_156 rfl ?_
          have z := ih (st + 1) b (sc + (1000 - F 1 (sl a b))) (by omega) hbl (by omega) (some (.int (nI b)))
          rw [Nat.add_assoc] at z
          exact z
      by_cases hp0 : 0 < p
      · have hbe : b = p - 1 := by unfold bfo at hb; rw [if_pos hp0] at hb; cases hb; rfl
        rw [hbe] at fin
        refine q_il dX0_roundScore_41 rfl ?_
        refine q_bp (v := nI 7) dX0_roundScore_43 rfl ?_
        refine f_ic_ge dX0_roundScore_45 (tgt := 159) rfl (by exact nI_ge (by omega) (by omega)) ?_
        refine q_iln dX0_roundScore_48 rfl ?_
        refine n_if_lt (tgt := 159) dX0_roundScore_49 rfl (by omega) ?_
        refine q_iln dX0_roundScore_52 rfl ?_
        refine q_bp (v := nI 7) dX0_roundScore_53 rfl ?_
        refine f_ic_ge dX0_roundScore_55 (tgt := 159) rfl (by exact nI_ge (by omega) (by omega)) ?_
        refine q_iln dX0_roundScore_58 rfl ?_
        refine t_if_gt 72 dX0_roundScore_59 rfl (by exact nI_lt (a := 0) hp0 (by omega)) ?_
        refine q_iln dX0_roundScore_72 rfl ?_
        refine q_ic (v := nI 1) dX0_roundScore_73 rfl ?_
        first | refine q_sub dX0_roundScore_74 (by omega) ?_ | refine am_x_pu dX0_roundScore_74 rfl ?_
        refine am_x_goto (tgt := 81) dX0_roundScore_75 rfl ?_
        refine q_is dX0_roundScore_81 (by decide) ?_
        refine am_nl (pc' := 83) (l' := [_, _, _, _, _, _]) rfl rfl ?_
        exact fin
      · have hp0' : p = 0 := by omega
        subst hp0'
        have hbe : g = true ∧ b = a.length - 1 := by
          unfold bfo at hb
          rw [if_neg hp0] at hb
          split at hb
          next e => cases hb; exact ⟨e.1, rfl⟩
          next => cases hb
        have hgo : am_i h 9 1 = nI 1 := by rw [hM.2.1, hbe.1]; rfl
        rw [hbe.2] at fin
        refine q_il dX0_roundScore_41 rfl ?_
        refine q_bp (v := nI 7) dX0_roundScore_43 rfl ?_
        refine f_ic_ge dX0_roundScore_45 (tgt := 159) rfl (by exact nI_ge (by omega) (by omega)) ?_
        refine q_iln dX0_roundScore_48 rfl ?_
        refine n_if_lt (tgt := 159) dX0_roundScore_49 rfl (by omega) ?_
        refine q_iln dX0_roundScore_52 rfl ?_
        refine q_bp (v := nI 7) dX0_roundScore_53 rfl ?_
        refine f_ic_ge dX0_roundScore_55 (tgt := 159) rfl (by exact nI_ge (by omega) (by omega)) ?_
        refine q_iln dX0_roundScore_58 rfl ?_
        refine f_if_gt dX0_roundScore_59 (tgt := 72) rfl (by decide +kernel) ?_
        refine q_aln dX0_roundScore_62 rfl ?_
        refine q_getR dX0_roundScore_63 fl_X0_9 (ws_20 hW) rfl (wp_20_0 hW) ?_
        refine q_getI dX0_roundScore_66 fl_X0_59 (ws_9 hW) rfl hgo ?_
        refine t_if_ne 78 dX0_roundScore_69 rfl (by exact zf1) ?_
        refine q_iln dX0_roundScore_78 rfl ?_
        refine q_ic (v := nI 1) dX0_roundScore_79 rfl ?_
        first | refine q_sub dX0_roundScore_80 (by omega) ?_ | refine am_x_pu dX0_roundScore_80 rfl ?_
        refine q_is dX0_roundScore_81 (by decide) ?_
        refine am_nl (pc' := 83) (l' := [_, _, _, _, _, _]) rfl rfl ?_
        exact fin
set_option maxHeartbeats 2000000 in
theorem c_fnd_lp {h : am_H} (hW : Wd h) {a : List Nat} (hA : AR h a) (hs7 : ∀ i, i < a.length → sl a i < 7) {v : Int32} (kk : ∀ j, am_Sem 2 m_X0_roundScore 36 [some (.ref 20), some (.int (nI a.length)), some (.int (oN (fnd a a.length))), some (.int (nI j)), none, none] [] h (some (.int v), h)) : ∀ q j, j + q = a.length → am_Sem 2 m_X0_roundScore 4 [some (.ref 20), some (.int (nI a.length)), some (.int (oN (fnd a j))), some (.int (nI j)), none, none] [] h (some (.int v), h) := by
  have hl7 := hA.1
  intro q
  induction q with
  | zero =>
    intro j hj
    have hjl : j = a.length := by omega
    subst hjl
    refine q_iln dX0_roundScore_4 rfl ?_
    refine q_iln dX0_roundScore_5 rfl ?_
    refine t_ic_ge 36 dX0_roundScore_6 rfl (by exact nI_le (by omega) (by omega)) ?_
    exact kk a.length
  | succ q ih =>
    intro j hj
    have hv := hA.2 j (by omega)
    by_cases e : sl a j = 0
    · have e2 : fnd a (j + 1) = some j := if_pos e
      have z := ih (j + 1) (by omega)
      rw [e2] at z
      refine q_iln dX0_roundScore_4 rfl ?_
      refine q_iln dX0_roundScore_5 rfl ?_
      refine f_ic_ge dX0_roundScore_6 (tgt := 36) rfl (by exact nI_ge (by omega) (by omega)) ?_
      refine q_iln dX0_roundScore_9 rfl ?_
      refine q_bp (v := nI 7) dX0_roundScore_10 rfl ?_
      refine f_ic_ge dX0_roundScore_12 (tgt := 36) rfl (by exact nI_ge (by omega) (by omega)) ?_
      refine q_aln dX0_roundScore_15 rfl ?_
      refine q_getR dX0_roundScore_16 fl_X0_37 (ws_20 hW) rfl (wp_20_6 hW) ?_
      refine q_iln dX0_roundScore_19 rfl ?_
      refine q_ald dX0_roundScore_20 (ws_25 hW) (by omega) (by omega) hv ?_
      refine f_if_ne dX0_roundScore_21 (tgt := 28) rfl (by rw [e]; rfl) ?_
      refine q_iln dX0_roundScore_24 rfl ?_
      refine am_x_goto (tgt := 29) dX0_roundScore_25 rfl ?_
      refine q_isn dX0_roundScore_29 (by decide) ?_
      refine am_nl (pc' := 30) (l' := [_, _, _, _, _, _]) rfl rfl ?_
      refine q_inc dX0_roundScore_30 rfl (by decide) ?_
      refine am_nl (pc' := 33) (l' := [_, _, _, _, _, _]) rfl rfl ?_
      refine am_x_goto (tgt := 4) dX0_roundScore_33 rfl ?_
      exact z
    · have hne : ¬ nI (sl a j) = 0 := fun z => e ((n_0 (by have := hs7 j (by omega); omega)).mp z)
      have e2 : fnd a (j + 1) = fnd a j := if_neg e
      have z := ih (j + 1) (by omega)
      rw [e2] at z
      refine q_iln dX0_roundScore_4 rfl ?_
      refine q_iln dX0_roundScore_5 rfl ?_
      refine f_ic_ge dX0_roundScore_6 (tgt := 36) rfl (by exact nI_ge (by omega) (by omega)) ?_
      refine q_iln dX0_roundScore_9 rfl ?_
      refine q_bp (v := nI 7) dX0_roundScore_10 rfl ?_
      refine f_ic_ge dX0_roundScore_12 (tgt := 36) rfl (by exact nI_ge (by omega) (by omega)) ?_
      refine q_aln dX0_roundScore_15 rfl ?_
      refine q_getR dX0_roundScore_16 fl_X0_37 (ws_20 hW) rfl (wp_20_6 hW) ?_
      refine q_iln dX0_roundScore_19 rfl ?_
      refine q_ald dX0_roundScore_20 (ws_25 hW) (by omega) (by omega) hv ?_
      refine t_if_ne 28 dX0_roundScore_21 rfl (by exact fun z => hne z) ?_
      refine q_iln dX0_roundScore_28 rfl ?_
      refine q_isn dX0_roundScore_29 (by decide) ?_
      refine am_nl (pc' := 30) (l' := [_, _, _, _, _, _]) rfl rfl ?_
      refine q_inc dX0_roundScore_30 rfl (by decide) ?_
      refine am_nl (pc' := 33) (l' := [_, _, _, _, _, _]) rfl rfl ?_
      refine am_x_goto (tgt := 4) dX0_roundScore_33 rfl ?_
      exact z
set_option maxHeartbeats 2000000 in
theorem c_roundScore {h : am_H} {n : Nat} {g : Bool} {F : Nat → Nat → Nat} (hW : Wd h) (hM : MB h n g F) {a : List Nat} (hA : AR h a) (ha : ∀ x ∈ a, x < n)  : am_C 2 m_X0_roundScore [.ref 20, .int (nI a.length)] h (some (.int (nI (rs F g a))), h) := by
  have h7 := hM.2.2.1
  have hl7 := hA.1
  refine q_ic (v := -1) dX0_roundScore_0 rfl ?_
  refine q_isn dX0_roundScore_1 (by decide) ?_
  refine am_nl (pc' := 2) (l' := [_, _, _, _, _, _]) rfl rfl ?_
  refine q_ic (v := nI 0) dX0_roundScore_2 rfl ?_
  refine q_isn dX0_roundScore_3 (by decide) ?_
  refine am_nl (pc' := 4) (l' := [_, _, _, _, _, _]) rfl rfl ?_
  refine c_fnd_lp hW hA (fun i hi => by have := ha _ (sl_mem hi); omega) (fun j => ?_) a.length 0 (by omega)
  unfold rs
  cases hf : fnd a a.length with
  | none =>
    refine q_ic (v := nI 0) dX0_roundScore_36 rfl ?_
    refine q_isn dX0_roundScore_37 (by decide) ?_
    refine am_nl (pc' := 38) (l' := [_, _, _, _, _, _]) rfl rfl ?_
    refine q_ic (v := nI 0) dX0_roundScore_38 rfl ?_
    refine q_is dX0_roundScore_39 (by decide) ?_
    refine am_nl (pc' := 41) (l' := [_, _, _, _, _, _]) rfl rfl ?_
    refine q_il dX0_roundScore_41 rfl ?_
    refine q_bp (v := nI 7) dX0_roundScore_43 rfl ?_
    refine f_ic_ge dX0_roundScore_45 (tgt := 159) rfl (by decide +kernel) ?_
    refine q_iln dX0_roundScore_48 rfl ?_
    refine t_if_lt 159 dX0_roundScore_49 rfl (by decide +kernel) ?_
    refine q_iln dX0_roundScore_159 rfl ?_
    refine q_ir dX0_roundScore_160 rfl ?_
    rfl
  | some p =>
    have hp := (fnd_lt hf).1
    refine q_ic (v := nI 0) dX0_roundScore_36 rfl ?_
    refine q_isn dX0_roundScore_37 (by decide) ?_
    refine am_nl (pc' := 38) (l' := [_, _, _, _, _, _]) rfl rfl ?_
    refine q_ic (v := nI 0) dX0_roundScore_38 rfl ?_
    refine q_is dX0_roundScore_39 (by decide) ?_
    refine am_nl (pc' := 41) (l' := [_, _, _, _, _, _]) rfl rfl ?_
    have z := c_round_lp hW hM hA ha 7 0 p 0 (by omega) hp (by omega) none
    rw [Nat.zero_add] at z
    exact z
set_option maxHeartbeats 2000000 in
theorem c_keptWorth {h : am_H} (hW : Wd h) {a b s : Nat} (ha : a < 7) (hb : b < 7) (hs : s < 7) {v : Int32} (hv : am_i h 22 ((a * 7 + b) * 7 + s) = v) : am_C 0 m_X0_keptWorth [.ref 20, .int (nI a), .int (nI b), .int (nI s)] h (some (.int v), h) := by
  refine q_iln dX0_keptWorth_0 rfl ?_
  refine q_bp (v := nI 7) dX0_keptWorth_1 rfl ?_
  first | refine q_mul dX0_keptWorth_3 ?_ | refine am_x_pu dX0_keptWorth_3 rfl ?_
  refine q_iln dX0_keptWorth_4 rfl ?_
  first | refine q_add dX0_keptWorth_5 ?_ | refine am_x_pu dX0_keptWorth_5 rfl ?_
  refine q_bp (v := nI 7) dX0_keptWorth_6 rfl ?_
  first | refine q_mul dX0_keptWorth_8 ?_ | refine am_x_pu dX0_keptWorth_8 rfl ?_
  refine q_iln dX0_keptWorth_9 rfl ?_
  first | refine q_add dX0_keptWorth_10 ?_ | refine am_x_pu dX0_keptWorth_10 rfl ?_
  refine q_is dX0_keptWorth_11 (by decide) ?_
  refine am_nl (pc' := 13) (l' := [_, _, _, _, _]) rfl rfl ?_
  refine q_il dX0_keptWorth_13 rfl ?_
  refine n_if_lt (tgt := 38) dX0_keptWorth_15 rfl (by omega) ?_
  refine q_il dX0_keptWorth_18 rfl ?_
  refine q_aln dX0_keptWorth_20 rfl ?_
  refine q_getR dX0_keptWorth_21 fl_X0_28 (ws_20 hW) rfl (wp_20_3 hW) ?_
  refine am_x_alen dX0_keptWorth_24 (ws_22 hW) (by decide) ?_
  refine f_ic_ge dX0_keptWorth_25 (tgt := 38) rfl (by exact nI_ge (b := 343) (by omega) (by omega)) ?_
  refine q_aln dX0_keptWorth_28 rfl ?_
  refine q_getR dX0_keptWorth_29 fl_X0_28 (ws_20 hW) rfl (wp_20_3 hW) ?_
  refine q_il dX0_keptWorth_32 rfl ?_
  refine q_ald dX0_keptWorth_34 (ws_22 hW) (by omega) (by omega) hv ?_
  refine am_x_goto (tgt := 39) dX0_keptWorth_35 rfl ?_
  refine q_ir dX0_keptWorth_39 rfl ?_
  rfl
