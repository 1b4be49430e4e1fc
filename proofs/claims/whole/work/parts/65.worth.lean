/-! the class works manners out -/
def SM (f : Nat → Int32) : List Int32 → Prop
  | [] => True
  | v :: st => f st.length = v ∧ SM f st
theorem SM_cong {f g : Nat → Int32} : ∀ {st : List Int32}, SM f st → (∀ i, i < st.length → g i = f i) → SM g st
  | [], _, _ => trivial
  | v :: st, h, hg => ⟨(hg st.length (by simp)).trans h.1, SM_cong h.2 (fun i hi => hg i (by simp only [List.length_cons]; omega))⟩
/-- manners that are told: the object, its signs, its stack -/
def MN (h : am_H) (r s t : Nat) (l : List Int32) : Prop := am_s h r = some (3, 0) ∧ am_p h r 0 = some s ∧ am_p h r 1 = some t ∧ am_s h s = some (100, l.length) ∧ am_s h t = some (100, l.length + 1) ∧ l.length ≤ 160 ∧ (∀ i, i < l.length → am_i h s i = l.getD i 0) ∧ s ≠ r ∧ s ≠ t ∧ r ≠ t ∧ 80 ≤ r ∧ 80 ≤ s ∧ 80 ≤ t
theorem MN.fx {A : List Nat} {B : List (Nat × Nat)} {h h' : am_H} {r s t : Nat} {l : List Int32} (m : MN h r s t l) (a : Fx A B h h') (hs : s ∉ A) (hb : s ∉ B.map Prod.fst) : MN h' r s t l := by
  obtain ⟨m1, m2, m3, m4, m5, m6, m7, m8⟩ := m
  have e1 : am_s h' = am_s h := by unfold am_s; rw [a.1]
  have e2 : am_p h' = am_p h := by unfold am_p; rw [a.2.1]
  refine ⟨by rw [e1]; exact m1, by rw [e2]; exact m2, by rw [e2]; exact m3, by rw [e1]; exact m4, by rw [e1]; exact m5, m6, ?_, m8⟩
  rw [a.ia hs hb]
  exact m7
/-- its stack -/
def ST (h : am_H) (r t : Nat) (st : List Int32) : Prop := am_i h r 2 = nI st.length ∧ SM (am_i h t) st
theorem ST.push {h : am_H} {r t : Nat} {st : List Int32} (m : ST h r t st) (hrt : r ≠ t) (v : Int32) : ST (am_wI (am_wI h t st.length v) r 2 (nI (st.length + 1))) r t (v :: st) := by
  refine ⟨by rw [wI_e0]; rfl, ?_, ?_⟩
  · rw [wI_ne (Ne.symm hrt), wI_e0]
  · rw [wI_ne (Ne.symm hrt)]
    exact SM_cong m.2 (fun i hi => by rw [wI_eq, if_neg (by omega)])
theorem ST.pop {h : am_H} {r t : Nat} {v : Int32} {st : List Int32} (m : ST h r t (v :: st)) (hrt : r ≠ t) : ST (am_wI h r 2 (nI st.length)) r t st := by
  refine ⟨by rw [wI_e0], ?_⟩
  rw [wI_ne (Ne.symm hrt)]
  exact m.2.2
set_option maxHeartbeats 2000000 in
theorem c_push {h : am_H} {r s t : Nat} {l : List Int32} (hN : MN h r s t l) {st : List Int32} (hT : ST h r t st) (hl : st.length ≤ l.length) {v : Int32} : am_C 0 m_X3_push [.ref r, .int v] h (none, am_wI (am_wI h t st.length v) r 2 (nI (st.length + 1))) := by
  obtain ⟨hsr, hps, hpt, hss, hst_, hl6, hsg, hn1, hn2, hn3, hr8, hs8, ht8⟩ := id hN
  have htop := hT.1
  have htop2 : am_i (am_wI h t st.length v) r 2 = nI st.length := by rw [wI_ne hn3]; exact htop
  refine q_aln dX3_push_0 rfl ?_
  refine q_getI dX3_push_1 fl_X3_33 hsr rfl (by first | exact htop | exact htop2) ?_
  refine n_if_lt (tgt := 39) dX3_push_4 rfl (by omega) ?_
  refine q_aln dX3_push_7 rfl ?_
  refine q_getI dX3_push_8 fl_X3_33 hsr rfl (by first | exact htop | exact htop2) ?_
  refine q_aln dX3_push_11 rfl ?_
  refine q_getR dX3_push_12 fl_X3_30 hsr rfl (by assumption) ?_
  refine am_x_alen dX3_push_15 hst_ (by decide) ?_
  refine f_ic_ge dX3_push_16 (tgt := 39) rfl (by exact nI_ge (b := l.length + 1) (by omega) (by omega)) ?_
  refine q_aln dX3_push_19 rfl ?_
  refine q_getR dX3_push_20 fl_X3_30 hsr rfl (by assumption) ?_
  refine q_aln dX3_push_23 rfl ?_
  refine q_getI dX3_push_24 fl_X3_33 hsr rfl (by first | exact htop | exact htop2) ?_
  refine q_iln dX3_push_27 rfl ?_
  refine q_ast dX3_push_28 hst_ (by omega) (by omega) ?_
  refine q_aln dX3_push_29 rfl ?_
  refine am_x_pu dX3_push_30 rfl ?_
  refine q_getI dX3_push_31 fl_X3_33 hsr rfl (by first | exact htop | exact htop2) ?_
  refine q_ic (v := nI 1) dX3_push_34 rfl ?_
  first | refine q_add dX3_push_35 ?_ | refine am_x_pu dX3_push_35 rfl ?_
  refine am_x_putI dX3_push_36 (fw_X3_33 rfl) hsr (Or.inl rfl) ?_
  refine q_vr dX3_push_39 rfl ?_
  rfl
set_option maxHeartbeats 2000000 in
theorem c_pop {h : am_H} {r s t : Nat} {l : List Int32} (hN : MN h r s t l) {st : List Int32} {v : Int32} (hT : ST h r t (v :: st)) (hl : (v :: st).length ≤ l.length + 1) : am_C 0 m_X3_pop [.ref r] h (some (.int v), am_wI h r 2 (nI st.length)) := by
  obtain ⟨hsr, hps, hpt, hss, hst_, hl6, hsg, hn1, hn2, hn3, hr8, hs8, ht8⟩ := id hN
  have htop : am_i h r 2 = nI (st.length + 1) := hT.1
  have hv : am_i (am_wI h r 2 (nI (st.length + 1 - 1))) t st.length = v := by rw [wI_ne (Ne.symm hn3)]; exact hT.2.1
  simp only [List.length_cons] at hl
  refine q_aln dX3_pop_0 rfl ?_
  refine q_getI dX3_pop_1 fl_X3_33 hsr rfl (by first | exact htop | exact wI_e0) ?_
  refine f_if_le dX3_pop_4 (tgt := 19) rfl (by exact fun z => absurd ((n_le0 (by omega)).mp z) (by omega)) ?_
  refine q_aln dX3_pop_7 rfl ?_
  refine q_getI dX3_pop_8 fl_X3_33 hsr rfl (by first | exact htop | exact wI_e0) ?_
  refine q_aln dX3_pop_11 rfl ?_
  refine q_getR dX3_pop_12 fl_X3_30 hsr rfl (by assumption) ?_
  refine am_x_alen dX3_pop_15 hst_ (by decide) ?_
  refine t_ic_le 21 dX3_pop_16 rfl (by exact nI_le (b := l.length + 1) (by omega) (by omega)) ?_
  refine q_aln dX3_pop_21 rfl ?_
  refine am_x_pu dX3_pop_22 rfl ?_
  refine q_getI dX3_pop_23 fl_X3_33 hsr rfl (by first | exact htop | exact wI_e0) ?_
  refine q_ic (v := nI 1) dX3_pop_26 rfl ?_
  first | refine q_sub dX3_pop_27 (by omega) ?_ | refine am_x_pu dX3_pop_27 rfl ?_
  refine am_x_putI dX3_pop_28 (fw_X3_33 rfl) hsr (Or.inl rfl) ?_
  refine q_aln dX3_pop_31 rfl ?_
  refine q_getR dX3_pop_32 fl_X3_30 hsr rfl (by assumption) ?_
  refine q_aln dX3_pop_35 rfl ?_
  refine q_getI dX3_pop_36 fl_X3_33 hsr rfl (by first | exact htop | exact wI_e0) ?_
  refine q_ald dX3_pop_39 hst_ (by omega) (by omega) hv ?_
  refine q_ir dX3_pop_40 rfl ?_
  rfl
theorem opv_2 {x y : Int32} : opv 2 x y = bnd (x.toInt64 + y.toInt64) := by
  unfold opv
  rw [if_pos rfl]
theorem opv_3 {x y : Int32} : opv 3 x y = bnd (x.toInt64 - y.toInt64) := by
  unfold opv
  rw [if_neg (by decide), if_pos rfl]
theorem opv_4 {x y : Int32} : opv 4 x y = bnd (x.toInt64 * y.toInt64) := by
  unfold opv
  rw [if_neg (by decide), if_neg (by decide), if_pos rfl]
theorem opv_5 {x y : Int32} : opv 5 x y = if y = 0 then 0 else bnd (x.toInt64 / y.toInt64) := by
  unfold opv
  rw [if_neg (by decide), if_neg (by decide), if_neg (by decide), if_pos rfl]
theorem opv_6 {x y : Int32} : opv 6 x y = if x = y then 1 else 0 := by
  unfold opv
  rw [if_neg (by decide), if_neg (by decide), if_neg (by decide), if_neg (by decide), if_pos rfl]
theorem opv_7 {x y : Int32} : opv 7 x y = if x < y then 1 else 0 := by
  unfold opv
  rw [if_neg (by decide), if_neg (by decide), if_neg (by decide), if_neg (by decide), if_neg (by decide), if_pos rfl]
theorem opv_8 {x y : Int32} : opv 8 x y = if y < x then 1 else 0 := by
  unfold opv
  rw [if_neg (by decide), if_neg (by decide), if_neg (by decide), if_neg (by decide), if_neg (by decide), if_neg (by decide), if_pos rfl]
theorem opv_10 {x y : Int32} : opv 10 x y = x &&& y := by
  unfold opv
  rw [if_neg (by decide), if_neg (by decide), if_neg (by decide), if_neg (by decide), if_neg (by decide), if_neg (by decide), if_neg (by decide), if_pos rfl]
theorem opv_11 {x y : Int32} : opv 11 x y = x ||| y := by
  unfold opv
  rw [if_neg (by decide), if_neg (by decide), if_neg (by decide), if_neg (by decide), if_neg (by decide), if_neg (by decide), if_neg (by decide), if_neg (by decide)]
set_option maxHeartbeats 2000000 in
theorem c_truth_6 {h : am_H} {x y : Int32} : am_C 0 m_X3_truth [.int (nI 61), .int x, .int y] h (some (.int (opv 6 x y)), h) := by
  rw [opv_6]
  by_cases hc : x = y
  · rw [if_pos hc]
    refine q_iln dX3_truth_0 rfl ?_
    refine am_x_lkp (tgt := 44) dX3_truth_1 (by decide +kernel) rfl rfl ?_
    refine q_iln dX3_truth_44 rfl ?_
    refine q_iln dX3_truth_45 rfl ?_
    refine f_ic_ne dX3_truth_46 (tgt := 53) rfl (by exact hc) ?_
    refine q_ic (v := nI 1) dX3_truth_49 rfl ?_
    refine am_x_goto (tgt := 54) dX3_truth_50 rfl ?_
    refine q_ir dX3_truth_54 rfl ?_
    rfl
  · rw [if_neg hc]
    refine q_iln dX3_truth_0 rfl ?_
    refine am_x_lkp (tgt := 44) dX3_truth_1 (by decide +kernel) rfl rfl ?_
    refine q_iln dX3_truth_44 rfl ?_
    refine q_iln dX3_truth_45 rfl ?_
    refine t_ic_ne 53 dX3_truth_46 rfl (by exact hc) ?_
    refine q_ic (v := nI 0) dX3_truth_53 rfl ?_
    refine q_ir dX3_truth_54 rfl ?_
    rfl
set_option maxHeartbeats 2000000 in
theorem c_truth_7 {h : am_H} {x y : Int32} : am_C 0 m_X3_truth [.int (nI 60), .int x, .int y] h (some (.int (opv 7 x y)), h) := by
  rw [opv_7]
  by_cases hc : x < y
  · rw [if_pos hc]
    refine q_iln dX3_truth_0 rfl ?_
    refine am_x_lkp (tgt := 55) dX3_truth_1 (by decide +kernel) rfl rfl ?_
    refine q_iln dX3_truth_55 rfl ?_
    refine q_iln dX3_truth_56 rfl ?_
    refine f_ic_ge dX3_truth_57 (tgt := 64) rfl (by exact Int32.not_le.mpr hc) ?_
    refine q_ic (v := nI 1) dX3_truth_60 rfl ?_
    refine am_x_goto (tgt := 65) dX3_truth_61 rfl ?_
    refine q_ir dX3_truth_65 rfl ?_
    rfl
  · rw [if_neg hc]
    refine q_iln dX3_truth_0 rfl ?_
    refine am_x_lkp (tgt := 55) dX3_truth_1 (by decide +kernel) rfl rfl ?_
    refine q_iln dX3_truth_55 rfl ?_
    refine q_iln dX3_truth_56 rfl ?_
    refine t_ic_ge 64 dX3_truth_57 rfl (by exact Int32.not_lt.mp hc) ?_
    refine q_ic (v := nI 0) dX3_truth_64 rfl ?_
    refine q_ir dX3_truth_65 rfl ?_
    rfl
set_option maxHeartbeats 2000000 in
theorem c_truth_8 {h : am_H} {x y : Int32} : am_C 0 m_X3_truth [.int (nI 62), .int x, .int y] h (some (.int (opv 8 x y)), h) := by
  rw [opv_8]
  by_cases hc : y < x
  · rw [if_pos hc]
    refine q_iln dX3_truth_0 rfl ?_
    refine am_x_lkp (tgt := 66) dX3_truth_1 (by decide +kernel) rfl rfl ?_
    refine q_iln dX3_truth_66 rfl ?_
    refine q_iln dX3_truth_67 rfl ?_
    refine f_ic_le dX3_truth_68 (tgt := 75) rfl (by exact Int32.not_le.mpr hc) ?_
    refine q_ic (v := nI 1) dX3_truth_71 rfl ?_
    refine am_x_goto (tgt := 76) dX3_truth_72 rfl ?_
    refine q_ir dX3_truth_76 rfl ?_
    rfl
  · rw [if_neg hc]
    refine q_iln dX3_truth_0 rfl ?_
    refine am_x_lkp (tgt := 66) dX3_truth_1 (by decide +kernel) rfl rfl ?_
    refine q_iln dX3_truth_66 rfl ?_
    refine q_iln dX3_truth_67 rfl ?_
    refine t_ic_le 75 dX3_truth_68 rfl (by exact Int32.not_lt.mp hc) ?_
    refine q_ic (v := nI 0) dX3_truth_75 rfl ?_
    refine q_ir dX3_truth_76 rfl ?_
    rfl
set_option maxHeartbeats 2000000 in
theorem c_truth_10 {h : am_H} {x y : Int32} : am_C 0 m_X3_truth [.int (nI 38), .int x, .int y] h (some (.int (opv 10 x y)), h) := by
  rw [opv_10]
  refine q_iln dX3_truth_0 rfl ?_
  refine am_x_lkp (tgt := 77) dX3_truth_1 (by decide +kernel) rfl rfl ?_
  refine q_iln dX3_truth_77 rfl ?_
  refine q_iln dX3_truth_78 rfl ?_
  refine am_x_pu dX3_truth_79 rfl ?_
  refine q_ir dX3_truth_80 rfl ?_
  rfl
set_option maxHeartbeats 2000000 in
theorem c_truth_11 {h : am_H} {x y : Int32} : am_C 0 m_X3_truth [.int (nI 124), .int x, .int y] h (some (.int (opv 11 x y)), h) := by
  rw [opv_11]
  refine q_iln dX3_truth_0 rfl ?_
  refine am_x_lkp (tgt := 81) dX3_truth_1 (by decide +kernel) rfl rfl ?_
  refine q_iln dX3_truth_81 rfl ?_
  refine q_iln dX3_truth_82 rfl ?_
  refine am_x_pu dX3_truth_83 rfl ?_
  refine q_ir dX3_truth_84 rfl ?_
  rfl
set_option maxHeartbeats 2000000 in
theorem c_bound {h : am_H} {l0 l1 l2 l3 l4 l6 : Option Value} {v : Int64} : am_Sem 0 m_X3_bounded 75 [l0, l1, l2, l3, l4, some (.long v), l6] [] h (some (.int (bnd v)), h) := by
  unfold bnd
  by_cases h1 : (1000000 : Int64) < v
  · rw [if_pos h1]
    refine q_ll dX3_bounded_75 rfl ?_
    refine am_x_ldc2 dX3_bounded_77 kc_X3_68 ?_
    refine am_x_pu dX3_bounded_80 rfl ?_
    refine f_if_le dX3_bounded_81 (tgt := 87) rfl (by rw [lg_cmp_le]; exact Int64.not_le.mpr h1) ?_
    refine am_x_ldc dX3_bounded_84 kc_X3_70 ?_
    refine q_ir dX3_bounded_86 rfl ?_
    rfl
  · rw [if_neg h1]
    by_cases h2 : v < -1000000
    · rw [if_pos h2]
      refine q_ll dX3_bounded_75 rfl ?_
      refine am_x_ldc2 dX3_bounded_77 kc_X3_68 ?_
      refine am_x_pu dX3_bounded_80 rfl ?_
      refine t_if_le 87 dX3_bounded_81 rfl (by rw [lg_cmp_le]; exact Int64.not_lt.mp h1) ?_
      refine q_ll dX3_bounded_87 rfl ?_
      refine am_x_ldc2 dX3_bounded_89 kc_X3_71 ?_
      refine am_x_pu dX3_bounded_92 rfl ?_
      refine f_if_ge dX3_bounded_93 (tgt := 101) rfl (by rw [lg_cmp_ge]; exact Int64.not_le.mpr h2) ?_
      refine am_x_ldc dX3_bounded_96 kc_X3_73 ?_
      refine am_x_goto (tgt := 104) dX3_bounded_98 rfl ?_
      refine q_ir dX3_bounded_104 rfl ?_
      rfl
    · rw [if_neg h2]
      refine q_ll dX3_bounded_75 rfl ?_
      refine am_x_ldc2 dX3_bounded_77 kc_X3_68 ?_
      refine am_x_pu dX3_bounded_80 rfl ?_
      refine t_if_le 87 dX3_bounded_81 rfl (by rw [lg_cmp_le]; exact Int64.not_lt.mp h1) ?_
      refine q_ll dX3_bounded_87 rfl ?_
      refine am_x_ldc2 dX3_bounded_89 kc_X3_71 ?_
      refine am_x_pu dX3_bounded_92 rfl ?_
      refine t_if_ge 101 dX3_bounded_93 rfl (by rw [lg_cmp_ge]; exact Int64.not_lt.mp h2) ?_
      refine q_ll dX3_bounded_101 rfl ?_
      refine am_x_pu dX3_bounded_103 rfl ?_
      refine q_ir dX3_bounded_104 rfl ?_
      rfl
theorem i64_0 {y : Int32} : y.toInt64 = 0 ↔ y = 0 := by
  constructor
  · intro h
    have := congrArg Int64.toInt h
    rw [Int32.toInt_toInt64] at this
    exact Int32.toInt_inj.mp this
  · intro h; rw [h]; rfl
theorem bnd_0 : bnd 0 = 0 := by decide +kernel
set_option maxHeartbeats 2000000 in
theorem c_bounded_2 {h : am_H} {x y : Int32} : am_C 0 m_X3_bounded [.int (nI 43), .long x.toInt64, .long y.toInt64] h (some (.int (opv 2 x y)), h) := by
  rw [opv_2]
  refine q_lc (v := lN 0) dX3_bounded_0 rfl ?_
  refine q_ls dX3_bounded_1 (by decide) ?_
  refine am_nl (pc' := 3) (l' := [_, _, _, _, _, _, _]) rfl rfl ?_
  refine q_iln dX3_bounded_3 rfl ?_
  refine am_x_tIn (tgt := 36) dX3_bounded_4 (by decide +kernel) (by decide +kernel) rfl rfl ?_
  refine q_lln dX3_bounded_36 rfl ?_
  refine q_lln dX3_bounded_37 rfl ?_
  refine am_x_pu dX3_bounded_38 rfl ?_
  refine q_ls dX3_bounded_39 (by decide) ?_
  refine am_nl (pc' := 41) (l' := [_, _, _, _, _, _, _]) rfl rfl ?_
  refine am_x_goto (tgt := 75) dX3_bounded_41 rfl ?_
  exact c_bound
set_option maxHeartbeats 2000000 in
theorem c_bounded_3 {h : am_H} {x y : Int32} : am_C 0 m_X3_bounded [.int (nI 45), .long x.toInt64, .long y.toInt64] h (some (.int (opv 3 x y)), h) := by
  rw [opv_3]
  refine q_lc (v := lN 0) dX3_bounded_0 rfl ?_
  refine q_ls dX3_bounded_1 (by decide) ?_
  refine am_nl (pc' := 3) (l' := [_, _, _, _, _, _, _]) rfl rfl ?_
  refine q_iln dX3_bounded_3 rfl ?_
  refine am_x_tIn (tgt := 44) dX3_bounded_4 (by decide +kernel) (by decide +kernel) rfl rfl ?_
  refine q_lln dX3_bounded_44 rfl ?_
  refine q_lln dX3_bounded_45 rfl ?_
  refine am_x_pu dX3_bounded_46 rfl ?_
  refine q_ls dX3_bounded_47 (by decide) ?_
  refine am_nl (pc' := 49) (l' := [_, _, _, _, _, _, _]) rfl rfl ?_
  refine am_x_goto (tgt := 75) dX3_bounded_49 rfl ?_
  exact c_bound
set_option maxHeartbeats 2000000 in
theorem c_bounded_4 {h : am_H} {x y : Int32} : am_C 0 m_X3_bounded [.int (nI 42), .long x.toInt64, .long y.toInt64] h (some (.int (opv 4 x y)), h) := by
  rw [opv_4]
  refine q_lc (v := lN 0) dX3_bounded_0 rfl ?_
  refine q_ls dX3_bounded_1 (by decide) ?_
  refine am_nl (pc' := 3) (l' := [_, _, _, _, _, _, _]) rfl rfl ?_
  refine q_iln dX3_bounded_3 rfl ?_
  refine am_x_tIn (tgt := 52) dX3_bounded_4 (by decide +kernel) (by decide +kernel) rfl rfl ?_
  refine q_lln dX3_bounded_52 rfl ?_
  refine q_lln dX3_bounded_53 rfl ?_
  refine am_x_pu dX3_bounded_54 rfl ?_
  refine q_ls dX3_bounded_55 (by decide) ?_
  refine am_nl (pc' := 57) (l' := [_, _, _, _, _, _, _]) rfl rfl ?_
  refine am_x_goto (tgt := 75) dX3_bounded_57 rfl ?_
  exact c_bound
set_option maxHeartbeats 2000000 in
theorem c_bounded_5 {h : am_H} {x y : Int32} : am_C 0 m_X3_bounded [.int (nI 47), .long x.toInt64, .long y.toInt64] h (some (.int (opv 5 x y)), h) := by
  rw [opv_5]
  by_cases hy : y = 0
  · rw [if_pos hy, ← bnd_0]
    refine q_lc (v := lN 0) dX3_bounded_0 rfl ?_
    refine q_ls dX3_bounded_1 (by decide) ?_
    refine am_nl (pc' := 3) (l' := [_, _, _, _, _, _, _]) rfl rfl ?_
    refine q_iln dX3_bounded_3 rfl ?_
    refine am_x_tOut (tgt := 60) dX3_bounded_4 (by decide +kernel) rfl ?_
    refine q_lln dX3_bounded_60 rfl ?_
    refine q_lc (v := 0) dX3_bounded_61 rfl ?_
    refine am_x_pu dX3_bounded_62 rfl ?_
    refine f_if_ne dX3_bounded_63 (tgt := 70) rfl (by rw [lg_cmp_eq]; exact i64_0.mpr hy) ?_
    refine q_lc (v := 0) dX3_bounded_66 rfl ?_
    refine am_x_goto (tgt := 73) dX3_bounded_67 rfl ?_
    refine q_ls dX3_bounded_73 (by decide) ?_
    refine am_nl (pc' := 75) (l' := [_, _, _, _, _, _, _]) rfl rfl ?_
    exact c_bound
  · rw [if_neg hy]
    refine q_lc (v := lN 0) dX3_bounded_0 rfl ?_
    refine q_ls dX3_bounded_1 (by decide) ?_
    refine am_nl (pc' := 3) (l' := [_, _, _, _, _, _, _]) rfl rfl ?_
    refine q_iln dX3_bounded_3 rfl ?_
    refine am_x_tOut (tgt := 60) dX3_bounded_4 (by decide +kernel) rfl ?_
    refine q_lln dX3_bounded_60 rfl ?_
    refine q_lc (v := 0) dX3_bounded_61 rfl ?_
    refine am_x_pu dX3_bounded_62 rfl ?_
    refine t_if_ne 70 dX3_bounded_63 rfl (by rw [lg_cmp_eq]; exact fun z => hy (i64_0.mp z)) ?_
    refine q_lln dX3_bounded_70 rfl ?_
    refine q_lln dX3_bounded_71 rfl ?_
    refine am_x_ldiv dX3_bounded_72 (fun z => hy (i64_0.mp z)) ?_
    refine q_ls dX3_bounded_73 (by decide) ?_
    refine am_nl (pc' := 75) (l' := [_, _, _, _, _, _, _]) rfl rfl ?_
    exact c_bound
set_option maxHeartbeats 2000000 in
theorem c_isTruthSign_2 {h : am_H} : am_C 0 m_X3_isTruthSign [.int (nI 43)] h (some (.int (nI 0)), h) := by
  refine q_iln dX3_isTruthSign_0 rfl ?_
  refine q_bp (v := nI 61) dX3_isTruthSign_1 rfl ?_
  refine f_ic_eq dX3_isTruthSign_3 (tgt := 30) rfl (by decide +kernel) ?_
  refine q_iln dX3_isTruthSign_6 rfl ?_
  refine q_bp (v := nI 60) dX3_isTruthSign_7 rfl ?_
  refine f_ic_eq dX3_isTruthSign_9 (tgt := 30) rfl (by decide +kernel) ?_
  refine q_iln dX3_isTruthSign_12 rfl ?_
  refine q_bp (v := nI 62) dX3_isTruthSign_13 rfl ?_
  refine f_ic_eq dX3_isTruthSign_15 (tgt := 30) rfl (by decide +kernel) ?_
  refine q_iln dX3_isTruthSign_18 rfl ?_
  refine q_bp (v := nI 38) dX3_isTruthSign_19 rfl ?_
  refine f_ic_eq dX3_isTruthSign_21 (tgt := 30) rfl (by decide +kernel) ?_
  refine q_iln dX3_isTruthSign_24 rfl ?_
  refine q_bp (v := nI 124) dX3_isTruthSign_25 rfl ?_
  refine t_ic_ne 34 dX3_isTruthSign_27 rfl (by decide +kernel) ?_
  refine q_ic (v := nI 0) dX3_isTruthSign_34 rfl ?_
  first | refine q_zrn dX3_isTruthSign_35 rfl (by first | omega | exact b2_le) ?_ | refine q_zr dX3_isTruthSign_35 rfl (by first | exact Or.inl rfl | exact Or.inr rfl | assumption) ?_
  rfl
set_option maxHeartbeats 2000000 in
theorem c_isTruthSign_3 {h : am_H} : am_C 0 m_X3_isTruthSign [.int (nI 45)] h (some (.int (nI 0)), h) := by
  refine q_iln dX3_isTruthSign_0 rfl ?_
  refine q_bp (v := nI 61) dX3_isTruthSign_1 rfl ?_
  refine f_ic_eq dX3_isTruthSign_3 (tgt := 30) rfl (by decide +kernel) ?_
  refine q_iln dX3_isTruthSign_6 rfl ?_
  refine q_bp (v := nI 60) dX3_isTruthSign_7 rfl ?_
  refine f_ic_eq dX3_isTruthSign_9 (tgt := 30) rfl (by decide +kernel) ?_
  refine q_iln dX3_isTruthSign_12 rfl ?_
  refine q_bp (v := nI 62) dX3_isTruthSign_13 rfl ?_
  refine f_ic_eq dX3_isTruthSign_15 (tgt := 30) rfl (by decide +kernel) ?_
  refine q_iln dX3_isTruthSign_18 rfl ?_
  refine q_bp (v := nI 38) dX3_isTruthSign_19 rfl ?_
  refine f_ic_eq dX3_isTruthSign_21 (tgt := 30) rfl (by decide +kernel) ?_
  refine q_iln dX3_isTruthSign_24 rfl ?_
  refine q_bp (v := nI 124) dX3_isTruthSign_25 rfl ?_
  refine t_ic_ne 34 dX3_isTruthSign_27 rfl (by decide +kernel) ?_
  refine q_ic (v := nI 0) dX3_isTruthSign_34 rfl ?_
  first | refine q_zrn dX3_isTruthSign_35 rfl (by first | omega | exact b2_le) ?_ | refine q_zr dX3_isTruthSign_35 rfl (by first | exact Or.inl rfl | exact Or.inr rfl | assumption) ?_
  rfl
set_option maxHeartbeats 2000000 in
theorem c_isTruthSign_4 {h : am_H} : am_C 0 m_X3_isTruthSign [.int (nI 42)] h (some (.int (nI 0)), h) := by
  refine q_iln dX3_isTruthSign_0 rfl ?_
  refine q_bp (v := nI 61) dX3_isTruthSign_1 rfl ?_
  refine f_ic_eq dX3_isTruthSign_3 (tgt := 30) rfl (by decide +kernel) ?_
  refine q_iln dX3_isTruthSign_6 rfl ?_
  refine q_bp (v := nI 60) dX3_isTruthSign_7 rfl ?_
  refine f_ic_eq dX3_isTruthSign_9 (tgt := 30) rfl (by decide +kernel) ?_
  refine q_iln dX3_isTruthSign_12 rfl ?_
  refine q_bp (v := nI 62) dX3_isTruthSign_13 rfl ?_
  refine f_ic_eq dX3_isTruthSign_15 (tgt := 30) rfl (by decide +kernel) ?_
  refine q_iln dX3_isTruthSign_18 rfl ?_
  refine q_bp (v := nI 38) dX3_isTruthSign_19 rfl ?_
  refine f_ic_eq dX3_isTruthSign_21 (tgt := 30) rfl (by decide +kernel) ?_
  refine q_iln dX3_isTruthSign_24 rfl ?_
  refine q_bp (v := nI 124) dX3_isTruthSign_25 rfl ?_
  refine t_ic_ne 34 dX3_isTruthSign_27 rfl (by decide +kernel) ?_
  refine q_ic (v := nI 0) dX3_isTruthSign_34 rfl ?_
  first | refine q_zrn dX3_isTruthSign_35 rfl (by first | omega | exact b2_le) ?_ | refine q_zr dX3_isTruthSign_35 rfl (by first | exact Or.inl rfl | exact Or.inr rfl | assumption) ?_
  rfl
set_option maxHeartbeats 2000000 in
theorem c_isTruthSign_5 {h : am_H} : am_C 0 m_X3_isTruthSign [.int (nI 47)] h (some (.int (nI 0)), h) := by
  refine q_iln dX3_isTruthSign_0 rfl ?_
  refine q_bp (v := nI 61) dX3_isTruthSign_1 rfl ?_
  refine f_ic_eq dX3_isTruthSign_3 (tgt := 30) rfl (by decide +kernel) ?_
  refine q_iln dX3_isTruthSign_6 rfl ?_
  refine q_bp (v := nI 60) dX3_isTruthSign_7 rfl ?_
  refine f_ic_eq dX3_isTruthSign_9 (tgt := 30) rfl (by decide +kernel) ?_
  refine q_iln dX3_isTruthSign_12 rfl ?_
  refine q_bp (v := nI 62) dX3_isTruthSign_13 rfl ?_
  refine f_ic_eq dX3_isTruthSign_15 (tgt := 30) rfl (by decide +kernel) ?_
  refine q_iln dX3_isTruthSign_18 rfl ?_
  refine q_bp (v := nI 38) dX3_isTruthSign_19 rfl ?_
  refine f_ic_eq dX3_isTruthSign_21 (tgt := 30) rfl (by decide +kernel) ?_
  refine q_iln dX3_isTruthSign_24 rfl ?_
  refine q_bp (v := nI 124) dX3_isTruthSign_25 rfl ?_
  refine t_ic_ne 34 dX3_isTruthSign_27 rfl (by decide +kernel) ?_
  refine q_ic (v := nI 0) dX3_isTruthSign_34 rfl ?_
  first | refine q_zrn dX3_isTruthSign_35 rfl (by first | omega | exact b2_le) ?_ | refine q_zr dX3_isTruthSign_35 rfl (by first | exact Or.inl rfl | exact Or.inr rfl | assumption) ?_
  rfl
set_option maxHeartbeats 2000000 in
theorem c_isTruthSign_6 {h : am_H} : am_C 0 m_X3_isTruthSign [.int (nI 61)] h (some (.int (nI 1)), h) := by
  refine q_iln dX3_isTruthSign_0 rfl ?_
  refine q_bp (v := nI 61) dX3_isTruthSign_1 rfl ?_
  refine t_ic_eq 30 dX3_isTruthSign_3 rfl (by rfl) ?_
  refine q_ic (v := nI 1) dX3_isTruthSign_30 rfl ?_
  refine am_x_goto (tgt := 35) dX3_isTruthSign_31 rfl ?_
  first | refine q_zrn dX3_isTruthSign_35 rfl (by first | omega | exact b2_le) ?_ | refine q_zr dX3_isTruthSign_35 rfl (by first | exact Or.inl rfl | exact Or.inr rfl | assumption) ?_
  rfl
set_option maxHeartbeats 2000000 in
theorem c_isTruthSign_7 {h : am_H} : am_C 0 m_X3_isTruthSign [.int (nI 60)] h (some (.int (nI 1)), h) := by
  refine q_iln dX3_isTruthSign_0 rfl ?_
  refine q_bp (v := nI 61) dX3_isTruthSign_1 rfl ?_
  refine f_ic_eq dX3_isTruthSign_3 (tgt := 30) rfl (by decide +kernel) ?_
  refine q_iln dX3_isTruthSign_6 rfl ?_
  refine q_bp (v := nI 60) dX3_isTruthSign_7 rfl ?_
  refine t_ic_eq 30 dX3_isTruthSign_9 rfl (by rfl) ?_
  refine q_ic (v := nI 1) dX3_isTruthSign_30 rfl ?_
  refine am_x_goto (tgt := 35) dX3_isTruthSign_31 rfl ?_
  first | refine q_zrn dX3_isTruthSign_35 rfl (by first | omega | exact b2_le) ?_ | refine q_zr dX3_isTruthSign_35 rfl (by first | exact Or.inl rfl | exact Or.inr rfl | assumption) ?_
  rfl
set_option maxHeartbeats 2000000 in
theorem c_isTruthSign_8 {h : am_H} : am_C 0 m_X3_isTruthSign [.int (nI 62)] h (some (.int (nI 1)), h) := by
  refine q_iln dX3_isTruthSign_0 rfl ?_
  refine q_bp (v := nI 61) dX3_isTruthSign_1 rfl ?_
  refine f_ic_eq dX3_isTruthSign_3 (tgt := 30) rfl (by decide +kernel) ?_
  refine q_iln dX3_isTruthSign_6 rfl ?_
  refine q_bp (v := nI 60) dX3_isTruthSign_7 rfl ?_
  refine f_ic_eq dX3_isTruthSign_9 (tgt := 30) rfl (by decide +kernel) ?_
  refine q_iln dX3_isTruthSign_12 rfl ?_
  refine q_bp (v := nI 62) dX3_isTruthSign_13 rfl ?_
  refine t_ic_eq 30 dX3_isTruthSign_15 rfl (by rfl) ?_
  refine q_ic (v := nI 1) dX3_isTruthSign_30 rfl ?_
  refine am_x_goto (tgt := 35) dX3_isTruthSign_31 rfl ?_
  first | refine q_zrn dX3_isTruthSign_35 rfl (by first | omega | exact b2_le) ?_ | refine q_zr dX3_isTruthSign_35 rfl (by first | exact Or.inl rfl | exact Or.inr rfl | assumption) ?_
  rfl
set_option maxHeartbeats 2000000 in
theorem c_isTruthSign_10 {h : am_H} : am_C 0 m_X3_isTruthSign [.int (nI 38)] h (some (.int (nI 1)), h) := by
  refine q_iln dX3_isTruthSign_0 rfl ?_
  refine q_bp (v := nI 61) dX3_isTruthSign_1 rfl ?_
  refine f_ic_eq dX3_isTruthSign_3 (tgt := 30) rfl (by decide +kernel) ?_
  refine q_iln dX3_isTruthSign_6 rfl ?_
  refine q_bp (v := nI 60) dX3_isTruthSign_7 rfl ?_
  refine f_ic_eq dX3_isTruthSign_9 (tgt := 30) rfl (by decide +kernel) ?_
  refine q_iln dX3_isTruthSign_12 rfl ?_
  refine q_bp (v := nI 62) dX3_isTruthSign_13 rfl ?_
  refine f_ic_eq dX3_isTruthSign_15 (tgt := 30) rfl (by decide +kernel) ?_
  refine q_iln dX3_isTruthSign_18 rfl ?_
  refine q_bp (v := nI 38) dX3_isTruthSign_19 rfl ?_
  refine t_ic_eq 30 dX3_isTruthSign_21 rfl (by rfl) ?_
  refine q_ic (v := nI 1) dX3_isTruthSign_30 rfl ?_
  refine am_x_goto (tgt := 35) dX3_isTruthSign_31 rfl ?_
  first | refine q_zrn dX3_isTruthSign_35 rfl (by first | omega | exact b2_le) ?_ | refine q_zr dX3_isTruthSign_35 rfl (by first | exact Or.inl rfl | exact Or.inr rfl | assumption) ?_
  rfl
set_option maxHeartbeats 2000000 in
theorem c_isTruthSign_11 {h : am_H} : am_C 0 m_X3_isTruthSign [.int (nI 124)] h (some (.int (nI 1)), h) := by
  refine q_iln dX3_isTruthSign_0 rfl ?_
  refine q_bp (v := nI 61) dX3_isTruthSign_1 rfl ?_
  refine f_ic_eq dX3_isTruthSign_3 (tgt := 30) rfl (by decide +kernel) ?_
  refine q_iln dX3_isTruthSign_6 rfl ?_
  refine q_bp (v := nI 60) dX3_isTruthSign_7 rfl ?_
  refine f_ic_eq dX3_isTruthSign_9 (tgt := 30) rfl (by decide +kernel) ?_
  refine q_iln dX3_isTruthSign_12 rfl ?_
  refine q_bp (v := nI 62) dX3_isTruthSign_13 rfl ?_
  refine f_ic_eq dX3_isTruthSign_15 (tgt := 30) rfl (by decide +kernel) ?_
  refine q_iln dX3_isTruthSign_18 rfl ?_
  refine q_bp (v := nI 38) dX3_isTruthSign_19 rfl ?_
  refine f_ic_eq dX3_isTruthSign_21 (tgt := 30) rfl (by decide +kernel) ?_
  refine q_iln dX3_isTruthSign_24 rfl ?_
  refine q_bp (v := nI 124) dX3_isTruthSign_25 rfl ?_
  refine f_ic_ne dX3_isTruthSign_27 (tgt := 34) rfl (by rfl) ?_
  refine q_ic (v := nI 1) dX3_isTruthSign_30 rfl ?_
  refine am_x_goto (tgt := 35) dX3_isTruthSign_31 rfl ?_
  first | refine q_zrn dX3_isTruthSign_35 rfl (by first | omega | exact b2_le) ?_ | refine q_zr dX3_isTruthSign_35 rfl (by first | exact Or.inl rfl | exact Or.inr rfl | assumption) ?_
  rfl
set_option maxHeartbeats 2000000 in
theorem c_work_l {h : am_H} (hW : Wd h) {r s t : Nat} {l : List Int32} (hN : MN h r s t l) {st : List Int32} (hT : ST h r t st) (hl : st.length ≤ l.length) {j : Nat} (hj : j < 6) : am_D 1 m_X3_work [.ref r, .int (nI (lm j)), .ref 21] h (fun w h2 => w = none ∧ Fx [r, t] [] h h2 ∧ ST h2 r t (am_i h 21 j :: st)) := by
  obtain ⟨hsr, hps, hpt, hss, hst_, hl6, hsg, hn1, hn2, hn3, hr8, hs8, ht8⟩ := id hN
  have hlj : am_C 0 m_X3_letterOf [.int (nI (lm j))] h (some (.int (nI j)), h) := by
    have z := c_letterOf (h := h) (x := some (lm j)) (fun c hc => by cases hc; exact lm_lt j)
    rw [lti_6 hj] at z
    exact z
  refine Eq_iln dX3_work_0 rfl ?_
  refine Eq_S1 (N := m_X3_letterOf) dX3_work_1 lk_X3_52 mS_X3_letterOf (hlj) (by decide) (Nat.le_of_ble_eq_true rfl) (Nat.le_of_ble_eq_true rfl) ?_
  refine Eq_isn dX3_work_4 (by decide) ?_
  refine Eam_nl (pc' := 5) (l' := [_, _, _, _, _, _]) rfl rfl ?_
  refine Eq_iln dX3_work_5 rfl ?_
  refine Eq_ic (v := -1) dX3_work_6 rfl ?_
  refine Ef_ic_eq dX3_work_7 (tgt := 30) rfl (by exact nI_m1 (by omega)) ?_
  refine Eq_aln dX3_work_10 rfl ?_
  refine Eq_iln dX3_work_11 rfl ?_
  refine Eq_aln dX3_work_12 rfl ?_
  refine Eam_x_alen dX3_work_13 (ws_21 hW) (by decide) ?_
  refine Ef_ic_ge dX3_work_14 (tgt := 23) rfl (by exact nI_ge (b := 6) (by omega) (by omega)) ?_
  refine Eq_aln dX3_work_17 rfl ?_
  refine Eq_iln dX3_work_18 rfl ?_
  refine Eq_ald dX3_work_19 (ws_21 hW) (by omega) (by omega) rfl ?_
  refine Eam_x_goto (tgt := 24) dX3_work_20 rfl ?_
  refine Eq_V1 (N := m_X3_push) dX3_work_24 lk_X3_40 mV_X3_push (c_push hN hT hl) (by decide) hsr rfl (by decide) (Nat.le_of_ble_eq_true rfl) (Nat.le_of_ble_eq_true rfl) ?_
  refine Eam_x_goto (tgt := 99) dX3_work_27 rfl ?_
  refine Eq_vr dX3_work_99 rfl ?_
  exact ⟨rfl, (Fx.wI (Or.inl (by simp))).tr (Fx.wI (Or.inl (by simp))), hT.push hn3 _⟩
set_option maxHeartbeats 2000000 in
theorem c_work_9Y {h : am_H} (hW : Wd h) {r s t : Nat} {l : List Int32} (hN : MN h r s t l) {st : List Int32} {v : Int32} (hT : ST h r t (v :: st)) (hl : (v :: st).length ≤ l.length) (hv : v = 0) : am_D 1 m_X3_work [.ref r, .int (nI 33), .ref 21] h (fun w h2 => w = none ∧ Fx [r, t] [] h h2 ∧ ST h2 r t (1 :: st)) := by
  obtain ⟨hsr, hps, hpt, hss, hst_, hl6, hsg, hn1, hn2, hn3, hr8, hs8, ht8⟩ := id hN
  have hT1 := hT.pop hn3
  have hN1 := hN.fx (Fx.wI (A := [r]) (B := []) (h := h) (r := r) (j := 2) (v := nI st.length) (Or.inl (by simp))) (by simp; exact hn1) (by simp)
  simp only [List.length_cons] at hl
  refine Eq_iln dX3_work_0 rfl ?_
  refine Eq_S1 (N := m_X3_letterOf) dX3_work_1 lk_X3_52 mS_X3_letterOf ((by have z := c_letterOf (h := h) (x := some 33) (fun c hc => by cases hc; omega); exact z)) (by decide) (Nat.le_of_ble_eq_true rfl) (Nat.le_of_ble_eq_true rfl) ?_
  refine Eq_isn dX3_work_4 (by decide) ?_
  refine Eam_nl (pc' := 5) (l' := [_, _, _, _, _, _]) rfl rfl ?_
  refine Eq_iln dX3_work_5 rfl ?_
  refine Eq_ic (v := -1) dX3_work_6 rfl ?_
  refine Et_ic_eq 30 dX3_work_7 rfl (by rfl) ?_
  refine Eq_iln dX3_work_30 rfl ?_
  refine Eq_bp (v := nI 33) dX3_work_31 rfl ?_
  refine Ef_ic_ne dX3_work_33 (tgt := 55) rfl (by rfl) ?_
  refine Eq_aln dX3_work_36 rfl ?_
  refine Eq_aln dX3_work_37 rfl ?_
  refine Eq_V0 (N := m_X3_pop) dX3_work_38 lk_X3_44 mV_X3_pop (c_pop hN hT (by simp only [List.length_cons]; omega)) (by decide) hsr rfl (by decide) (Nat.le_of_ble_eq_true rfl) (Nat.le_of_ble_eq_true rfl) ?_
  refine Ef_if_ne dX3_work_41 (tgt := 48) rfl (by exact hv) ?_
  refine Eq_ic (v := nI 1) dX3_work_44 rfl ?_
  refine Eam_x_goto (tgt := 49) dX3_work_45 rfl ?_
  refine Eq_V1 (N := m_X3_push) dX3_work_49 lk_X3_40 mV_X3_push (c_push hN1 hT1 (by omega)) (by decide) hsr rfl (by decide) (Nat.le_of_ble_eq_true rfl) (Nat.le_of_ble_eq_true rfl) ?_
  refine Eam_x_goto (tgt := 99) dX3_work_52 rfl ?_
  refine Eq_vr dX3_work_99 rfl ?_
  exact ⟨rfl, (Fx.wI (Or.inl (by simp))).tr ((Fx.wI (Or.inl (by simp))).tr (Fx.wI (Or.inl (by simp)))), hT1.push hn3 _⟩
set_option maxHeartbeats 2000000 in
theorem c_work_9N {h : am_H} (hW : Wd h) {r s t : Nat} {l : List Int32} (hN : MN h r s t l) {st : List Int32} {v : Int32} (hT : ST h r t (v :: st)) (hl : (v :: st).length ≤ l.length) (hv : ¬ v = 0) : am_D 1 m_X3_work [.ref r, .int (nI 33), .ref 21] h (fun w h2 => w = none ∧ Fx [r, t] [] h h2 ∧ ST h2 r t (0 :: st)) := by
  obtain ⟨hsr, hps, hpt, hss, hst_, hl6, hsg, hn1, hn2, hn3, hr8, hs8, ht8⟩ := id hN
  have hT1 := hT.pop hn3
  have hN1 := hN.fx (Fx.wI (A := [r]) (B := []) (h := h) (r := r) (j := 2) (v := nI st.length) (Or.inl (by simp))) (by simp; exact hn1) (by simp)
  simp only [List.length_cons] at hl
  refine Eq_iln dX3_work_0 rfl ?_
  refine Eq_S1 (N := m_X3_letterOf) dX3_work_1 lk_X3_52 mS_X3_letterOf ((by have z := c_letterOf (h := h) (x := some 33) (fun c hc => by cases hc; omega); exact z)) (by decide) (Nat.le_of_ble_eq_true rfl) (Nat.le_of_ble_eq_true rfl) ?_
  refine Eq_isn dX3_work_4 (by decide) ?_
  refine Eam_nl (pc' := 5) (l' := [_, _, _, _, _, _]) rfl rfl ?_
  refine Eq_iln dX3_work_5 rfl ?_
  refine Eq_ic (v := -1) dX3_work_6 rfl ?_
  refine Et_ic_eq 30 dX3_work_7 rfl (by rfl) ?_
  refine Eq_iln dX3_work_30 rfl ?_
  refine Eq_bp (v := nI 33) dX3_work_31 rfl ?_
  refine Ef_ic_ne dX3_work_33 (tgt := 55) rfl (by rfl) ?_
  refine Eq_aln dX3_work_36 rfl ?_
  refine Eq_aln dX3_work_37 rfl ?_
  refine Eq_V0 (N := m_X3_pop) dX3_work_38 lk_X3_44 mV_X3_pop (c_pop hN hT (by simp only [List.length_cons]; omega)) (by decide) hsr rfl (by decide) (Nat.le_of_ble_eq_true rfl) (Nat.le_of_ble_eq_true rfl) ?_
  refine Et_if_ne 48 dX3_work_41 rfl (by exact hv) ?_
  refine Eq_ic (v := nI 0) dX3_work_48 rfl ?_
  refine Eq_V1 (N := m_X3_push) dX3_work_49 lk_X3_40 mV_X3_push (c_push hN1 hT1 (by omega)) (by decide) hsr rfl (by decide) (Nat.le_of_ble_eq_true rfl) (Nat.le_of_ble_eq_true rfl) ?_
  refine Eam_x_goto (tgt := 99) dX3_work_52 rfl ?_
  refine Eq_vr dX3_work_99 rfl ?_
  exact ⟨rfl, (Fx.wI (Or.inl (by simp))).tr ((Fx.wI (Or.inl (by simp))).tr (Fx.wI (Or.inl (by simp)))), hT1.push hn3 _⟩
set_option maxHeartbeats 2000000 in
theorem c_work_2 {h : am_H} (hW : Wd h) {r s t : Nat} {l : List Int32} (hN : MN h r s t l) {st : List Int32} {x y : Int32} (hT : ST h r t (y :: x :: st)) (hl : (y :: x :: st).length ≤ l.length) : am_D 1 m_X3_work [.ref r, .int (nI 43), .ref 21] h (fun w h2 => w = none ∧ Fx [r, t] [] h h2 ∧ ST h2 r t (opv 2 x y :: st)) := by
  obtain ⟨hsr, hps, hpt, hss, hst_, hl6, hsg, hn1, hn2, hn3, hr8, hs8, ht8⟩ := id hN
  have hT1 := hT.pop hn3
  have hT2 := hT1.pop hn3
  have hN1 := hN.fx (Fx.wI (A := [r]) (B := []) (h := h) (r := r) (j := 2) (v := nI (x :: st).length) (Or.inl (by simp))) (by simp; exact hn1) (by simp)
  have hN2 := hN1.fx (Fx.wI (A := [r]) (B := []) (h := am_wI h r 2 (nI (x :: st).length)) (r := r) (j := 2) (v := nI st.length) (Or.inl (by simp))) (by simp; exact hn1) (by simp)
  simp only [List.length_cons] at hl
  refine Eq_iln dX3_work_0 rfl ?_
  refine Eq_S1 (N := m_X3_letterOf) dX3_work_1 lk_X3_52 mS_X3_letterOf ((by have z := c_letterOf (h := h) (x := some 43) (fun c hc => by cases hc; omega); exact z)) (by decide) (Nat.le_of_ble_eq_true rfl) (Nat.le_of_ble_eq_true rfl) ?_
  refine Eq_isn dX3_work_4 (by decide) ?_
  refine Eam_nl (pc' := 5) (l' := [_, _, _, _, _, _]) rfl rfl ?_
  refine Eq_iln dX3_work_5 rfl ?_
  refine Eq_ic (v := -1) dX3_work_6 rfl ?_
  refine Et_ic_eq 30 dX3_work_7 rfl (by rfl) ?_
  refine Eq_iln dX3_work_30 rfl ?_
  refine Eq_bp (v := nI 33) dX3_work_31 rfl ?_
  refine Et_ic_ne 55 dX3_work_33 rfl (by decide +kernel) ?_
  refine Eq_aln dX3_work_55 rfl ?_
  refine Eq_V0 (N := m_X3_pop) dX3_work_56 lk_X3_44 mV_X3_pop (c_pop hN hT (by simp only [List.length_cons]; omega)) (by decide) hsr rfl (by decide) (Nat.le_of_ble_eq_true rfl) (Nat.le_of_ble_eq_true rfl) ?_
  refine Eq_is dX3_work_59 (by decide) ?_
  refine Eam_nl (pc' := 61) (l' := [_, _, _, _, _, _]) rfl rfl ?_
  refine Eq_aln dX3_work_61 rfl ?_
  refine Eq_V0 (N := m_X3_pop) dX3_work_62 lk_X3_44 mV_X3_pop (c_pop hN1 hT1 (by simp only [List.length_cons]; omega)) (by decide) hsr rfl (by decide) (Nat.le_of_ble_eq_true rfl) (Nat.le_of_ble_eq_true rfl) ?_
  refine Eq_is dX3_work_65 (by decide) ?_
  refine Eam_nl (pc' := 67) (l' := [_, _, _, _, _, _]) rfl rfl ?_
  refine Eq_aln dX3_work_67 rfl ?_
  refine Eq_iln dX3_work_68 rfl ?_
  refine Eq_S1 (N := m_X3_isTruthSign) dX3_work_69 lk_X3_56 mS_X3_isTruthSign (c_isTruthSign_2) (by decide) (Nat.le_of_ble_eq_true rfl) (Nat.le_of_ble_eq_true rfl) ?_
  refine Et_if_eq 86 dX3_work_72 rfl (by rfl) ?_
  refine Eq_iln dX3_work_86 rfl ?_
  refine Eq_il dX3_work_87 rfl ?_
  refine Eam_x_pu dX3_work_89 rfl ?_
  refine Eq_il dX3_work_90 rfl ?_
  refine Eam_x_pu dX3_work_92 rfl ?_
  refine Eq_S3 (N := m_X3_bounded) dX3_work_93 lk_X3_64 mS_X3_bounded (c_bounded_2) (by decide) (Nat.le_of_ble_eq_true rfl) (Nat.le_of_ble_eq_true rfl) ?_
  refine Eq_V1 (N := m_X3_push) dX3_work_96 lk_X3_40 mV_X3_push (c_push hN2 hT2 (by omega)) (by decide) hsr rfl (by decide) (Nat.le_of_ble_eq_true rfl) (Nat.le_of_ble_eq_true rfl) ?_
  refine Eq_vr dX3_work_99 rfl ?_
  exact ⟨rfl, (Fx.wI (Or.inl (by simp))).tr ((Fx.wI (Or.inl (by simp))).tr ((Fx.wI (Or.inl (by simp))).tr (Fx.wI (Or.inl (by simp))))), hT2.push hn3 _⟩
set_option maxHeartbeats 2000000 in
theorem c_work_3 {h : am_H} (hW : Wd h) {r s t : Nat} {l : List Int32} (hN : MN h r s t l) {st : List Int32} {x y : Int32} (hT : ST h r t (y :: x :: st)) (hl : (y :: x :: st).length ≤ l.length) : am_D 1 m_X3_work [.ref r, .int (nI 45), .ref 21] h (fun w h2 => w = none ∧ Fx [r, t] [] h h2 ∧ ST h2 r t (opv 3 x y :: st)) := by
  obtain ⟨hsr, hps, hpt, hss, hst_, hl6, hsg, hn1, hn2, hn3, hr8, hs8, ht8⟩ := id hN
  have hT1 := hT.pop hn3
  have hT2 := hT1.pop hn3
  have hN1 := hN.fx (Fx.wI (A := [r]) (B := []) (h := h) (r := r) (j := 2) (v := nI (x :: st).length) (Or.inl (by simp))) (by simp; exact hn1) (by simp)
  have hN2 := hN1.fx (Fx.wI (A := [r]) (B := []) (h := am_wI h r 2 (nI (x :: st).length)) (r := r) (j := 2) (v := nI st.length) (Or.inl (by simp))) (by simp; exact hn1) (by simp)
  simp only [List.length_cons] at hl
  refine Eq_iln dX3_work_0 rfl ?_
  refine Eq_S1 (N := m_X3_letterOf) dX3_work_1 lk_X3_52 mS_X3_letterOf ((by have z := c_letterOf (h := h) (x := some 45) (fun c hc => by cases hc; omega); exact z)) (by decide) (Nat.le_of_ble_eq_true rfl) (Nat.le_of_ble_eq_true rfl) ?_
  refine Eq_isn dX3_work_4 (by decide) ?_
  refine Eam_nl (pc' := 5) (l' := [_, _, _, _, _, _]) rfl rfl ?_
  refine Eq_iln dX3_work_5 rfl ?_
  refine Eq_ic (v := -1) dX3_work_6 rfl ?_
  refine Et_ic_eq 30 dX3_work_7 rfl (by rfl) ?_
  refine Eq_iln dX3_work_30 rfl ?_
  refine Eq_bp (v := nI 33) dX3_work_31 rfl ?_
  refine Et_ic_ne 55 dX3_work_33 rfl (by decide +kernel) ?_
  refine Eq_aln dX3_work_55 rfl ?_
  refine Eq_V0 (N := m_X3_pop) dX3_work_56 lk_X3_44 mV_X3_pop (c_pop hN hT (by simp only [List.length_cons]; omega)) (by decide) hsr rfl (by decide) (Nat.le_of_ble_eq_true rfl) (Nat.le_of_ble_eq_true rfl) ?_
  refine Eq_is dX3_work_59 (by decide) ?_
  refine Eam_nl (pc' := 61) (l' := [_, _, _, _, _, _]) rfl rfl ?_
  refine Eq_aln dX3_work_61 rfl ?_
  refine Eq_V0 (N := m_X3_pop) dX3_work_62 lk_X3_44 mV_X3_pop (c_pop hN1 hT1 (by simp only [List.length_cons]; omega)) (by decide) hsr rfl (by decide) (Nat.le_of_ble_eq_true rfl) (Nat.le_of_ble_eq_true rfl) ?_
  refine Eq_is dX3_work_65 (by decide) ?_
  refine Eam_nl (pc' := 67) (l' := [_, _, _, _, _, _]) rfl rfl ?_
  refine Eq_aln dX3_work_67 rfl ?_
  refine Eq_iln dX3_work_68 rfl ?_
  refine Eq_S1 (N := m_X3_isTruthSign) dX3_work_69 lk_X3_56 mS_X3_isTruthSign (c_isTruthSign_3) (by decide) (Nat.le_of_ble_eq_true rfl) (Nat.le_of_ble_eq_true rfl) ?_
  refine Et_if_eq 86 dX3_work_72 rfl (by rfl) ?_
  refine Eq_iln dX3_work_86 rfl ?_
  refine Eq_il dX3_work_87 rfl ?_
  refine Eam_x_pu dX3_work_89 rfl ?_
  refine Eq_il dX3_work_90 rfl ?_
  refine Eam_x_pu dX3_work_92 rfl ?_
  refine Eq_S3 (N := m_X3_bounded) dX3_work_93 lk_X3_64 mS_X3_bounded (c_bounded_3) (by decide) (Nat.le_of_ble_eq_true rfl) (Nat.le_of_ble_eq_true rfl) ?_
  refine Eq_V1 (N := m_X3_push) dX3_work_96 lk_X3_40 mV_X3_push (c_push hN2 hT2 (by omega)) (by decide) hsr rfl (by decide) (Nat.le_of_ble_eq_true rfl) (Nat.le_of_ble_eq_true rfl) ?_
  refine Eq_vr dX3_work_99 rfl ?_
  exact ⟨rfl, (Fx.wI (Or.inl (by simp))).tr ((Fx.wI (Or.inl (by simp))).tr ((Fx.wI (Or.inl (by simp))).tr (Fx.wI (Or.inl (by simp))))), hT2.push hn3 _⟩
set_option maxHeartbeats 2000000 in
theorem c_work_4 {h : am_H} (hW : Wd h) {r s t : Nat} {l : List Int32} (hN : MN h r s t l) {st : List Int32} {x y : Int32} (hT : ST h r t (y :: x :: st)) (hl : (y :: x :: st).length ≤ l.length) : am_D 1 m_X3_work [.ref r, .int (nI 42), .ref 21] h (fun w h2 => w = none ∧ Fx [r, t] [] h h2 ∧ ST h2 r t (opv 4 x y :: st)) := by
  obtain ⟨hsr, hps, hpt, hss, hst_, hl6, hsg, hn1, hn2, hn3, hr8, hs8, ht8⟩ := id hN
  have hT1 := hT.pop hn3
  have hT2 := hT1.pop hn3
  have hN1 := hN.fx (Fx.wI (A := [r]) (B := []) (h := h) (r := r) (j := 2) (v := nI (x :: st).length) (Or.inl (by simp))) (by simp; exact hn1) (by simp)
  have hN2 := hN1.fx (Fx.wI (A := [r]) (B := []) (h := am_wI h r 2 (nI (x :: st).length)) (r := r) (j := 2) (v := nI st.length) (Or.inl (by simp))) (by simp; exact hn1) (by simp)
  simp only [List.length_cons] at hl
  refine Eq_iln dX3_work_0 rfl ?_
  refine Eq_S1 (N := m_X3_letterOf) dX3_work_1 lk_X3_52 mS_X3_letterOf ((by have z := c_letterOf (h := h) (x := some 42) (fun c hc => by cases hc; omega); exact z)) (by decide) (Nat.le_of_ble_eq_true rfl) (Nat.le_of_ble_eq_true rfl) ?_
  refine Eq_isn dX3_work_4 (by decide) ?_
  refine Eam_nl (pc' := 5) (l' := [_, _, _, _, _, _]) rfl rfl ?_
  refine Eq_iln dX3_work_5 rfl ?_
  refine Eq_ic (v := -1) dX3_work_6 rfl ?_
  refine Et_ic_eq 30 dX3_work_7 rfl (by rfl) ?_
  refine Eq_iln dX3_work_30 rfl ?_
  refine Eq_bp (v := nI 33) dX3_work_31 rfl ?_
  refine Et_ic_ne 55 dX3_work_33 rfl (by decide +kernel) ?_
  refine Eq_aln dX3_work_55 rfl ?_
  refine Eq_V0 (N := m_X3_pop) dX3_work_56 lk_X3_44 mV_X3_pop (c_pop hN hT (by simp only [List.length_cons]; omega)) (by decide) hsr rfl (by decide) (Nat.le_of_ble_eq_true rfl) (Nat.le_of_ble_eq_true rfl) ?_
  refine Eq_is dX3_work_59 (by decide) ?_
  refine Eam_nl (pc' := 61) (l' := [_, _, _, _, _, _]) rfl rfl ?_
  refine Eq_aln dX3_work_61 rfl ?_
  refine Eq_V0 (N := m_X3_pop) dX3_work_62 lk_X3_44 mV_X3_pop (c_pop hN1 hT1 (by simp only [List.length_cons]; omega)) (by decide) hsr rfl (by decide) (Nat.le_of_ble_eq_true rfl) (Nat.le_of_ble_eq_true rfl) ?_
  refine Eq_is dX3_work_65 (by decide) ?_
  refine Eam_nl (pc' := 67) (l' := [_, _, _, _, _, _]) rfl rfl ?_
  refine Eq_aln dX3_work_67 rfl ?_
  refine Eq_iln dX3_work_68 rfl ?_
  refine Eq_S1 (N := m_X3_isTruthSign) dX3_work_69 lk_X3_56 mS_X3_isTruthSign (c_isTruthSign_4) (by decide) (Nat.le_of_ble_eq_true rfl) (Nat.le_of_ble_eq_true rfl) ?_
  refine Et_if_eq 86 dX3_work_72 rfl (by rfl) ?_
  refine Eq_iln dX3_work_86 rfl ?_
  refine Eq_il dX3_work_87 rfl ?_
  refine Eam_x_pu dX3_work_89 rfl ?_
  refine Eq_il dX3_work_90 rfl ?_
  refine Eam_x_pu dX3_work_92 rfl ?_
  refine Eq_S3 (N := m_X3_bounded) dX3_work_93 lk_X3_64 mS_X3_bounded (c_bounded_4) (by decide) (Nat.le_of_ble_eq_true rfl) (Nat.le_of_ble_eq_true rfl) ?_
  refine Eq_V1 (N := m_X3_push) dX3_work_96 lk_X3_40 mV_X3_push (c_push hN2 hT2 (by omega)) (by decide) hsr rfl (by decide) (Nat.le_of_ble_eq_true rfl) (Nat.le_of_ble_eq_true rfl) ?_
  refine Eq_vr dX3_work_99 rfl ?_
  exact ⟨rfl, (Fx.wI (Or.inl (by simp))).tr ((Fx.wI (Or.inl (by simp))).tr ((Fx.wI (Or.inl (by simp))).tr (Fx.wI (Or.inl (by simp))))), hT2.push hn3 _⟩
set_option maxHeartbeats 2000000 in
theorem c_work_5 {h : am_H} (hW : Wd h) {r s t : Nat} {l : List Int32} (hN : MN h r s t l) {st : List Int32} {x y : Int32} (hT : ST h r t (y :: x :: st)) (hl : (y :: x :: st).length ≤ l.length) : am_D 1 m_X3_work [.ref r, .int (nI 47), .ref 21] h (fun w h2 => w = none ∧ Fx [r, t] [] h h2 ∧ ST h2 r t (opv 5 x y :: st)) := by
  obtain ⟨hsr, hps, hpt, hss, hst_, hl6, hsg, hn1, hn2, hn3, hr8, hs8, ht8⟩ := id hN
  have hT1 := hT.pop hn3
  have hT2 := hT1.pop hn3
  have hN1 := hN.fx (Fx.wI (A := [r]) (B := []) (h := h) (r := r) (j := 2) (v := nI (x :: st).length) (Or.inl (by simp))) (by simp; exact hn1) (by simp)
  have hN2 := hN1.fx (Fx.wI (A := [r]) (B := []) (h := am_wI h r 2 (nI (x :: st).length)) (r := r) (j := 2) (v := nI st.length) (Or.inl (by simp))) (by simp; exact hn1) (by simp)
  simp only [List.length_cons] at hl
  refine Eq_iln dX3_work_0 rfl ?_
  refine Eq_S1 (N := m_X3_letterOf) dX3_work_1 lk_X3_52 mS_X3_letterOf ((by have z := c_letterOf (h := h) (x := some 47) (fun c hc => by cases hc; omega); exact z)) (by decide) (Nat.le_of_ble_eq_true rfl) (Nat.le_of_ble_eq_true rfl) ?_
  refine Eq_isn dX3_work_4 (by decide) ?_
  refine Eam_nl (pc' := 5) (l' := [_, _, _, _, _, _]) rfl rfl ?_
  refine Eq_iln dX3_work_5 rfl ?_
  refine Eq_ic (v := -1) dX3_work_6 rfl ?_
  refine Et_ic_eq 30 dX3_work_7 rfl (by rfl) ?_
  refine Eq_iln dX3_work_30 rfl ?_
  refine Eq_bp (v := nI 33) dX3_work_31 rfl ?_
  refine Et_ic_ne 55 dX3_work_33 rfl (by decide +kernel) ?_
  refine Eq_aln dX3_work_55 rfl ?_
  refine Eq_V0 (N := m_X3_pop) dX3_work_56 lk_X3_44 mV_X3_pop (c_pop hN hT (by simp only [List.length_cons]; omega)) (by decide) hsr rfl (by decide) (Nat.le_of_ble_eq_true rfl) (Nat.le_of_ble_eq_true rfl) ?_
  refine Eq_is dX3_work_59 (by decide) ?_
  refine Eam_nl (pc' := 61) (l' := [_, _, _, _, _, _]) rfl rfl ?_
  refine Eq_aln dX3_work_61 rfl ?_
  refine Eq_V0 (N := m_X3_pop) dX3_work_62 lk_X3_44 mV_X3_pop (c_pop hN1 hT1 (by simp only [List.length_cons]; omega)) (by decide) hsr rfl (by decide) (Nat.le_of_ble_eq_true rfl) (Nat.le_of_ble_eq_true rfl) ?_
  refine Eq_is dX3_work_65 (by decide) ?_
  refine Eam_nl (pc' := 67) (l' := [_, _, _, _, _, _]) rfl rfl ?_
  refine Eq_aln dX3_work_67 rfl ?_
  refine Eq_iln dX3_work_68 rfl ?_
  refine Eq_S1 (N := m_X3_isTruthSign) dX3_work_69 lk_X3_56 mS_X3_isTruthSign (c_isTruthSign_5) (by decide) (Nat.le_of_ble_eq_true rfl) (Nat.le_of_ble_eq_true rfl) ?_
  refine Et_if_eq 86 dX3_work_72 rfl (by rfl) ?_
  refine Eq_iln dX3_work_86 rfl ?_
  refine Eq_il dX3_work_87 rfl ?_
  refine Eam_x_pu dX3_work_89 rfl ?_
  refine Eq_il dX3_work_90 rfl ?_
  refine Eam_x_pu dX3_work_92 rfl ?_
  refine Eq_S3 (N := m_X3_bounded) dX3_work_93 lk_X3_64 mS_X3_bounded (c_bounded_5) (by decide) (Nat.le_of_ble_eq_true rfl) (Nat.le_of_ble_eq_true rfl) ?_
  refine Eq_V1 (N := m_X3_push) dX3_work_96 lk_X3_40 mV_X3_push (c_push hN2 hT2 (by omega)) (by decide) hsr rfl (by decide) (Nat.le_of_ble_eq_true rfl) (Nat.le_of_ble_eq_true rfl) ?_
  refine Eq_vr dX3_work_99 rfl ?_
  exact ⟨rfl, (Fx.wI (Or.inl (by simp))).tr ((Fx.wI (Or.inl (by simp))).tr ((Fx.wI (Or.inl (by simp))).tr (Fx.wI (Or.inl (by simp))))), hT2.push hn3 _⟩
set_option maxHeartbeats 2000000 in
theorem c_work_6 {h : am_H} (hW : Wd h) {r s t : Nat} {l : List Int32} (hN : MN h r s t l) {st : List Int32} {x y : Int32} (hT : ST h r t (y :: x :: st)) (hl : (y :: x :: st).length ≤ l.length) : am_D 1 m_X3_work [.ref r, .int (nI 61), .ref 21] h (fun w h2 => w = none ∧ Fx [r, t] [] h h2 ∧ ST h2 r t (opv 6 x y :: st)) := by
  obtain ⟨hsr, hps, hpt, hss, hst_, hl6, hsg, hn1, hn2, hn3, hr8, hs8, ht8⟩ := id hN
  have hT1 := hT.pop hn3
  have hT2 := hT1.pop hn3
  have hN1 := hN.fx (Fx.wI (A := [r]) (B := []) (h := h) (r := r) (j := 2) (v := nI (x :: st).length) (Or.inl (by simp))) (by simp; exact hn1) (by simp)
  have hN2 := hN1.fx (Fx.wI (A := [r]) (B := []) (h := am_wI h r 2 (nI (x :: st).length)) (r := r) (j := 2) (v := nI st.length) (Or.inl (by simp))) (by simp; exact hn1) (by simp)
  simp only [List.length_cons] at hl
  refine Eq_iln dX3_work_0 rfl ?_
  refine Eq_S1 (N := m_X3_letterOf) dX3_work_1 lk_X3_52 mS_X3_letterOf ((by have z := c_letterOf (h := h) (x := some 61) (fun c hc => by cases hc; omega); exact z)) (by decide) (Nat.le_of_ble_eq_true rfl) (Nat.le_of_ble_eq_true rfl) ?_
  refine Eq_isn dX3_work_4 (by decide) ?_
  refine Eam_nl (pc' := 5) (l' := [_, _, _, _, _, _]) rfl rfl ?_
  refine Eq_iln dX3_work_5 rfl ?_
  refine Eq_ic (v := -1) dX3_work_6 rfl ?_
  refine Et_ic_eq 30 dX3_work_7 rfl (by rfl) ?_
  refine Eq_iln dX3_work_30 rfl ?_
  refine Eq_bp (v := nI 33) dX3_work_31 rfl ?_
  refine Et_ic_ne 55 dX3_work_33 rfl (by decide +kernel) ?_
  refine Eq_aln dX3_work_55 rfl ?_
  refine Eq_V0 (N := m_X3_pop) dX3_work_56 lk_X3_44 mV_X3_pop (c_pop hN hT (by simp only [List.length_cons]; omega)) (by decide) hsr rfl (by decide) (Nat.le_of_ble_eq_true rfl) (Nat.le_of_ble_eq_true rfl) ?_
  refine Eq_is dX3_work_59 (by decide) ?_
  refine Eam_nl (pc' := 61) (l' := [_, _, _, _, _, _]) rfl rfl ?_
  refine Eq_aln dX3_work_61 rfl ?_
  refine Eq_V0 (N := m_X3_pop) dX3_work_62 lk_X3_44 mV_X3_pop (c_pop hN1 hT1 (by simp only [List.length_cons]; omega)) (by decide) hsr rfl (by decide) (Nat.le_of_ble_eq_true rfl) (Nat.le_of_ble_eq_true rfl) ?_
  refine Eq_is dX3_work_65 (by decide) ?_
  refine Eam_nl (pc' := 67) (l' := [_, _, _, _, _, _]) rfl rfl ?_
  refine Eq_aln dX3_work_67 rfl ?_
  refine Eq_iln dX3_work_68 rfl ?_
  refine Eq_S1 (N := m_X3_isTruthSign) dX3_work_69 lk_X3_56 mS_X3_isTruthSign (c_isTruthSign_6) (by decide) (Nat.le_of_ble_eq_true rfl) (Nat.le_of_ble_eq_true rfl) ?_
  refine Ef_if_eq dX3_work_72 (tgt := 86) rfl (by exact zf1) ?_
  refine Eq_iln dX3_work_75 rfl ?_
  refine Eq_il dX3_work_76 rfl ?_
  refine Eq_il dX3_work_78 rfl ?_
  refine Eq_S3 (N := m_X3_truth) dX3_work_80 lk_X3_60 mS_X3_truth (c_truth_6) (by decide) (Nat.le_of_ble_eq_true rfl) (Nat.le_of_ble_eq_true rfl) ?_
  refine Eam_x_goto (tgt := 96) dX3_work_83 rfl ?_
  refine Eq_V1 (N := m_X3_push) dX3_work_96 lk_X3_40 mV_X3_push (c_push hN2 hT2 (by omega)) (by decide) hsr rfl (by decide) (Nat.le_of_ble_eq_true rfl) (Nat.le_of_ble_eq_true rfl) ?_
  refine Eq_vr dX3_work_99 rfl ?_
  exact ⟨rfl, (Fx.wI (Or.inl (by simp))).tr ((Fx.wI (Or.inl (by simp))).tr ((Fx.wI (Or.inl (by simp))).tr (Fx.wI (Or.inl (by simp))))), hT2.push hn3 _⟩
set_option maxHeartbeats 2000000 in
theorem c_work_7 {h : am_H} (hW : Wd h) {r s t : Nat} {l : List Int32} (hN : MN h r s t l) {st : List Int32} {x y : Int32} (hT : ST h r t (y :: x :: st)) (hl : (y :: x :: st).length ≤ l.length) : am_D 1 m_X3_work [.ref r, .int (nI 60), .ref 21] h (fun w h2 => w = none ∧ Fx [r, t] [] h h2 ∧ ST h2 r t (opv 7 x y :: st)) := by
  obtain ⟨hsr, hps, hpt, hss, hst_, hl6, hsg, hn1, hn2, hn3, hr8, hs8, ht8⟩ := id hN
  have hT1 := hT.pop hn3
  have hT2 := hT1.pop hn3
  have hN1 := hN.fx (Fx.wI (A := [r]) (B := []) (h := h) (r := r) (j := 2) (v := nI (x :: st).length) (Or.inl (by simp))) (by simp; exact hn1) (by simp)
  have hN2 := hN1.fx (Fx.wI (A := [r]) (B := []) (h := am_wI h r 2 (nI (x :: st).length)) (r := r) (j := 2) (v := nI st.length) (Or.inl (by simp))) (by simp; exact hn1) (by simp)
  simp only [List.length_cons] at hl
  refine Eq_iln dX3_work_0 rfl ?_
  refine Eq_S1 (N := m_X3_letterOf) dX3_work_1 lk_X3_52 mS_X3_letterOf ((by have z := c_letterOf (h := h) (x := some 60) (fun c hc => by cases hc; omega); exact z)) (by decide) (Nat.le_of_ble_eq_true rfl) (Nat.le_of_ble_eq_true rfl) ?_
  refine Eq_isn dX3_work_4 (by decide) ?_
  refine Eam_nl (pc' := 5) (l' := [_, _, _, _, _, _]) rfl rfl ?_
  refine Eq_iln dX3_work_5 rfl ?_
  refine Eq_ic (v := -1) dX3_work_6 rfl ?_
  refine Et_ic_eq 30 dX3_work_7 rfl (by rfl) ?_
  refine Eq_iln dX3_work_30 rfl ?_
  refine Eq_bp (v := nI 33) dX3_work_31 rfl ?_
  refine Et_ic_ne 55 dX3_work_33 rfl (by decide +kernel) ?_
  refine Eq_aln dX3_work_55 rfl ?_
  refine Eq_V0 (N := m_X3_pop) dX3_work_56 lk_X3_44 mV_X3_pop (c_pop hN hT (by simp only [List.length_cons]; omega)) (by decide) hsr rfl (by decide) (Nat.le_of_ble_eq_true rfl) (Nat.le_of_ble_eq_true rfl) ?_
  refine Eq_is dX3_work_59 (by decide) ?_
  refine Eam_nl (pc' := 61) (l' := [_, _, _, _, _, _]) rfl rfl ?_
  refine Eq_aln dX3_work_61 rfl ?_
  refine Eq_V0 (N := m_X3_pop) dX3_work_62 lk_X3_44 mV_X3_pop (c_pop hN1 hT1 (by simp only [List.length_cons]; omega)) (by decide) hsr rfl (by decide) (Nat.le_of_ble_eq_true rfl) (Nat.le_of_ble_eq_true rfl) ?_
  refine Eq_is dX3_work_65 (by decide) ?_
  refine Eam_nl (pc' := 67) (l' := [_, _, _, _, _, _]) rfl rfl ?_
  refine Eq_aln dX3_work_67 rfl ?_
  refine Eq_iln dX3_work_68 rfl ?_
  refine Eq_S1 (N := m_X3_isTruthSign) dX3_work_69 lk_X3_56 mS_X3_isTruthSign (c_isTruthSign_7) (by decide) (Nat.le_of_ble_eq_true rfl) (Nat.le_of_ble_eq_true rfl) ?_
  refine Ef_if_eq dX3_work_72 (tgt := 86) rfl (by exact zf1) ?_
  refine Eq_iln dX3_work_75 rfl ?_
  refine Eq_il dX3_work_76 rfl ?_
  refine Eq_il dX3_work_78 rfl ?_
  refine Eq_S3 (N := m_X3_truth) dX3_work_80 lk_X3_60 mS_X3_truth (c_truth_7) (by decide) (Nat.le_of_ble_eq_true rfl) (Nat.le_of_ble_eq_true rfl) ?_
  refine Eam_x_goto (tgt := 96) dX3_work_83 rfl ?_
  refine Eq_V1 (N := m_X3_push) dX3_work_96 lk_X3_40 mV_X3_push (c_push hN2 hT2 (by omega)) (by decide) hsr rfl (by decide) (Nat.le_of_ble_eq_true rfl) (Nat.le_of_ble_eq_true rfl) ?_
  refine Eq_vr dX3_work_99 rfl ?_
  exact ⟨rfl, (Fx.wI (Or.inl (by simp))).tr ((Fx.wI (Or.inl (by simp))).tr ((Fx.wI (Or.inl (by simp))).tr (Fx.wI (Or.inl (by simp))))), hT2.push hn3 _⟩
set_option maxHeartbeats 2000000 in
theorem c_work_8 {h : am_H} (hW : Wd h) {r s t : Nat} {l : List Int32} (hN : MN h r s t l) {st : List Int32} {x y : Int32} (hT : ST h r t (y :: x :: st)) (hl : (y :: x :: st).length ≤ l.length) : am_D 1 m_X3_work [.ref r, .int (nI 62), .ref 21] h (fun w h2 => w = none ∧ Fx [r, t] [] h h2 ∧ ST h2 r t (opv 8 x y :: st)) := by
  obtain ⟨hsr, hps, hpt, hss, hst_, hl6, hsg, hn1, hn2, hn3, hr8, hs8, ht8⟩ := id hN
  have hT1 := hT.pop hn3
  have hT2 := hT1.pop hn3
  have hN1 := hN.fx (Fx.wI (A := [r]) (B := []) (h := h) (r := r) (j := 2) (v := nI (x :: st).length) (Or.inl (by simp))) (by simp; exact hn1) (by simp)
  have hN2 := hN1.fx (Fx.wI (A := [r]) (B := []) (h := am_wI h r 2 (nI (x :: st).length)) (r := r) (j := 2) (v := nI st.length) (Or.inl (by simp))) (by simp; exact hn1) (by simp)
  simp only [List.length_cons] at hl
  refine Eq_iln dX3_work_0 rfl ?_
  refine Eq_S1 (N := m_X3_letterOf) dX3_work_1 lk_X3_52 mS_X3_letterOf ((by have z := c_letterOf (h := h) (x := some 62) (fun c hc => by cases hc; omega); exact z)) (by decide) (Nat.le_of_ble_eq_true rfl) (Nat.le_of_ble_eq_true rfl) ?_
  refine Eq_isn dX3_work_4 (by decide) ?_
  refine Eam_nl (pc' := 5) (l' := [_, _, _, _, _, _]) rfl rfl ?_
  refine Eq_iln dX3_work_5 rfl ?_
  refine Eq_ic (v := -1) dX3_work_6 rfl ?_
  refine Et_ic_eq 30 dX3_work_7 rfl (by rfl) ?_
  refine Eq_iln dX3_work_30 rfl ?_
  refine Eq_bp (v := nI 33) dX3_work_31 rfl ?_
  refine Et_ic_ne 55 dX3_work_33 rfl (by decide +kernel) ?_
  refine Eq_aln dX3_work_55 rfl ?_
  refine Eq_V0 (N := m_X3_pop) dX3_work_56 lk_X3_44 mV_X3_pop (c_pop hN hT (by simp only [List.length_cons]; omega)) (by decide) hsr rfl (by decide) (Nat.le_of_ble_eq_true rfl) (Nat.le_of_ble_eq_true rfl) ?_
  refine Eq_is dX3_work_59 (by decide) ?_
  refine Eam_nl (pc' := 61) (l' := [_, _, _, _, _, _]) rfl rfl ?_
  refine Eq_aln dX3_work_61 rfl ?_
  refine Eq_V0 (N := m_X3_pop) dX3_work_62 lk_X3_44 mV_X3_pop (c_pop hN1 hT1 (by simp only [List.length_cons]; omega)) (by decide) hsr rfl (by decide) (Nat.le_of_ble_eq_true rfl) (Nat.le_of_ble_eq_true rfl) ?_
  refine Eq_is dX3_work_65 (by decide) ?_
  refine Eam_nl (pc' := 67) (l' := [_, _, _, _, _, _]) rfl rfl ?_
  refine Eq_aln dX3_work_67 rfl ?_
  refine Eq_iln dX3_work_68 rfl ?_
  refine Eq_S1 (N := m_X3_isTruthSign) dX3_work_69 lk_X3_56 mS_X3_isTruthSign (c_isTruthSign_8) (by decide) (Nat.le_of_ble_eq_true rfl) (Nat.le_of_ble_eq_true rfl) ?_
  refine Ef_if_eq dX3_work_72 (tgt := 86) rfl (by exact zf1) ?_
  refine Eq_iln dX3_work_75 rfl ?_
  refine Eq_il dX3_work_76 rfl ?_
  refine Eq_il dX3_work_78 rfl ?_
  refine Eq_S3 (N := m_X3_truth) dX3_work_80 lk_X3_60 mS_X3_truth (c_truth_8) (by decide) (Nat.le_of_ble_eq_true rfl) (Nat.le_of_ble_eq_true rfl) ?_
  refine Eam_x_goto (tgt := 96) dX3_work_83 rfl ?_
  refine Eq_V1 (N := m_X3_push) dX3_work_96 lk_X3_40 mV_X3_push (c_push hN2 hT2 (by omega)) (by decide) hsr rfl (by decide) (Nat.le_of_ble_eq_true rfl) (Nat.le_of_ble_eq_true rfl) ?_
  refine Eq_vr dX3_work_99 rfl ?_
  exact ⟨rfl, (Fx.wI (Or.inl (by simp))).tr ((Fx.wI (Or.inl (by simp))).tr ((Fx.wI (Or.inl (by simp))).tr (Fx.wI (Or.inl (by simp))))), hT2.push hn3 _⟩
set_option maxHeartbeats 2000000 in
theorem c_work_10 {h : am_H} (hW : Wd h) {r s t : Nat} {l : List Int32} (hN : MN h r s t l) {st : List Int32} {x y : Int32} (hT : ST h r t (y :: x :: st)) (hl : (y :: x :: st).length ≤ l.length) : am_D 1 m_X3_work [.ref r, .int (nI 38), .ref 21] h (fun w h2 => w = none ∧ Fx [r, t] [] h h2 ∧ ST h2 r t (opv 10 x y :: st)) := by
  obtain ⟨hsr, hps, hpt, hss, hst_, hl6, hsg, hn1, hn2, hn3, hr8, hs8, ht8⟩ := id hN
  have hT1 := hT.pop hn3
  have hT2 := hT1.pop hn3
  have hN1 := hN.fx (Fx.wI (A := [r]) (B := []) (h := h) (r := r) (j := 2) (v := nI (x :: st).length) (Or.inl (by simp))) (by simp; exact hn1) (by simp)
  have hN2 := hN1.fx (Fx.wI (A := [r]) (B := []) (h := am_wI h r 2 (nI (x :: st).length)) (r := r) (j := 2) (v := nI st.length) (Or.inl (by simp))) (by simp; exact hn1) (by simp)
  simp only [List.length_cons] at hl
  refine Eq_iln dX3_work_0 rfl ?_
  refine Eq_S1 (N := m_X3_letterOf) dX3_work_1 lk_X3_52 mS_X3_letterOf ((by have z := c_letterOf (h := h) (x := some 38) (fun c hc => by cases hc; omega); exact z)) (by decide) (Nat.le_of_ble_eq_true rfl) (Nat.le_of_ble_eq_true rfl) ?_
  refine Eq_isn dX3_work_4 (by decide) ?_
  refine Eam_nl (pc' := 5) (l' := [_, _, _, _, _, _]) rfl rfl ?_
  refine Eq_iln dX3_work_5 rfl ?_
  refine Eq_ic (v := -1) dX3_work_6 rfl ?_
  refine Et_ic_eq 30 dX3_work_7 rfl (by rfl) ?_
  refine Eq_iln dX3_work_30 rfl ?_
  refine Eq_bp (v := nI 33) dX3_work_31 rfl ?_
  refine Et_ic_ne 55 dX3_work_33 rfl (by decide +kernel) ?_
  refine Eq_aln dX3_work_55 rfl ?_
  refine Eq_V0 (N := m_X3_pop) dX3_work_56 lk_X3_44 mV_X3_pop (c_pop hN hT (by simp only [List.length_cons]; omega)) (by decide) hsr rfl (by decide) (Nat.le_of_ble_eq_true rfl) (Nat.le_of_ble_eq_true rfl) ?_
  refine Eq_is dX3_work_59 (by decide) ?_
  refine Eam_nl (pc' := 61) (l' := [_, _, _, _, _, _]) rfl rfl ?_
  refine Eq_aln dX3_work_61 rfl ?_
  refine Eq_V0 (N := m_X3_pop) dX3_work_62 lk_X3_44 mV_X3_pop (c_pop hN1 hT1 (by simp only [List.length_cons]; omega)) (by decide) hsr rfl (by decide) (Nat.le_of_ble_eq_true rfl) (Nat.le_of_ble_eq_true rfl) ?_
  refine Eq_is dX3_work_65 (by decide) ?_
  refine Eam_nl (pc' := 67) (l' := [_, _, _, _, _, _]) rfl rfl ?_
  refine Eq_aln dX3_work_67 rfl ?_
  refine Eq_iln dX3_work_68 rfl ?_
  refine Eq_S1 (N := m_X3_isTruthSign) dX3_work_69 lk_X3_56 mS_X3_isTruthSign (c_isTruthSign_10) (by decide) (Nat.le_of_ble_eq_true rfl) (Nat.le_of_ble_eq_true rfl) ?_
  refine Ef_if_eq dX3_work_72 (tgt := 86) rfl (by exact zf1) ?_
  refine Eq_iln dX3_work_75 rfl ?_
  refine Eq_il dX3_work_76 rfl ?_
  refine Eq_il dX3_work_78 rfl ?_
  refine Eq_S3 (N := m_X3_truth) dX3_work_80 lk_X3_60 mS_X3_truth (c_truth_10) (by decide) (Nat.le_of_ble_eq_true rfl) (Nat.le_of_ble_eq_true rfl) ?_
  refine Eam_x_goto (tgt := 96) dX3_work_83 rfl ?_
  refine Eq_V1 (N := m_X3_push) dX3_work_96 lk_X3_40 mV_X3_push (c_push hN2 hT2 (by omega)) (by decide) hsr rfl (by decide) (Nat.le_of_ble_eq_true rfl) (Nat.le_of_ble_eq_true rfl) ?_
  refine Eq_vr dX3_work_99 rfl ?_
  exact ⟨rfl, (Fx.wI (Or.inl (by simp))).tr ((Fx.wI (Or.inl (by simp))).tr ((Fx.wI (Or.inl (by simp))).tr (Fx.wI (Or.inl (by simp))))), hT2.push hn3 _⟩
set_option maxHeartbeats 2000000 in
theorem c_work_11 {h : am_H} (hW : Wd h) {r s t : Nat} {l : List Int32} (hN : MN h r s t l) {st : List Int32} {x y : Int32} (hT : ST h r t (y :: x :: st)) (hl : (y :: x :: st).length ≤ l.length) : am_D 1 m_X3_work [.ref r, .int (nI 124), .ref 21] h (fun w h2 => w = none ∧ Fx [r, t] [] h h2 ∧ ST h2 r t (opv 11 x y :: st)) := by
  obtain ⟨hsr, hps, hpt, hss, hst_, hl6, hsg, hn1, hn2, hn3, hr8, hs8, ht8⟩ := id hN
  have hT1 := hT.pop hn3
  have hT2 := hT1.pop hn3
  have hN1 := hN.fx (Fx.wI (A := [r]) (B := []) (h := h) (r := r) (j := 2) (v := nI (x :: st).length) (Or.inl (by simp))) (by simp; exact hn1) (by simp)
  have hN2 := hN1.fx (Fx.wI (A := [r]) (B := []) (h := am_wI h r 2 (nI (x :: st).length)) (r := r) (j := 2) (v := nI st.length) (Or.inl (by simp))) (by simp; exact hn1) (by simp)
  simp only [List.length_cons] at hl
  refine Eq_iln dX3_work_0 rfl ?_
  refine Eq_S1 (N := m_X3_letterOf) dX3_work_1 lk_X3_52 mS_X3_letterOf ((by have z := c_letterOf (h := h) (x := some 124) (fun c hc => by cases hc; omega); exact z)) (by decide) (Nat.le_of_ble_eq_true rfl) (Nat.le_of_ble_eq_true rfl) ?_
  refine Eq_isn dX3_work_4 (by decide) ?_
  refine Eam_nl (pc' := 5) (l' := [_, _, _, _, _, _]) rfl rfl ?_
  refine Eq_iln dX3_work_5 rfl ?_
  refine Eq_ic (v := -1) dX3_work_6 rfl ?_
  refine Et_ic_eq 30 dX3_work_7 rfl (by rfl) ?_
  refine Eq_iln dX3_work_30 rfl ?_
  refine Eq_bp (v := nI 33) dX3_work_31 rfl ?_
  refine Et_ic_ne 55 dX3_work_33 rfl (by decide +kernel) ?_
  refine Eq_aln dX3_work_55 rfl ?_
  refine Eq_V0 (N := m_X3_pop) dX3_work_56 lk_X3_44 mV_X3_pop (c_pop hN hT (by simp only [List.length_cons]; omega)) (by decide) hsr rfl (by decide) (Nat.le_of_ble_eq_true rfl) (Nat.le_of_ble_eq_true rfl) ?_
  refine Eq_is dX3_work_59 (by decide) ?_
  refine Eam_nl (pc' := 61) (l' := [_, _, _, _, _, _]) rfl rfl ?_
  refine Eq_aln dX3_work_61 rfl ?_
  refine Eq_V0 (N := m_X3_pop) dX3_work_62 lk_X3_44 mV_X3_pop (c_pop hN1 hT1 (by simp only [List.length_cons]; omega)) (by decide) hsr rfl (by decide) (Nat.le_of_ble_eq_true rfl) (Nat.le_of_ble_eq_true rfl) ?_
  refine Eq_is dX3_work_65 (by decide) ?_
  refine Eam_nl (pc' := 67) (l' := [_, _, _, _, _, _]) rfl rfl ?_
  refine Eq_aln dX3_work_67 rfl ?_
  refine Eq_iln dX3_work_68 rfl ?_
  refine Eq_S1 (N := m_X3_isTruthSign) dX3_work_69 lk_X3_56 mS_X3_isTruthSign (c_isTruthSign_11) (by decide) (Nat.le_of_ble_eq_true rfl) (Nat.le_of_ble_eq_true rfl) ?_
  refine Ef_if_eq dX3_work_72 (tgt := 86) rfl (by exact zf1) ?_
  refine Eq_iln dX3_work_75 rfl ?_
  refine Eq_il dX3_work_76 rfl ?_
  refine Eq_il dX3_work_78 rfl ?_
  refine Eq_S3 (N := m_X3_truth) dX3_work_80 lk_X3_60 mS_X3_truth (c_truth_11) (by decide) (Nat.le_of_ble_eq_true rfl) (Nat.le_of_ble_eq_true rfl) ?_
  refine Eam_x_goto (tgt := 96) dX3_work_83 rfl ?_
  refine Eq_V1 (N := m_X3_push) dX3_work_96 lk_X3_40 mV_X3_push (c_push hN2 hT2 (by omega)) (by decide) hsr rfl (by decide) (Nat.le_of_ble_eq_true rfl) (Nat.le_of_ble_eq_true rfl) ?_
  refine Eq_vr dX3_work_99 rfl ?_
  exact ⟨rfl, (Fx.wI (Or.inl (by simp))).tr ((Fx.wI (Or.inl (by simp))).tr ((Fx.wI (Or.inl (by simp))).tr (Fx.wI (Or.inl (by simp))))), hT2.push hn3 _⟩
