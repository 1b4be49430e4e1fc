/-! the class's best seatings -/
def KP (h : am_H) (hm : Option (List (Tks × Tks))) (n : Nat) (g : Bool) (F : Nat → Nat → Nat) : Prop := ∀ w, w < 3 → am_i h 26 w = nI 0 ∨ (am_i h 26 w = nI 1 ∧ am_i h 27 w = bsB n (bst hm n g F w) ∧ am_i h 28 w = bsM (bst hm n g F w))
theorem KP.fx {A : List Nat} {B : List (Nat × Nat)} {h h' : am_H} {hm : Option (List (Tks × Tks))} {n : Nat} {g : Bool} {F : Nat → Nat → Nat} (m : KP h hm n g F) (a : Fx A B h h') (ok : 26 ∉ A ∧ 27 ∉ A ∧ 28 ∉ A ∧ 26 ∉ B.map Prod.fst ∧ 27 ∉ B.map Prod.fst ∧ 28 ∉ B.map Prod.fst) : KP h' hm n g F := by
  unfold KP at m ⊢
  rw [a.ia ok.1 ok.2.2.2.1, a.ia ok.2.1 ok.2.2.2.2.1, a.ia ok.2.2.1 ok.2.2.2.2.2]
  exact m
theorem KP.z {h : am_H} {hm : Option (List (Tks × Tks))} {n : Nat} {g : Bool} {F : Nat → Nat → Nat} (m : ∀ w, w < 3 → am_i h 26 w = nI 0) : KP h hm n g F := fun w hw => Or.inl (m w hw)
theorem AR.nil {h : am_H} {F : Nat → Nat → Nat} : AR h (al F []) := ⟨Nat.zero_le _, fun i hi => absurd hi (Nat.not_lt_zero _)⟩
theorem OR'.nil {h : am_H} : OR' h [] := ⟨Nat.zero_le _, fun i hi => absurd hi (Nat.not_lt_zero _)⟩
theorem US.nil : US [] 0 := ⟨by omega, fun m _ => by rw [Nat.zero_testBit]; simp⟩
theorem bst_tot {hm : Option (List (Tks × Tks))} (hT : HT hm) {n : Nat} {g : Bool} {F : Nat → Nat → Nat} (hF : FS n F) (hF1 : ∀ m, m < n → F 1 m ≤ 20) {w : Nat} (hw : w < 3) (h0 : 0 < n) (h7 : n ≤ 7) : jdl (tot hm n g F w) none (lvx n n []) = bst hm n g F w := jdl_cong (fun l hl => by
  obtain ⟨h1, h2, h3, _⟩ := lvx_mem hl List.nodup_nil (fun x hx => by cases hx)
  exact tot_w hT hF hF1 hw h0 h7 h1 h2 (by rw [h3]; simp))
theorem bst_some {hm : Option (List (Tks × Tks))} {n : Nat} {g : Bool} {F : Nat → Nat → Nat} {w : Nat} : ∃ b, bst hm n g F w = some b := by
  have hne := lvx_ne (n := n) (k := n) (pre := []) List.nodup_nil (fun x hx => by cases hx) (by simp)
  have hh : ∀ (L : List (List Nat)) (st : Option (Int × List Nat)), (st ≠ none ∨ L ≠ []) → ∃ b, jdl (bstv hm n g F w) st L = some b := by
    intro L
    induction L with
    | nil => intro st h; cases st with
      | none => simp at h
      | some b => exact ⟨b, rfl⟩
    | cons l L ih =>
      intro st _
      refine ih (jd (bstv hm n g F w) st l) (Or.inl ?_)
      unfold jd
      cases st with
      | none => simp
      | some b => dsimp only; split <;> simp
  exact hh _ none (Or.inr hne)
set_option maxHeartbeats 2000000 in
theorem c_search {h : am_H} {n : Nat} {g : Bool} {F : Nat → Nat → Nat} (hW : Wd h) (hM : MB h n g F) {q : Option (Nat × Nat × Nat × List (Tks × Tks))} (hq : CHd h q) (h2n : 2 ≤ n) (hK : KP h (hmo q) n g F) {w : Nat} (hw : w < 3) : am_D 12 m_X0_search [.ref 20, .int (nI w)] h (fun v h2 => v = none ∧ Fx ([22, 23, 24, 25, 26, 27, 28] ++ FL q) [(20, 7), (20, 8), (20, 9), (20, 10), (20, 11)] h h2 ∧ KP h2 (hmo q) n g F ∧ am_i h2 26 w = nI 1) := by
  have h7 := hM.2.2.1
  have hF : FS n F := fun i m hi hm => (hM.2.2.2.1 i m hi hm).2
  have hF1 : ∀ m, m < n → F 1 m ≤ 20 := fun m hm => (hM.2.2.2.2 m hm).2.2.2.1
  have hT := hq.HT
  rcases hK w hw with hk0 | ⟨hk1, hkd, hks⟩
  · obtain ⟨mr, hmr⟩ : ∃ mr, mr = if w = 2 then mrd F n g else 0 := ⟨_, rfl⟩
    have hmr7 : mr ≤ 7000 := by rw [hmr]; split; exact mrd_le; omega
    have hct : ct (fun m => decide (F 3 m ≠ 1)) n ≤ 7 := Nat.le_trans (ct_le _ _) h7
    obtain ⟨bb, hbb⟩ := bst_some (hm := hmo q) (n := n) (g := g) (F := F) (w := w)
    have at58 : ∀ h3, Fx ([22, 23] ++ FL q) [(20, 7), (20, 8)] h h3 → Wd h3 → MB h3 n g F → PSt h3 (hmo q) n g F (lfs (hmo q) n g F) (ct (fun m => decide (F 3 m ≠ 1)) n) mr w → am_E 12 m_X0_search 58 [some (.ref 20), some (.int (nI w))] [] h3 (fun v h2 => v = none ∧ Fx ([22, 23, 24, 25, 26, 27, 28] ++ FL q) [(20, 7), (20, 8), (20, 9), (20, 10), (20, 11)] h h2 ∧ KP h2 (hmo q) n g F ∧ am_i h2 26 w = nI 1) := by
      intro h3 hf3 hW3 hM3 hP3
      have k4 : Fx [] [(20, 9)] h3 (am_wI h3 20 9 (nI 0)) := Fx.wI (Or.inr (by decide))
      have hpl : am_D (n + 4) m_X0_place [.ref 20, .int (nI w), .int (nI 0), .int (nI 0), .int (nI 0), .int (nI 0)] (am_wI h3 20 9 (nI 0)) (fun v h2 => v = none ∧ Fx [24, 25] [(20, 9), (20, 10), (20, 11)] (am_wI h3 20 9 (nI 0)) h2 ∧ BSt h2 n (some bb)) := by
        have z := c_place h7 h2n (hm := hmo q) (lf := lfs (hmo q) n g F) (AL := ct (fun m => decide (F 3 m ≠ 1)) n) (mr := mr) (w := w) (gn_bd hT hF) (la_bd hT (by omega) hF) (lfs_bd hT hF h2n h7) (hok_w h2n hw (fun e => by rw [hmr, if_pos e]; exact mrd_ok h7)) n [] 0 (am_wI h3 20 9 (nI 0)) none List.nodup_nil (fun x hx => by cases hx) (by simp) US.nil (k4.Wd hW3) (hM3.fx k4 (by decide)) (hP3.fx k4 (by decide)) OR'.nil AR.nil wI_e0
        rw [bst_tot hT hF hF1 hw (by omega) h7, hbb] at z
        have e0 : zI (psm (gn (hmo q) g F w []) ([] : List Nat).length) = nI 0 := zI_0
        rw [e0] at z
        exact z.mono (fun v h2 y => ⟨y.1, y.2.1, y.2.2.2.2⟩)
      refine Eq_aln dX0_search_58 rfl ?_
      refine Eq_ic (v := nI 0) dX0_search_59 rfl ?_
      refine Eam_x_putI dX0_search_60 (fw_X0_111 rfl) (ws_20 hW3) (Or.inr ⟨rfl, by first | exact Or.inl rfl | exact Or.inr rfl | assumption⟩) ?_
      refine Eq_aln dX0_search_63 rfl ?_
      refine Eq_iln dX0_search_64 rfl ?_
      refine Eq_ic (v := nI 0) dX0_search_65 rfl ?_
      refine Eq_ic (v := nI 0) dX0_search_66 rfl ?_
      refine Eq_ic (v := nI 0) dX0_search_67 rfl ?_
      refine Eq_ic (v := nI 0) dX0_search_68 rfl ?_
      refine Eq_W5 (N := m_X0_place) dX0_search_69 lk_X0_114 mV_X0_place (hpl) (by omega) (ws_20 hW3) rfl (by decide) (Nat.le_of_ble_eq_true rfl) (Nat.le_of_ble_eq_true rfl) (fun vq hq1 hq2 => ?_)
      obtain ⟨rfl, hf5, hB5⟩ := hq2
      have hW5 := hf5.Wd (k4.Wd hW3)
      obtain ⟨b9, b10, b11, b1, b2⟩ := hB5
      refine Eq_aln dX0_search_72 rfl ?_
      refine Eq_getR dX0_search_73 fl_X0_44 (ws_20 hW5) rfl (wp_20_13 hW5) ?_
      refine Eq_iln dX0_search_76 rfl ?_
      refine Eq_aln dX0_search_77 rfl ?_
      refine Eq_getI dX0_search_78 fl_X0_118 (ws_20 hW5) rfl (by first | exact b11 | exact b10) ?_
      refine Eq_ast dX0_search_81 (ws_27 hW5) (by omega) (by omega) ?_
      refine Eq_aln dX0_search_82 rfl ?_
      refine Eq_getR dX0_search_83 fl_X0_47 (ws_20 hW5) rfl (wp_20_14 hW5) ?_
      refine Eq_iln dX0_search_86 rfl ?_
      refine Eq_aln dX0_search_87 rfl ?_
      refine Eq_getI dX0_search_88 fl_X0_121 (ws_20 hW5) rfl (by first | exact b11 | exact b10) ?_
      refine Eq_ast dX0_search_91 (ws_28 hW5) (by omega) (by omega) ?_
      refine Eq_aln dX0_search_92 rfl ?_
      refine Eq_getR dX0_search_93 fl_X0_40 (ws_20 hW5) rfl (wp_20_12 hW5) ?_
      refine Eq_iln dX0_search_96 rfl ?_
      refine Eq_ic (v := nI 1) dX0_search_97 rfl ?_
      refine Eq_zst dX0_search_98 (ws_26 hW5) (by omega) (by omega) (by first | exact Or.inl rfl | exact Or.inr rfl | assumption) ?_
      refine Eq_vr dX0_search_99 rfl ?_
      (refine ⟨rfl, ?_, ?_, by rw [wI_e0]⟩
       · refine Fx.tr (hf3.mono (fun x hx => ?_) (fun x hx => ?_)) (Fx.tr (k4.mono (fun x hx => by cases hx) (fun x hx => ?_)) (Fx.tr (hf5.mono (fun x hx => ?_) (fun x hx => ?_)) (Fx.tr (Fx.wI (Or.inl (by simp))) (Fx.tr (Fx.wI (Or.inl (by simp))) (Fx.wI (Or.inl (by simp)))))))
         · simp only [List.mem_append, List.mem_cons, List.not_mem_nil, or_false] at hx ⊢
           rcases hx with z | z
           · exact Or.inl (by omega)
           · exact Or.inr z
         · refine Or.inr ?_
           simp only [List.mem_cons, List.not_mem_nil, or_false] at hx ⊢
           rcases hx with z | z <;> simp [z]
         · refine Or.inr ?_
           simp only [List.mem_cons, List.not_mem_nil, or_false] at hx ⊢
           simp [hx]
         · simp only [List.mem_append, List.mem_cons, List.not_mem_nil, or_false] at hx ⊢
           exact Or.inl (by omega)
         · refine Or.inr ?_
           simp only [List.mem_cons, List.not_mem_nil, or_false] at hx ⊢
           rcases hx with z | z | z <;> simp [z]
       · have hKq : KP hq1 (hmo q) n g F := ((hK.fx hf3 ⟨FLa hq (by decide) (by decide) (by decide), FLa hq (by decide) (by decide) (by decide), FLa hq (by decide) (by decide) (by decide), by decide, by decide, by decide⟩).fx k4 (by decide)).fx hf5 (by decide)
         intro v hv
         by_cases e : v = w
         · subst e
           refine Or.inr ⟨by rw [wI_e0], ?_, ?_⟩
           · rw [wI_ne (by decide), wI_ne (by decide), wI_e0, hbb]; rfl
           · rw [wI_ne (by decide), wI_e0, hbb]; rfl
         · rw [wI_o e, wI_ne (by decide), wI_ne (by decide)]
           rw [wI_ne (by decide), wI_ne (by decide), wI_o e]
           rw [wI_ne (by decide), wI_o e, wI_ne (by decide)]
           exact hKq v hv)
    have at27 : ∀ h1, Fx ([22, 23] ++ FL q) [] h h1 → Wd h1 → MB h1 n g F → (w = 0 → WT h1 (hmo q) n g F ∧ ∀ s, s < 8 → am_i h1 23 s = zI (lfs (hmo q) n g F s)) → am_E 12 m_X0_search 27 [some (.ref 20), some (.int (nI w))] [] h1 (fun v h2 => v = none ∧ Fx ([22, 23, 24, 25, 26, 27, 28] ++ FL q) [(20, 7), (20, 8), (20, 9), (20, 10), (20, 11)] h h2 ∧ KP h2 (hmo q) n g F ∧ am_i h2 26 w = nI 1) := by
      intro h1 hf1 hW1 hM1 hP1
      have hbc := c_bitCount (h := h1) (bt_128 (fun m => decide (F 3 m ≠ 1)) h7)
      rw [popc_bt _ h7] at hbc
      have k2 : Fx [] [(20, 7)] h1 (am_wI h1 20 7 (nI (ct (fun m => decide (F 3 m ≠ 1)) n))) := Fx.wI (Or.inr (by decide))
      have k3 : Fx [] [(20, 7), (20, 8)] h1 (am_wI (am_wI h1 20 7 (nI (ct (fun m => decide (F 3 m ≠ 1)) n))) 20 8 (nI mr)) := (Fx.wI (Or.inr (by decide))).tr (Fx.wI (Or.inr (by decide)))
      have hfin := at58 _ ((hf1.mono (fun x hx => hx) (fun x hx => by cases hx)).tr (k3.mono (fun x hx => by cases hx) (fun x hx => Or.inr hx))) (k3.Wd hW1) (hM1.fx k3 (by decide)) ⟨fun e => ⟨fun a b s a1 a2 a3 a4 => (hP1 e).1 a b s a1 a2 a3 a4, fun s hs => (hP1 e).2 s hs⟩, by rw [wI_o (by decide), wI_e0], wI_e0, hct, hmr7, hw⟩
      by_cases e2 : w = 2
      · have hrh := c_roundHope (k2.Wd hW1) (hM1.fx k2 (by decide)) (by omega)
        rw [show mrd F n g = mr by rw [hmr, if_pos e2]] at hrh
        refine Eq_aln dX0_search_27 rfl ?_
        refine Eq_aln dX0_search_28 rfl ?_
        refine Eq_getR dX0_search_29 fl_X0_9 (ws_20 hW1) rfl (wp_20_0 hW1) ?_
        refine Eq_V0 (N := m_X5_living) dX0_search_32 lk_X0_93 mV_X5_living (c_living hW1 hM1) (by omega) (ws_9 hW1) rfl (by decide) (Nat.le_of_ble_eq_true rfl) (Nat.le_of_ble_eq_true rfl) ?_
        refine Eq_S1 (N := m_J6_bitCount_0f7a4) dX0_search_35 lk_X0_97 mS_J6_bitCount_0f7a4 (hbc) (by omega) (Nat.le_of_ble_eq_true rfl) (Nat.le_of_ble_eq_true rfl) ?_
        refine Eam_x_putI dX0_search_38 (fw_X0_102 rfl) (ws_20 hW1) (Or.inl rfl) ?_
        refine Eq_aln dX0_search_41 rfl ?_
        refine Eq_iln dX0_search_42 rfl ?_
        refine Eq_ic (v := nI 2) dX0_search_43 rfl ?_
        refine Ef_ic_ne dX0_search_44 (tgt := 54) rfl (by rw [e2]) ?_
        refine Eq_aln dX0_search_47 rfl ?_
        refine Eq_V0 (N := m_X0_roundHope) dX0_search_48 lk_X0_105 mV_X0_roundHope (hrh) (by omega) (ws_20 hW1) rfl (by decide) (Nat.le_of_ble_eq_true rfl) (Nat.le_of_ble_eq_true rfl) ?_
        refine Eam_x_goto (tgt := 55) dX0_search_51 rfl ?_
        refine Eam_x_putI dX0_search_55 (fw_X0_108 rfl) (ws_20 hW1) (Or.inl rfl) ?_
        exact hfin
      · have hm0 : mr = 0 := by rw [hmr, if_neg e2]
        rw [hm0] at hfin
        refine Eq_aln dX0_search_27 rfl ?_
        refine Eq_aln dX0_search_28 rfl ?_
        refine Eq_getR dX0_search_29 fl_X0_9 (ws_20 hW1) rfl (wp_20_0 hW1) ?_
        refine Eq_V0 (N := m_X5_living) dX0_search_32 lk_X0_93 mV_X5_living (c_living hW1 hM1) (by omega) (ws_9 hW1) rfl (by decide) (Nat.le_of_ble_eq_true rfl) (Nat.le_of_ble_eq_true rfl) ?_
        refine Eq_S1 (N := m_J6_bitCount_0f7a4) dX0_search_35 lk_X0_97 mS_J6_bitCount_0f7a4 (hbc) (by omega) (Nat.le_of_ble_eq_true rfl) (Nat.le_of_ble_eq_true rfl) ?_
        refine Eam_x_putI dX0_search_38 (fw_X0_102 rfl) (ws_20 hW1) (Or.inl rfl) ?_
        refine Eq_aln dX0_search_41 rfl ?_
        refine Eq_iln dX0_search_42 rfl ?_
        refine Eq_ic (v := nI 2) dX0_search_43 rfl ?_
        refine Et_ic_ne 54 dX0_search_44 rfl (by exact fun z => e2 ((nI_eq (by omega) (by omega)).mp z)) ?_
        refine Eq_ic (v := nI 0) dX0_search_54 rfl ?_
        refine Eam_x_putI dX0_search_55 (fw_X0_108 rfl) (ws_20 hW1) (Or.inl rfl) ?_
        exact hfin
    by_cases e0 : w = 0
    · subst e0
      refine Eq_iln dX0_search_0 rfl ?_
      refine En_if_lt (tgt := 18) dX0_search_1 rfl (by omega) ?_
      refine Eq_iln dX0_search_4 rfl ?_
      refine Eq_ic (v := nI 3) dX0_search_5 rfl ?_
      refine Ef_ic_ge dX0_search_6 (tgt := 18) rfl (by exact nI_ge (b := 3) (by omega) (by omega)) ?_
      refine Eq_aln dX0_search_9 rfl ?_
      refine Eq_getR dX0_search_10 fl_X0_40 (ws_20 hW) rfl (wp_20_12 hW) ?_
      refine Eq_iln dX0_search_13 rfl ?_
      refine Eq_zld dX0_search_14 (ws_26 hW) (by omega) (by omega) hk0 ?_
      refine Et_if_eq 19 dX0_search_15 rfl (by rfl) ?_
      refine Eq_iln dX0_search_19 rfl ?_
      refine Ef_if_ne dX0_search_20 (tgt := 27) rfl (by rfl) ?_
      refine Eq_aln dX0_search_23 rfl ?_
      refine Eq_W0 (N := m_X0_fillWorths) dX0_search_24 lk_X0_90 mV_X0_fillWorths (c_fillWorths hW hM hq h2n) (by omega) (ws_20 hW) rfl (by decide) (Nat.le_of_ble_eq_true rfl) (Nat.le_of_ble_eq_true rfl) (fun vq hq1 hq2 => ?_)
      obtain ⟨rfl, hf2, hw2, hl2⟩ := hq2
      exact at27 _ hf2 (hf2.Wd hW) (hM.fl hq hf2 (by decide)) (fun _ => ⟨hw2, hl2⟩)
    · have hw0 : ¬ nI w = 0 := fun z => e0 ((n_0 (by omega)).mp z)
      refine Eq_iln dX0_search_0 rfl ?_
      refine En_if_lt (tgt := 18) dX0_search_1 rfl (by omega) ?_
      refine Eq_iln dX0_search_4 rfl ?_
      refine Eq_ic (v := nI 3) dX0_search_5 rfl ?_
      refine Ef_ic_ge dX0_search_6 (tgt := 18) rfl (by exact nI_ge (b := 3) (by omega) (by omega)) ?_
      refine Eq_aln dX0_search_9 rfl ?_
      refine Eq_getR dX0_search_10 fl_X0_40 (ws_20 hW) rfl (wp_20_12 hW) ?_
      refine Eq_iln dX0_search_13 rfl ?_
      refine Eq_zld dX0_search_14 (ws_26 hW) (by omega) (by omega) hk0 ?_
      refine Et_if_eq 19 dX0_search_15 rfl (by rfl) ?_
      refine Eq_iln dX0_search_19 rfl ?_
      refine Et_if_ne 27 dX0_search_20 rfl (by exact hw0) ?_
      exact at27 h Fx.rf hW hM (fun z => absurd z e0)
  · refine Eq_iln dX0_search_0 rfl ?_
    refine En_if_lt (tgt := 18) dX0_search_1 rfl (by omega) ?_
    refine Eq_iln dX0_search_4 rfl ?_
    refine Eq_ic (v := nI 3) dX0_search_5 rfl ?_
    refine Ef_ic_ge dX0_search_6 (tgt := 18) rfl (by exact nI_ge (b := 3) (by omega) (by omega)) ?_
    refine Eq_aln dX0_search_9 rfl ?_
    refine Eq_getR dX0_search_10 fl_X0_40 (ws_20 hW) rfl (wp_20_12 hW) ?_
    refine Eq_iln dX0_search_13 rfl ?_
    refine Eq_zld dX0_search_14 (ws_26 hW) (by omega) (by omega) hk1 ?_
    refine Ef_if_eq dX0_search_15 (tgt := 19) rfl (by exact zf1) ?_
    refine Eq_vr dX0_search_18 rfl ?_
    exact ⟨rfl, Fx.rf, hK, hk1⟩
set_option maxHeartbeats 2000000 in
theorem c_seatingFor {h : am_H} (hW : Wd h) {w : Nat} (hw : w < 3) {v : Int32} (hv : am_i h 27 w = v) : am_C 0 m_X0_seatingFor [.ref 20, .int (nI w)] h (some (.int v), h) := by
  refine q_iln dX0_seatingFor_0 rfl ?_
  refine n_if_lt (tgt := 18) dX0_seatingFor_1 rfl (by omega) ?_
  refine q_iln dX0_seatingFor_4 rfl ?_
  refine q_ic (v := nI 3) dX0_seatingFor_5 rfl ?_
  refine f_ic_ge dX0_seatingFor_6 (tgt := 18) rfl (by exact nI_ge (b := 3) (by omega) (by omega)) ?_
  refine q_aln dX0_seatingFor_9 rfl ?_
  refine q_getR dX0_seatingFor_10 fl_X0_44 (ws_20 hW) rfl (wp_20_13 hW) ?_
  refine q_iln dX0_seatingFor_13 rfl ?_
  refine q_ald dX0_seatingFor_14 (ws_27 hW) (by omega) (by omega) hv ?_
  refine am_x_goto (tgt := 20) dX0_seatingFor_15 rfl ?_
  refine q_ir dX0_seatingFor_20 rfl ?_
  rfl
set_option maxHeartbeats 2000000 in
theorem c_muchFor {h : am_H} (hW : Wd h) {w : Nat} (hw : w < 3) {v : Int32} (hv : am_i h 28 w = v) : am_C 0 m_X0_muchFor [.ref 20, .int (nI w)] h (some (.int (if w = 0 then -v else v)), h) := by
  by_cases e0 : w = 0
  · subst e0
    rw [if_pos rfl]
    refine q_iln dX0_muchFor_0 rfl ?_
    refine n_if_lt (tgt := 9) dX0_muchFor_1 rfl (by omega) ?_
    refine q_iln dX0_muchFor_4 rfl ?_
    refine q_ic (v := nI 3) dX0_muchFor_5 rfl ?_
    refine t_ic_lt 12 dX0_muchFor_6 rfl (by exact nI_lt (b := 3) (by omega) (by omega)) ?_
    refine q_iln dX0_muchFor_12 rfl ?_
    refine f_if_ne dX0_muchFor_13 (tgt := 26) rfl (by rfl) ?_
    refine q_aln dX0_muchFor_16 rfl ?_
    refine q_getR dX0_muchFor_17 fl_X0_47 (ws_20 hW) rfl (wp_20_14 hW) ?_
    refine q_iln dX0_muchFor_20 rfl ?_
    refine q_ald dX0_muchFor_21 (ws_28 hW) (by omega) (by omega) hv ?_
    refine am_x_pu dX0_muchFor_22 rfl ?_
    refine am_x_goto (tgt := 32) dX0_muchFor_23 rfl ?_
    refine q_ir dX0_muchFor_32 rfl ?_
    rfl
  · rw [if_neg e0]
    have hw0 : ¬ nI w = 0 := fun z => e0 ((n_0 (by omega)).mp z)
    refine q_iln dX0_muchFor_0 rfl ?_
    refine n_if_lt (tgt := 9) dX0_muchFor_1 rfl (by omega) ?_
    refine q_iln dX0_muchFor_4 rfl ?_
    refine q_ic (v := nI 3) dX0_muchFor_5 rfl ?_
    refine t_ic_lt 12 dX0_muchFor_6 rfl (by exact nI_lt (b := 3) (by omega) (by omega)) ?_
    refine q_iln dX0_muchFor_12 rfl ?_
    refine t_if_ne 26 dX0_muchFor_13 rfl (by exact hw0) ?_
    refine q_aln dX0_muchFor_26 rfl ?_
    refine q_getR dX0_muchFor_27 fl_X0_47 (ws_20 hW) rfl (wp_20_14 hW) ?_
    refine q_iln dX0_muchFor_30 rfl ?_
    refine q_ald dX0_muchFor_31 (ws_28 hW) (by omega) (by omega) hv ?_
    refine q_ir dX0_muchFor_32 rfl ?_
    rfl
set_option maxHeartbeats 2000000 in
theorem c_best {h : am_H} {n : Nat} {g : Bool} {F : Nat → Nat → Nat} (hW : Wd h) (hM : MB h n g F) {q : Option (Nat × Nat × Nat × List (Tks × Tks))} (hq : CHd h q) (h2n : n = 0 ∨ 2 ≤ n) (hK : KP h (hmo q) n g F) {x1 x2 : Int32} : am_D 13 m_X11_best [.ref 0, .int x1, .int x2] h (fun v h2 => v = some (.int (beV (hmo q) n g F x1 x2)) ∧ Fx ([22, 23, 24, 25, 26, 27, 28] ++ FL q) [(20, 7), (20, 8), (20, 9), (20, 10), (20, 11)] h h2 ∧ KP h2 (hmo q) n g F) := by
  have h7 := hM.2.2.1
  by_cases h0 : n = 0
  · have hv : beV (hmo q) n g F x1 x2 = -100000000 := by
      unfold beV
      split
      · rw [if_pos h0]
      · rfl
    rw [hv]
    refine Eq_aln dX11_best_0 rfl ?_
    refine Eq_getR dX11_best_1 fl_X11_48 (ws_0 hW) rfl (wp_0_6 hW) ?_
    refine Eq_getI dX11_best_4 fl_X11_146 (ws_9 hW) rfl hM.1 ?_
    refine Et_if_eq 28 dX11_best_7 rfl (by rw [h0]; rfl) ?_
    refine Eam_x_ldc dX11_best_28 kc_X11_252 ?_
    refine Eq_ir dX11_best_30 rfl ?_
    exact ⟨rfl, Fx.rf, hK⟩
  · cases hr : rg x1 (3) with
    | none =>
      rcases rg_none (by omega) hr with hx | ⟨hx, hy⟩
      · rw [show beV (hmo q) n g F x1 x2 = -100000000 by unfold beV; rw [hr]]
        refine Eq_aln dX11_best_0 rfl ?_
        refine Eq_getR dX11_best_1 fl_X11_48 (ws_0 hW) rfl (wp_0_6 hW) ?_
        refine Eq_getI dX11_best_4 fl_X11_146 (ws_9 hW) rfl hM.1 ?_
        refine Ef_if_eq dX11_best_7 (tgt := 28) rfl (by exact nI_ne0 (by omega) (by omega)) ?_
        refine Eq_iln dX11_best_10 rfl ?_
        refine Et_if_lt 28 dX11_best_11 rfl (by exact hx) ?_
        refine Eam_x_ldc dX11_best_28 kc_X11_252 ?_
        refine Eq_ir dX11_best_30 rfl ?_
        exact ⟨rfl, Fx.rf, hK⟩
      · rw [show beV (hmo q) n g F x1 x2 = -100000000 by unfold beV; rw [hr]]
        refine Eq_aln dX11_best_0 rfl ?_
        refine Eq_getR dX11_best_1 fl_X11_48 (ws_0 hW) rfl (wp_0_6 hW) ?_
        refine Eq_getI dX11_best_4 fl_X11_146 (ws_9 hW) rfl hM.1 ?_
        refine Ef_if_eq dX11_best_7 (tgt := 28) rfl (by exact nI_ne0 (by omega) (by omega)) ?_
        refine Eq_iln dX11_best_10 rfl ?_
        refine Ef_if_lt dX11_best_11 (tgt := 28) rfl (by exact hx) ?_
        refine Eq_iln dX11_best_14 rfl ?_
        refine Eq_ic (v := nI 2) dX11_best_15 rfl ?_
        refine Et_ic_gt 28 dX11_best_16 rfl (by exact rg_gt2 (by omega) hy) ?_
        refine Eam_x_ldc dX11_best_28 kc_X11_252 ?_
        refine Eq_ir dX11_best_30 rfl ?_
        exact ⟨rfl, Fx.rf, hK⟩
    | some w =>
      obtain ⟨rfl, hw⟩ := rg_some (by omega) hr
      cases hr2 : rg x2 (2) with
      | none =>
        rcases rg_none (by omega) hr2 with hx | ⟨hx, hy⟩
        · rw [show beV (hmo q) n g F (nI w) x2 = -100000000 by unfold beV; rw [hr, hr2]]
          refine Eq_aln dX11_best_0 rfl ?_
          refine Eq_getR dX11_best_1 fl_X11_48 (ws_0 hW) rfl (wp_0_6 hW) ?_
          refine Eq_getI dX11_best_4 fl_X11_146 (ws_9 hW) rfl hM.1 ?_
          refine Ef_if_eq dX11_best_7 (tgt := 28) rfl (by exact nI_ne0 (by omega) (by omega)) ?_
          refine Eq_iln dX11_best_10 rfl ?_
          refine En_if_lt (tgt := 28) dX11_best_11 rfl (by omega) ?_
          refine Eq_iln dX11_best_14 rfl ?_
          refine Eq_ic (v := nI 2) dX11_best_15 rfl ?_
          refine Ef_ic_gt dX11_best_16 (tgt := 28) rfl (by exact nI_nlt (by omega) (by omega)) ?_
          refine Eq_iln dX11_best_19 rfl ?_
          refine Et_if_lt 28 dX11_best_20 rfl (by exact hx) ?_
          refine Eam_x_ldc dX11_best_28 kc_X11_252 ?_
          refine Eq_ir dX11_best_30 rfl ?_
          exact ⟨rfl, Fx.rf, hK⟩
        · rw [show beV (hmo q) n g F (nI w) x2 = -100000000 by unfold beV; rw [hr, hr2]]
          refine Eq_aln dX11_best_0 rfl ?_
          refine Eq_getR dX11_best_1 fl_X11_48 (ws_0 hW) rfl (wp_0_6 hW) ?_
          refine Eq_getI dX11_best_4 fl_X11_146 (ws_9 hW) rfl hM.1 ?_
          refine Ef_if_eq dX11_best_7 (tgt := 28) rfl (by exact nI_ne0 (by omega) (by omega)) ?_
          refine Eq_iln dX11_best_10 rfl ?_
          refine En_if_lt (tgt := 28) dX11_best_11 rfl (by omega) ?_
          refine Eq_iln dX11_best_14 rfl ?_
          refine Eq_ic (v := nI 2) dX11_best_15 rfl ?_
          refine Ef_ic_gt dX11_best_16 (tgt := 28) rfl (by exact nI_nlt (by omega) (by omega)) ?_
          refine Eq_iln dX11_best_19 rfl ?_
          refine Ef_if_lt dX11_best_20 (tgt := 28) rfl (by exact hx) ?_
          refine Eq_iln dX11_best_23 rfl ?_
          refine Eq_ic (v := nI 1) dX11_best_24 rfl ?_
          refine Ef_ic_le dX11_best_25 (tgt := 31) rfl (by exact rg_gt (by omega) hy) ?_
          refine Eam_x_ldc dX11_best_28 kc_X11_252 ?_
          refine Eq_ir dX11_best_30 rfl ?_
          exact ⟨rfl, Fx.rf, hK⟩
      | some v =>
        obtain ⟨rfl, hv1⟩ := rg_some (by omega) hr2
        have hv : beV (hmo q) n g F (nI w) (nI v) = if v = 0 then bsB n (bst (hmo q) n g F w) else if w = 0 then -bsM (bst (hmo q) n g F w) else bsM (bst (hmo q) n g F w) := by
          unfold beV
          rw [hr, hr2]
          exact if_neg h0
        rw [hv]
        by_cases e0 : v = 0
        · subst e0
          rw [if_pos rfl]
          refine Eq_aln dX11_best_0 rfl ?_
          refine Eq_getR dX11_best_1 fl_X11_48 (ws_0 hW) rfl (wp_0_6 hW) ?_
          refine Eq_getI dX11_best_4 fl_X11_146 (ws_9 hW) rfl hM.1 ?_
          refine Ef_if_eq dX11_best_7 (tgt := 28) rfl (by exact nI_ne0 (by omega) (by omega)) ?_
          refine Eq_iln dX11_best_10 rfl ?_
          refine En_if_lt (tgt := 28) dX11_best_11 rfl (by omega) ?_
          refine Eq_iln dX11_best_14 rfl ?_
          refine Eq_ic (v := nI 2) dX11_best_15 rfl ?_
          refine Ef_ic_gt dX11_best_16 (tgt := 28) rfl (by exact nI_nlt (by omega) (by omega)) ?_
          refine Eq_iln dX11_best_19 rfl ?_
          refine En_if_lt (tgt := 28) dX11_best_20 rfl (by omega) ?_
          refine Eq_iln dX11_best_23 rfl ?_
          refine Eq_ic (v := nI 1) dX11_best_24 rfl ?_
          refine Et_ic_le 31 dX11_best_25 rfl (by exact nI_le (by omega) (by omega)) ?_
          refine Eq_aln dX11_best_31 rfl ?_
          refine Eq_getR dX11_best_32 fl_X11_82 (ws_0 hW) rfl (wp_0_10 hW) ?_
          refine Eq_iln dX11_best_35 rfl ?_
          refine Eq_W1 (N := m_X0_search) dX11_best_36 lk_X11_257 mV_X0_search (c_search hW hM hq (by omega) hK hw) (by decide) (ws_20 hW) rfl (by decide) (Nat.le_of_ble_eq_true rfl) (Nat.le_of_ble_eq_true rfl) (fun vq hq1 hq2 => ?_)
          obtain ⟨rfl, hf2, hK2, hk2⟩ := hq2
          have hW2 := hf2.Wd hW
          obtain ⟨hkd, hks⟩ : am_i hq1 27 w = bsB n (bst (hmo q) n g F w) ∧ am_i hq1 28 w = bsM (bst (hmo q) n g F w) := by rcases hK2 w hw with z | ⟨_, z⟩; exact absurd (hk2.symm.trans z) (by decide +kernel); exact z
          refine Eq_iln dX11_best_39 rfl ?_
          refine Ef_if_ne dX11_best_40 (tgt := 54) rfl (by rfl) ?_
          refine Eq_aln dX11_best_43 rfl ?_
          refine Eq_getR dX11_best_44 fl_X11_82 (ws_0 hW2) rfl (wp_0_10 hW2) ?_
          refine Eq_iln dX11_best_47 rfl ?_
          refine Eq_V1 (N := m_X0_seatingFor) dX11_best_48 lk_X11_260 mV_X0_seatingFor (c_seatingFor hW2 hw hkd) (by decide) (ws_20 hW2) rfl (by decide) (Nat.le_of_ble_eq_true rfl) (Nat.le_of_ble_eq_true rfl) ?_
          refine Eam_x_goto (tgt := 62) dX11_best_51 rfl ?_
          refine Eq_ir dX11_best_62 rfl ?_
          exact ⟨rfl, hf2, hK2⟩
        · rw [if_neg e0]
          have hv0 : ¬ nI v = 0 := fun z => e0 ((n_0 (by omega)).mp z)
          refine Eq_aln dX11_best_0 rfl ?_
          refine Eq_getR dX11_best_1 fl_X11_48 (ws_0 hW) rfl (wp_0_6 hW) ?_
          refine Eq_getI dX11_best_4 fl_X11_146 (ws_9 hW) rfl hM.1 ?_
          refine Ef_if_eq dX11_best_7 (tgt := 28) rfl (by exact nI_ne0 (by omega) (by omega)) ?_
          refine Eq_iln dX11_best_10 rfl ?_
          refine En_if_lt (tgt := 28) dX11_best_11 rfl (by omega) ?_
          refine Eq_iln dX11_best_14 rfl ?_
          refine Eq_ic (v := nI 2) dX11_best_15 rfl ?_
          refine Ef_ic_gt dX11_best_16 (tgt := 28) rfl (by exact nI_nlt (by omega) (by omega)) ?_
          refine Eq_iln dX11_best_19 rfl ?_
          refine En_if_lt (tgt := 28) dX11_best_20 rfl (by omega) ?_
          refine Eq_iln dX11_best_23 rfl ?_
          refine Eq_ic (v := nI 1) dX11_best_24 rfl ?_
          refine Et_ic_le 31 dX11_best_25 rfl (by exact nI_le (by omega) (by omega)) ?_
          refine Eq_aln dX11_best_31 rfl ?_
          refine Eq_getR dX11_best_32 fl_X11_82 (ws_0 hW) rfl (wp_0_10 hW) ?_
          refine Eq_iln dX11_best_35 rfl ?_
          refine Eq_W1 (N := m_X0_search) dX11_best_36 lk_X11_257 mV_X0_search (c_search hW hM hq (by omega) hK hw) (by decide) (ws_20 hW) rfl (by decide) (Nat.le_of_ble_eq_true rfl) (Nat.le_of_ble_eq_true rfl) (fun vq hq1 hq2 => ?_)
          obtain ⟨rfl, hf2, hK2, hk2⟩ := hq2
          have hW2 := hf2.Wd hW
          obtain ⟨hkd, hks⟩ : am_i hq1 27 w = bsB n (bst (hmo q) n g F w) ∧ am_i hq1 28 w = bsM (bst (hmo q) n g F w) := by rcases hK2 w hw with z | ⟨_, z⟩; exact absurd (hk2.symm.trans z) (by decide +kernel); exact z
          refine Eq_iln dX11_best_39 rfl ?_
          refine Et_if_ne 54 dX11_best_40 rfl (by exact hv0) ?_
          refine Eq_aln dX11_best_54 rfl ?_
          refine Eq_getR dX11_best_55 fl_X11_82 (ws_0 hW2) rfl (wp_0_10 hW2) ?_
          refine Eq_iln dX11_best_58 rfl ?_
          refine Eq_V1 (N := m_X0_muchFor) dX11_best_59 lk_X11_263 mV_X0_muchFor (c_muchFor hW2 hw hks) (by decide) (ws_20 hW2) rfl (by decide) (Nat.le_of_ble_eq_true rfl) (Nat.le_of_ble_eq_true rfl) ?_
          refine Eq_ir dX11_best_62 rfl ?_
          exact ⟨rfl, hf2, hK2⟩
