set_option maxHeartbeats 2000000 in
theorem c_fact {h : am_H} {n : Nat} {g : Bool} {F : Nat → Nat → Nat} (hW : Wd h) (hM : MB h n g F) {i j : Nat} (hi : i < 7) (hj : j < n) : am_C 0 m_X5_fact [.ref 9, .int (nI i), .int (nI j)] h (some (.int (nI (F i j))), h) := by
  obtain ⟨hn, hg, h7, hF, hB⟩ := hM
  refine q_iln dX5_fact_0 rfl ?_
  refine n_if_lt (tgt := 22) dX5_fact_1 rfl (by omega) ?_
  refine q_iln dX5_fact_4 rfl ?_
  refine q_aln dX5_fact_5 rfl ?_
  refine q_getI dX5_fact_6 fl_X5_9 (ws_9 hW) rfl (by first | assumption | rfl) ?_
  first | refine n_ic_ge 22 dX5_fact_9 rfl (by omega) (by omega) (fun c9 => ?_) (fun c9 => ?_) | refine b_ic_ge 22 dX5_fact_9 rfl (fun c9 => ?_) (fun c9 => ?_)
  · first
    | (exfalso; omega)
    | (refine q_ic (v := nI 0) dX5_fact_22 rfl ?_
       refine q_isn dX5_fact_23 (by decide) ?_
       refine q_iln dX5_fact_24 rfl ?_
       first | refine n_if_eq 52 dX5_fact_25 rfl (by omega) (fun c25 => ?_) (fun c25 => ?_) | refine b_if_eq 52 dX5_fact_25 rfl (fun c25 => ?_) (fun c25 => ?_)
       · first
         | (exfalso; omega)
         | (refine q_ic (v := -1) dX5_fact_52 rfl ?_
            refine q_ir dX5_fact_53 rfl ?_
            rfl)
       · first
         | (exfalso; omega)
         | (refine q_iln dX5_fact_28 rfl ?_
            refine n_if_lt (tgt := 52) dX5_fact_29 rfl (by omega) ?_
            refine q_iln dX5_fact_32 rfl ?_
            refine q_bp (v := nI 7) dX5_fact_33 rfl ?_
            first | refine n_ic_ge 52 dX5_fact_35 rfl (by omega) (by omega) (fun c35 => ?_) (fun c35 => ?_) | refine b_ic_ge 52 dX5_fact_35 rfl (fun c35 => ?_) (fun c35 => ?_)
            · first
              | (exfalso; omega)
              | (refine q_ic (v := -1) dX5_fact_52 rfl ?_
                 refine q_ir dX5_fact_53 rfl ?_
                 rfl)
            · first
              | (exfalso; omega)
              | (refine q_aln dX5_fact_38 rfl ?_
                 refine q_getR dX5_fact_39 fl_X5_19 (ws_9 hW) rfl (wp_9_2 hW) ?_
                 refine q_iln dX5_fact_42 rfl ?_
                 refine q_bp (v := nI 7) dX5_fact_43 rfl ?_
                 first | refine q_mul dX5_fact_45 ?_ | refine am_x_pu dX5_fact_45 rfl ?_
                 refine q_iln dX5_fact_46 rfl ?_
                 first | refine q_add dX5_fact_47 ?_ | refine am_x_pu dX5_fact_47 rfl ?_
                 refine q_ald dX5_fact_48 (ws_10 hW) (by omega) (by omega) (by first | assumption | exact (hF _ _ (by omega) (by omega)).1 | rfl) ?_
                 refine am_x_goto (tgt := 53) dX5_fact_49 rfl ?_
                 refine q_ir dX5_fact_53 rfl ?_
                 rfl)))
  · first
    | (exfalso; omega)
    | (refine q_iln dX5_fact_12 rfl ?_
       refine q_bp (v := nI 7) dX5_fact_13 rfl ?_
       first | refine n_ic_ge 22 dX5_fact_15 rfl (by omega) (by omega) (fun c15 => ?_) (fun c15 => ?_) | refine b_ic_ge 22 dX5_fact_15 rfl (fun c15 => ?_) (fun c15 => ?_)
       · first
         | (exfalso; omega)
         | (refine q_ic (v := nI 0) dX5_fact_22 rfl ?_
            refine q_isn dX5_fact_23 (by decide) ?_
            refine q_iln dX5_fact_24 rfl ?_
            first | refine n_if_eq 52 dX5_fact_25 rfl (by omega) (fun c25 => ?_) (fun c25 => ?_) | refine b_if_eq 52 dX5_fact_25 rfl (fun c25 => ?_) (fun c25 => ?_)
            · first
              | (exfalso; omega)
              | (refine q_ic (v := -1) dX5_fact_52 rfl ?_
                 refine q_ir dX5_fact_53 rfl ?_
                 rfl)
            · first
              | (exfalso; omega)
              | (refine q_iln dX5_fact_28 rfl ?_
                 refine n_if_lt (tgt := 52) dX5_fact_29 rfl (by omega) ?_
                 refine q_iln dX5_fact_32 rfl ?_
                 refine q_bp (v := nI 7) dX5_fact_33 rfl ?_
                 first | refine n_ic_ge 52 dX5_fact_35 rfl (by omega) (by omega) (fun c35 => ?_) (fun c35 => ?_) | refine b_ic_ge 52 dX5_fact_35 rfl (fun c35 => ?_) (fun c35 => ?_)
                 · first
                   | (exfalso; omega)
                   | (refine q_ic (v := -1) dX5_fact_52 rfl ?_
                      refine q_ir dX5_fact_53 rfl ?_
                      rfl)
                 · first
                   | (exfalso; omega)
                   | (refine q_aln dX5_fact_38 rfl ?_
                      refine q_getR dX5_fact_39 fl_X5_19 (ws_9 hW) rfl (wp_9_2 hW) ?_
                      refine q_iln dX5_fact_42 rfl ?_
                      refine q_bp (v := nI 7) dX5_fact_43 rfl ?_
                      first | refine q_mul dX5_fact_45 ?_ | refine am_x_pu dX5_fact_45 rfl ?_
                      refine q_iln dX5_fact_46 rfl ?_
                      first | refine q_add dX5_fact_47 ?_ | refine am_x_pu dX5_fact_47 rfl ?_
                      refine q_ald dX5_fact_48 (ws_10 hW) (by omega) (by omega) (by first | assumption | exact (hF _ _ (by omega) (by omega)).1 | rfl) ?_
                      refine am_x_goto (tgt := 53) dX5_fact_49 rfl ?_
                      refine q_ir dX5_fact_53 rfl ?_
                      rfl)))
       · first
         | (exfalso; omega)
         | (refine q_ic (v := nI 1) dX5_fact_18 rfl ?_
            refine am_x_goto (tgt := 23) dX5_fact_19 rfl ?_
            refine q_isn dX5_fact_23 (by decide) ?_
            refine q_iln dX5_fact_24 rfl ?_
            first | refine n_if_eq 52 dX5_fact_25 rfl (by omega) (fun c25 => ?_) (fun c25 => ?_) | refine b_if_eq 52 dX5_fact_25 rfl (fun c25 => ?_) (fun c25 => ?_)
            · first
              | (exfalso; omega)
              | (refine q_ic (v := -1) dX5_fact_52 rfl ?_
                 refine q_ir dX5_fact_53 rfl ?_
                 rfl)
            · first
              | (exfalso; omega)
              | (refine q_iln dX5_fact_28 rfl ?_
                 refine n_if_lt (tgt := 52) dX5_fact_29 rfl (by omega) ?_
                 refine q_iln dX5_fact_32 rfl ?_
                 refine q_bp (v := nI 7) dX5_fact_33 rfl ?_
                 first | refine n_ic_ge 52 dX5_fact_35 rfl (by omega) (by omega) (fun c35 => ?_) (fun c35 => ?_) | refine b_ic_ge 52 dX5_fact_35 rfl (fun c35 => ?_) (fun c35 => ?_)
                 · first
                   | (exfalso; omega)
                   | (refine q_ic (v := -1) dX5_fact_52 rfl ?_
                      refine q_ir dX5_fact_53 rfl ?_
                      rfl)
                 · first
                   | (exfalso; omega)
                   | (refine q_aln dX5_fact_38 rfl ?_
                      refine q_getR dX5_fact_39 fl_X5_19 (ws_9 hW) rfl (wp_9_2 hW) ?_
                      refine q_iln dX5_fact_42 rfl ?_
                      refine q_bp (v := nI 7) dX5_fact_43 rfl ?_
                      first | refine q_mul dX5_fact_45 ?_ | refine am_x_pu dX5_fact_45 rfl ?_
                      refine q_iln dX5_fact_46 rfl ?_
                      first | refine q_add dX5_fact_47 ?_ | refine am_x_pu dX5_fact_47 rfl ?_
                      refine q_ald dX5_fact_48 (ws_10 hW) (by omega) (by omega) (by first | assumption | exact (hF _ _ (by omega) (by omega)).1 | rfl) ?_
                      refine am_x_goto (tgt := 53) dX5_fact_49 rfl ?_
                      refine q_ir dX5_fact_53 rfl ?_
                      rfl))))

set_option maxHeartbeats 2000000 in
theorem c_has {h : am_H} {n : Nat} {g : Bool} {F : Nat → Nat → Nat} (hW : Wd h) (hM : MB h n g F) {j : Nat} (hj : j < n) : am_C 0 m_X5_has [.ref 9, .int (nI j)] h (some (.int (nI 1)), h) := by
  obtain ⟨hn, hg, h7, hF, hB⟩ := hM
  refine q_iln dX5_has_0 rfl ?_
  refine n_if_lt (tgt := 22) dX5_has_1 rfl (by omega) ?_
  refine q_iln dX5_has_4 rfl ?_
  refine q_aln dX5_has_5 rfl ?_
  refine q_getI dX5_has_6 fl_X5_9 (ws_9 hW) rfl (by first | assumption | rfl) ?_
  first | refine n_ic_ge 22 dX5_has_9 rfl (by omega) (by omega) (fun c9 => ?_) (fun c9 => ?_) | refine b_ic_ge 22 dX5_has_9 rfl (fun c9 => ?_) (fun c9 => ?_)
  · first
    | (exfalso; omega)
    | (refine q_ic (v := nI 0) dX5_has_22 rfl ?_
       first | refine q_zrn dX5_has_23 rfl (by first | omega | exact b2_le) ?_ | refine q_zr dX5_has_23 rfl (by first | exact Or.inl rfl | exact Or.inr rfl | assumption) ?_
       rfl)
  · first
    | (exfalso; omega)
    | (refine q_iln dX5_has_12 rfl ?_
       refine q_bp (v := nI 7) dX5_has_13 rfl ?_
       first | refine n_ic_ge 22 dX5_has_15 rfl (by omega) (by omega) (fun c15 => ?_) (fun c15 => ?_) | refine b_ic_ge 22 dX5_has_15 rfl (fun c15 => ?_) (fun c15 => ?_)
       · first
         | (exfalso; omega)
         | (refine q_ic (v := nI 0) dX5_has_22 rfl ?_
            first | refine q_zrn dX5_has_23 rfl (by first | omega | exact b2_le) ?_ | refine q_zr dX5_has_23 rfl (by first | exact Or.inl rfl | exact Or.inr rfl | assumption) ?_
            rfl)
       · first
         | (exfalso; omega)
         | (refine q_ic (v := nI 1) dX5_has_18 rfl ?_
            refine am_x_goto (tgt := 23) dX5_has_19 rfl ?_
            first | refine q_zrn dX5_has_23 rfl (by first | omega | exact b2_le) ?_ | refine q_zr dX5_has_23 rfl (by first | exact Or.inl rfl | exact Or.inr rfl | assumption) ?_
            rfl))

set_option maxHeartbeats 2000000 in
theorem c_lives {h : am_H} {n : Nat} {g : Bool} {F : Nat → Nat → Nat} (hW : Wd h) (hM : MB h n g F) {j : Nat} (hj : j < n) : am_C 0 m_X5_lives [.ref 9, .int (nI j)] h (some (.int (nI (if F 3 j ≠ 1 then 1 else 0))), h) := by
  obtain ⟨hn, hg, h7, hF, hB⟩ := hM
  have hb := (hB j hj).2.1
  refine q_iln dX5_lives_0 rfl ?_
  refine n_if_lt (tgt := 22) dX5_lives_1 rfl (by omega) ?_
  refine q_iln dX5_lives_4 rfl ?_
  refine q_aln dX5_lives_5 rfl ?_
  refine q_getI dX5_lives_6 fl_X5_9 (ws_9 hW) rfl (by first | assumption | rfl) ?_
  first | refine n_ic_ge 22 dX5_lives_9 rfl (by omega) (by omega) (fun c9 => ?_) (fun c9 => ?_) | refine b_ic_ge 22 dX5_lives_9 rfl (fun c9 => ?_) (fun c9 => ?_)
  · first
    | (exfalso; omega)
    | (refine q_ic (v := nI 0) dX5_lives_22 rfl ?_
       refine q_isn dX5_lives_23 (by decide) ?_
       refine q_iln dX5_lives_24 rfl ?_
       first | refine n_if_eq 45 dX5_lives_25 rfl (by omega) (fun c25 => ?_) (fun c25 => ?_) | refine b_if_eq 45 dX5_lives_25 rfl (fun c25 => ?_) (fun c25 => ?_)
       · first
         | (exfalso; omega)
         | (refine q_ic (v := nI 0) dX5_lives_45 rfl ?_
            first | refine q_zrn dX5_lives_46 rfl (by first | omega | exact b2_le) ?_ | refine q_zr dX5_lives_46 rfl (by first | exact Or.inl rfl | exact Or.inr rfl | assumption) ?_
            first | rfl | (apply o_nI; simp_all) | simp_all)
       · first
         | (exfalso; omega)
         | (refine q_aln dX5_lives_28 rfl ?_
            refine q_getR dX5_lives_29 fl_X5_19 (ws_9 hW) rfl (wp_9_2 hW) ?_
            refine q_bp (v := nI 21) dX5_lives_32 rfl ?_
            refine q_iln dX5_lives_34 rfl ?_
            first | refine q_add dX5_lives_35 ?_ | refine am_x_pu dX5_lives_35 rfl ?_
            refine q_ald dX5_lives_36 (ws_10 hW) (by omega) (by omega) (hF 3 _ (by omega) (by omega)).1 ?_
            refine q_ic (v := nI 1) dX5_lives_37 rfl ?_
            first | refine n_ic_eq 45 dX5_lives_38 rfl (by omega) (by omega) (fun c38 => ?_) (fun c38 => ?_) | refine b_ic_eq 45 dX5_lives_38 rfl (fun c38 => ?_) (fun c38 => ?_)
            · first
              | (exfalso; omega)
              | (refine q_ic (v := nI 0) dX5_lives_45 rfl ?_
                 first | refine q_zrn dX5_lives_46 rfl (by first | omega | exact b2_le) ?_ | refine q_zr dX5_lives_46 rfl (by first | exact Or.inl rfl | exact Or.inr rfl | assumption) ?_
                 first | rfl | (apply o_nI; simp_all) | simp_all)
            · first
              | (exfalso; omega)
              | (refine q_ic (v := nI 1) dX5_lives_41 rfl ?_
                 refine am_x_goto (tgt := 46) dX5_lives_42 rfl ?_
                 first | refine q_zrn dX5_lives_46 rfl (by first | omega | exact b2_le) ?_ | refine q_zr dX5_lives_46 rfl (by first | exact Or.inl rfl | exact Or.inr rfl | assumption) ?_
                 first | rfl | (apply o_nI; simp_all) | simp_all)))
  · first
    | (exfalso; omega)
    | (refine q_iln dX5_lives_12 rfl ?_
       refine q_bp (v := nI 7) dX5_lives_13 rfl ?_
       first | refine n_ic_ge 22 dX5_lives_15 rfl (by omega) (by omega) (fun c15 => ?_) (fun c15 => ?_) | refine b_ic_ge 22 dX5_lives_15 rfl (fun c15 => ?_) (fun c15 => ?_)
       · first
         | (exfalso; omega)
         | (refine q_ic (v := nI 0) dX5_lives_22 rfl ?_
            refine q_isn dX5_lives_23 (by decide) ?_
            refine q_iln dX5_lives_24 rfl ?_
            first | refine n_if_eq 45 dX5_lives_25 rfl (by omega) (fun c25 => ?_) (fun c25 => ?_) | refine b_if_eq 45 dX5_lives_25 rfl (fun c25 => ?_) (fun c25 => ?_)
            · first
              | (exfalso; omega)
              | (refine q_ic (v := nI 0) dX5_lives_45 rfl ?_
                 first | refine q_zrn dX5_lives_46 rfl (by first | omega | exact b2_le) ?_ | refine q_zr dX5_lives_46 rfl (by first | exact Or.inl rfl | exact Or.inr rfl | assumption) ?_
                 first | rfl | (apply o_nI; simp_all) | simp_all)
            · first
              | (exfalso; omega)
              | (refine q_aln dX5_lives_28 rfl ?_
                 refine q_getR dX5_lives_29 fl_X5_19 (ws_9 hW) rfl (wp_9_2 hW) ?_
                 refine q_bp (v := nI 21) dX5_lives_32 rfl ?_
                 refine q_iln dX5_lives_34 rfl ?_
                 first | refine q_add dX5_lives_35 ?_ | refine am_x_pu dX5_lives_35 rfl ?_
                 refine q_ald dX5_lives_36 (ws_10 hW) (by omega) (by omega) (hF 3 _ (by omega) (by omega)).1 ?_
                 refine q_ic (v := nI 1) dX5_lives_37 rfl ?_
                 first | refine n_ic_eq 45 dX5_lives_38 rfl (by omega) (by omega) (fun c38 => ?_) (fun c38 => ?_) | refine b_ic_eq 45 dX5_lives_38 rfl (fun c38 => ?_) (fun c38 => ?_)
                 · first
                   | (exfalso; omega)
                   | (refine q_ic (v := nI 0) dX5_lives_45 rfl ?_
                      first | refine q_zrn dX5_lives_46 rfl (by first | omega | exact b2_le) ?_ | refine q_zr dX5_lives_46 rfl (by first | exact Or.inl rfl | exact Or.inr rfl | assumption) ?_
                      first | rfl | (apply o_nI; simp_all) | simp_all)
                 · first
                   | (exfalso; omega)
                   | (refine q_ic (v := nI 1) dX5_lives_41 rfl ?_
                      refine am_x_goto (tgt := 46) dX5_lives_42 rfl ?_
                      first | refine q_zrn dX5_lives_46 rfl (by first | omega | exact b2_le) ?_ | refine q_zr dX5_lives_46 rfl (by first | exact Or.inl rfl | exact Or.inr rfl | assumption) ?_
                      first | rfl | (apply o_nI; simp_all) | simp_all)))
       · first
         | (exfalso; omega)
         | (refine q_ic (v := nI 1) dX5_lives_18 rfl ?_
            refine am_x_goto (tgt := 23) dX5_lives_19 rfl ?_
            refine q_isn dX5_lives_23 (by decide) ?_
            refine q_iln dX5_lives_24 rfl ?_
            first | refine n_if_eq 45 dX5_lives_25 rfl (by omega) (fun c25 => ?_) (fun c25 => ?_) | refine b_if_eq 45 dX5_lives_25 rfl (fun c25 => ?_) (fun c25 => ?_)
            · first
              | (exfalso; omega)
              | (refine q_ic (v := nI 0) dX5_lives_45 rfl ?_
                 first | refine q_zrn dX5_lives_46 rfl (by first | omega | exact b2_le) ?_ | refine q_zr dX5_lives_46 rfl (by first | exact Or.inl rfl | exact Or.inr rfl | assumption) ?_
                 first | rfl | (apply o_nI; simp_all) | simp_all)
            · first
              | (exfalso; omega)
              | (refine q_aln dX5_lives_28 rfl ?_
                 refine q_getR dX5_lives_29 fl_X5_19 (ws_9 hW) rfl (wp_9_2 hW) ?_
                 refine q_bp (v := nI 21) dX5_lives_32 rfl ?_
                 refine q_iln dX5_lives_34 rfl ?_
                 first | refine q_add dX5_lives_35 ?_ | refine am_x_pu dX5_lives_35 rfl ?_
                 refine q_ald dX5_lives_36 (ws_10 hW) (by omega) (by omega) (hF 3 _ (by omega) (by omega)).1 ?_
                 refine q_ic (v := nI 1) dX5_lives_37 rfl ?_
                 first | refine n_ic_eq 45 dX5_lives_38 rfl (by omega) (by omega) (fun c38 => ?_) (fun c38 => ?_) | refine b_ic_eq 45 dX5_lives_38 rfl (fun c38 => ?_) (fun c38 => ?_)
                 · first
                   | (exfalso; omega)
                   | (refine q_ic (v := nI 0) dX5_lives_45 rfl ?_
                      first | refine q_zrn dX5_lives_46 rfl (by first | omega | exact b2_le) ?_ | refine q_zr dX5_lives_46 rfl (by first | exact Or.inl rfl | exact Or.inr rfl | assumption) ?_
                      first | rfl | (apply o_nI; simp_all) | simp_all)
                 · first
                   | (exfalso; omega)
                   | (refine q_ic (v := nI 1) dX5_lives_41 rfl ?_
                      refine am_x_goto (tgt := 46) dX5_lives_42 rfl ?_
                      first | refine q_zrn dX5_lives_46 rfl (by first | omega | exact b2_le) ?_ | refine q_zr dX5_lives_46 rfl (by first | exact Or.inl rfl | exact Or.inr rfl | assumption) ?_
                      first | rfl | (apply o_nI; simp_all) | simp_all))))

set_option maxHeartbeats 2000000 in
theorem c_swallows {h : am_H} {n : Nat} {g : Bool} {F : Nat → Nat → Nat} (hW : Wd h) (hM : MB h n g F) {j k : Nat} (hj : j < n) (hk : k < n) : am_C 1 m_X5_swallows [.ref 9, .int (nI j), .int (nI k)] h (some (.int (nI (if F 3 j = 3 ∨ F 4 j = k then 1 else 0))), h) := by
  have hb := hM.2.2.2.2 j hj
  have h7 := hM.2.2.1
  refine q_aln dX5_swallows_0 rfl ?_
  refine q_ic (v := nI 3) dX5_swallows_1 rfl ?_
  refine q_iln dX5_swallows_2 rfl ?_
  refine q_V2 (N := m_X5_fact) dX5_swallows_3 lk_X5_39 mV_X5_fact (c_fact hW hM (by omega) (by omega)) (by decide) (ws_9 hW) rfl (by decide) (Nat.le_of_ble_eq_true rfl) (Nat.le_of_ble_eq_true rfl) ?_
  refine q_ic (v := nI 3) dX5_swallows_6 rfl ?_
  first | refine n_ic_eq 20 dX5_swallows_7 rfl (by omega) (by omega) (fun c7 => ?_) (fun c7 => ?_) | refine b_ic_eq 20 dX5_swallows_7 rfl (fun c7 => ?_) (fun c7 => ?_)
  · first
    | (exfalso; omega)
    | (refine q_ic (v := nI 1) dX5_swallows_20 rfl ?_
       refine am_x_goto (tgt := 25) dX5_swallows_21 rfl ?_
       first | refine q_zrn dX5_swallows_25 rfl (by first | omega | exact b2_le) ?_ | refine q_zr dX5_swallows_25 rfl (by first | exact Or.inl rfl | exact Or.inr rfl | assumption) ?_
       first | rfl | (apply o_nI; simp_all) | simp_all)
  · first
    | (exfalso; omega)
    | (refine q_aln dX5_swallows_10 rfl ?_
       refine q_ic (v := nI 4) dX5_swallows_11 rfl ?_
       refine q_iln dX5_swallows_12 rfl ?_
       refine q_V2 (N := m_X5_fact) dX5_swallows_13 lk_X5_39 mV_X5_fact (c_fact hW hM (by omega) (by omega)) (by decide) (ws_9 hW) rfl (by decide) (Nat.le_of_ble_eq_true rfl) (Nat.le_of_ble_eq_true rfl) ?_
       refine q_iln dX5_swallows_16 rfl ?_
       first | refine n_ic_ne 24 dX5_swallows_17 rfl (by omega) (by omega) (fun c17 => ?_) (fun c17 => ?_) | refine b_ic_ne 24 dX5_swallows_17 rfl (fun c17 => ?_) (fun c17 => ?_)
       · first
         | (exfalso; omega)
         | (refine q_ic (v := nI 0) dX5_swallows_24 rfl ?_
            first | refine q_zrn dX5_swallows_25 rfl (by first | omega | exact b2_le) ?_ | refine q_zr dX5_swallows_25 rfl (by first | exact Or.inl rfl | exact Or.inr rfl | assumption) ?_
            first | rfl | (apply o_nI; simp_all) | simp_all)
       · first
         | (exfalso; omega)
         | (refine q_ic (v := nI 1) dX5_swallows_20 rfl ?_
            refine am_x_goto (tgt := 25) dX5_swallows_21 rfl ?_
            first | refine q_zrn dX5_swallows_25 rfl (by first | omega | exact b2_le) ?_ | refine q_zr dX5_swallows_25 rfl (by first | exact Or.inl rfl | exact Or.inr rfl | assumption) ?_
            first | rfl | (apply o_nI; simp_all) | simp_all))

set_option maxHeartbeats 2000000 in
theorem c_enemies {h : am_H} {n : Nat} {g : Bool} {F : Nat → Nat → Nat} (hW : Wd h) (hM : MB h n g F) {j k : Nat} (hj : j < n) (hk : k < n) : am_C 1 m_X5_areEnemies [.ref 9, .int (nI j), .int (nI k)] h (some (.int (nI (if F 4 j = k ∨ F 4 k = j then 1 else 0))), h) := by
  have hb := hM.2.2.2.2 j hj
  have hb2 := hM.2.2.2.2 k hk
  have h7 := hM.2.2.1
  refine q_aln dX5_areEnemies_0 rfl ?_
  refine q_ic (v := nI 4) dX5_areEnemies_1 rfl ?_
  refine q_iln dX5_areEnemies_2 rfl ?_
  refine q_V2 (N := m_X5_fact) dX5_areEnemies_3 lk_X5_39 mV_X5_fact (c_fact hW hM (by omega) (by omega)) (by decide) (ws_9 hW) rfl (by decide) (Nat.le_of_ble_eq_true rfl) (Nat.le_of_ble_eq_true rfl) ?_
  refine q_iln dX5_areEnemies_6 rfl ?_
  first | refine n_ic_eq 20 dX5_areEnemies_7 rfl (by omega) (by omega) (fun c7 => ?_) (fun c7 => ?_) | refine b_ic_eq 20 dX5_areEnemies_7 rfl (fun c7 => ?_) (fun c7 => ?_)
  · first
    | (exfalso; omega)
    | (refine q_ic (v := nI 1) dX5_areEnemies_20 rfl ?_
       refine am_x_goto (tgt := 25) dX5_areEnemies_21 rfl ?_
       first | refine q_zrn dX5_areEnemies_25 rfl (by first | omega | exact b2_le) ?_ | refine q_zr dX5_areEnemies_25 rfl (by first | exact Or.inl rfl | exact Or.inr rfl | assumption) ?_
       first | rfl | (apply o_nI; simp_all) | simp_all)
  · first
    | (exfalso; omega)
    | (refine q_aln dX5_areEnemies_10 rfl ?_
       refine q_ic (v := nI 4) dX5_areEnemies_11 rfl ?_
       refine q_iln dX5_areEnemies_12 rfl ?_
       refine q_V2 (N := m_X5_fact) dX5_areEnemies_13 lk_X5_39 mV_X5_fact (c_fact hW hM (by omega) (by omega)) (by decide) (ws_9 hW) rfl (by decide) (Nat.le_of_ble_eq_true rfl) (Nat.le_of_ble_eq_true rfl) ?_
       refine q_iln dX5_areEnemies_16 rfl ?_
       first | refine n_ic_ne 24 dX5_areEnemies_17 rfl (by omega) (by omega) (fun c17 => ?_) (fun c17 => ?_) | refine b_ic_ne 24 dX5_areEnemies_17 rfl (fun c17 => ?_) (fun c17 => ?_)
       · first
         | (exfalso; omega)
         | (refine q_ic (v := nI 0) dX5_areEnemies_24 rfl ?_
            first | refine q_zrn dX5_areEnemies_25 rfl (by first | omega | exact b2_le) ?_ | refine q_zr dX5_areEnemies_25 rfl (by first | exact Or.inl rfl | exact Or.inr rfl | assumption) ?_
            first | rfl | (apply o_nI; simp_all) | simp_all)
       · first
         | (exfalso; omega)
         | (refine q_ic (v := nI 1) dX5_areEnemies_20 rfl ?_
            refine am_x_goto (tgt := 25) dX5_areEnemies_21 rfl ?_
            first | refine q_zrn dX5_areEnemies_25 rfl (by first | omega | exact b2_le) ?_ | refine q_zr dX5_areEnemies_25 rfl (by first | exact Or.inl rfl | exact Or.inr rfl | assumption) ?_
            first | rfl | (apply o_nI; simp_all) | simp_all))

set_option maxHeartbeats 2000000 in
theorem c_living_lp {h : am_H} {n : Nat} {g : Bool} {F : Nat → Nat → Nat} (hW : Wd h) (hM : MB h n g F)  : ∀ k j, j + k = n → am_Sem 1 m_X5_living 4 [some (.ref 9), some (.int (nI (bt (fun m => decide (F 3 m ≠ 1)) j))), some (.int (nI j))] [] h (some (.int (nI (bt (fun m => decide (F 3 m ≠ 1)) n))), h) := by
  have hn := hM.1
  have h7 := hM.2.2.1
  intro k
  induction k with
  | zero =>
    intro j hj
    have hjn : j = n := by omega
    subst hjn
    refine q_iln dX5_living_4 rfl ?_
    refine q_aln dX5_living_5 rfl ?_
    refine q_getI dX5_living_6 fl_X5_9 (ws_9 hW) rfl (by first | assumption | rfl) ?_
    refine t_ic_ge 36 dX5_living_9 rfl (by exact nI_le (by omega) (by omega)) ?_
    refine q_iln dX5_living_36 rfl ?_
    refine q_ir dX5_living_37 rfl ?_
    rfl
  | succ k ih =>
    intro j hj
    refine q_iln dX5_living_4 rfl ?_
    refine q_aln dX5_living_5 rfl ?_
    refine q_getI dX5_living_6 fl_X5_9 (ws_9 hW) rfl (by first | assumption | rfl) ?_
    refine f_ic_ge dX5_living_9 (tgt := 36) rfl (by exact nI_ge (by omega) (by omega)) ?_
    refine q_iln dX5_living_12 rfl ?_
    refine q_aln dX5_living_13 rfl ?_
    refine q_iln dX5_living_14 rfl ?_
    refine q_V1 (N := m_X5_lives) dX5_living_15 lk_X5_47 mV_X5_lives (c_lives hW hM (by omega)) (by decide) (ws_9 hW) rfl (by decide) (Nat.le_of_ble_eq_true rfl) (Nat.le_of_ble_eq_true rfl) ?_
    first | refine p_if_eq 27 dX5_living_18 rfl (fun c18 => ?_) (fun c18 => ?_) | refine n_if_eq 27 dX5_living_18 rfl (by omega) (fun c18 => ?_) (fun c18 => ?_) | refine b_if_eq 27 dX5_living_18 rfl (fun c18 => ?_) (fun c18 => ?_)
    · first
      | (exfalso; omega)
      | (refine q_ic (v := nI 0) dX5_living_27 rfl ?_
         first | refine q_or dX5_living_28 ?_ | refine am_x_pu dX5_living_28 rfl ?_
         refine q_isn dX5_living_29 (by decide) ?_
         refine q_inc dX5_living_30 rfl (by decide) ?_
         refine am_x_goto (tgt := 4) dX5_living_33 rfl ?_
         (have q := ih (j + 1) (by omega); first | (rw [bt_t (p := fun m => decide (F 3 m ≠ 1)) (k := j) (decide_eq_true c18)] at q; exact q) | (rw [bt_f0 (p := fun m => decide (F 3 m ≠ 1)) (k := j) (decide_eq_false c18)] at q; exact q)))
    · first
      | (exfalso; omega)
      | (refine q_ic (v := nI 1) dX5_living_21 rfl ?_
         refine q_iln dX5_living_22 rfl ?_
         first | refine q_shl1 dX5_living_23 (by omega) ?_ | refine am_x_pu dX5_living_23 rfl ?_
         refine am_x_goto (tgt := 28) dX5_living_24 rfl ?_
         first | refine q_or dX5_living_28 ?_ | refine am_x_pu dX5_living_28 rfl ?_
         refine q_isn dX5_living_29 (by decide) ?_
         refine q_inc dX5_living_30 rfl (by decide) ?_
         refine am_x_goto (tgt := 4) dX5_living_33 rfl ?_
         (have q := ih (j + 1) (by omega); first | (rw [bt_t (p := fun m => decide (F 3 m ≠ 1)) (k := j) (decide_eq_true c18)] at q; exact q) | (rw [bt_f0 (p := fun m => decide (F 3 m ≠ 1)) (k := j) (decide_eq_false c18)] at q; exact q)))

set_option maxHeartbeats 2000000 in
theorem c_living {h : am_H} {n : Nat} {g : Bool} {F : Nat → Nat → Nat} (hW : Wd h) (hM : MB h n g F)  : am_C 1 m_X5_living [.ref 9] h (some (.int (nI (bt (fun m => decide (F 3 m ≠ 1)) n))), h) := by
  refine q_ic (v := nI 0) dX5_living_0 rfl ?_
  refine q_isn dX5_living_1 (by decide) ?_
  refine q_ic (v := nI 0) dX5_living_2 rfl ?_
  refine q_isn dX5_living_3 (by decide) ?_
  exact c_living_lp hW hM n 0 (by omega)

