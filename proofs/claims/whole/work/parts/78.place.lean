/-! the class's search: places -/
theorem jdl_one {v : List Nat → Int} {st : Option (Int × List Nat)} {l : List Nat} : jdl v st [l] = jd v st l := rfl
set_option maxHeartbeats 2000000 in
theorem c_place {n : Nat} {g : Bool} {F : Nat → Nat → Nat} (h7 : n ≤ 7) (h2n : 2 ≤ n) {hm : Option (List (Tks × Tks))} {lf : Nat → Int} {AL mr w : Nat} (hG : ∀ l i, (∀ x ∈ l, x < n) → i < l.length → i < 7 → -1000000 ≤ gn hm g F w l i ∧ gn hm g F w l i ≤ 1000000) (hL : ∀ l, (∀ x ∈ l, x < n) → l.length = n → -1000000 ≤ la hm n g F w l ∧ la hm n g F w l ≤ 1000000) (hlf : ∀ s, -8000000 ≤ lf s ∧ lf s ≤ 8000000) (hok : ∀ k pre l, pre.Nodup → (∀ x ∈ pre, x < n) → pre.length + k = n → l ∈ lvx n k pre → tot hm n g F w l ≤ psm (gn hm g F w pre) pre.length + hp g F lf AL mr w pre) : ∀ k pre b h st, pre.Nodup → (∀ x ∈ pre, x < n) → pre.length + k = n → US pre b → Wd h → MB h n g F → PSt h hm n g F lf AL mr w → OR' h pre → AR h (al F pre) → BSt h n st → am_D (k + 4) m_X0_place [.ref 20, .int (nI w), .int (nI pre.length), .int (nI b), .int (nI (al F pre).length), .int (zI (psm (gn hm g F w pre) pre.length))] h (fun v h2 => v = none ∧ Fx [24, 25] [(20, 9), (20, 10), (20, 11)] h h2 ∧ OR' h2 pre ∧ AR h2 (al F pre) ∧ BSt h2 n (jdl (tot hm n g F w) st (lvx n k pre))) := by
  have hbd : ∀ l j, (∀ x ∈ l, x < n) → j ≤ l.length → j ≤ 7 → -7000000 ≤ psm (gn hm g F w l) j ∧ psm (gn hm g F w l) j ≤ 7000000 := fun l j hx hl hj => by
    have := psm_bd (f := gn hm g F w l) (c := 1000000) (k := j) (fun i hi => hG l i hx (by omega) (by omega))
    omega
  intro k
  induction k with
  | zero =>
    intro pre b h st h1 h2 h3 u hW hM hP hO hA hB
    have hpl : pre.length = n := by omega
    have hal := al_len (F := F) (l := pre)
    rw [show lvx n 0 pre = [pre] from rfl, jdl_one]
    have hlg := c_lastGain hW hM (hm := hm) h1 h2 hpl h2n h7 hO hA hP.2.2.2.2.2 (fun z => (hP.1 z).1)
    rw [← hpl] at hlg
    have hadd : zI (psm (gn hm g F w pre) pre.length) + zI (la hm pre.length g F w pre) = zI (tot hm n g F w pre) := by
      rw [zI_add, hpl]
      rfl
    have b1 := hbd pre n h2 (by omega) h7
    have b2 := hL pre h2 hpl
    have hju := c_judge hW hM hpl h2 hO hB (vv := tot hm n g F w) (by unfold tot; omega) (by unfold tot; omega)
    refine Eq_iln dX0_place_0 rfl ?_
    refine Eq_aln dX0_place_1 rfl ?_
    refine Eq_getR dX0_place_2 fl_X0_9 (ws_20 hW) rfl (wp_20_0 hW) ?_
    refine Eq_getI dX0_place_5 fl_X0_53 (ws_9 hW) rfl hM.1 ?_
    refine Et_ic_ge 17 dX0_place_8 rfl (by rw [hpl]; exact nI_le (by omega) (by omega)) ?_
    refine Eq_aln dX0_place_17 rfl ?_
    refine Eq_il dX0_place_18 rfl ?_
    refine Eq_aln dX0_place_20 rfl ?_
    refine Eq_iln dX0_place_21 rfl ?_
    refine Eq_iln dX0_place_22 rfl ?_
    refine Eq_il dX0_place_23 rfl ?_
    refine Eq_V3 (N := m_X0_lastGain) dX0_place_25 lk_X0_138 mV_X0_lastGain (hlg) (by omega) (ws_20 hW) rfl (by decide) (Nat.le_of_ble_eq_true rfl) (Nat.le_of_ble_eq_true rfl) ?_
    refine Eam_x_pu dX0_place_28 rfl ?_
    rw [hadd]
    refine Eq_W1 (N := m_X0_judge) dX0_place_29 lk_X0_141 mV_X0_judge (hju) (by omega) (ws_20 hW) rfl (by decide) (Nat.le_of_ble_eq_true rfl) (Nat.le_of_ble_eq_true rfl) (fun vq hq1 hq2 => ?_)
    obtain ⟨rfl, hf4, hB4⟩ := hq2
    refine Eq_vr dX0_place_32 rfl ?_
    exact ⟨rfl, hf4.mono (by decide) (by decide), hO.fx hf4 (by decide) (by decide), hA.fx hf4 (by decide) (by decide), hB4⟩
  | succ k ih =>
    intro pre b h st h1 h2 h3 u hW hM hP hO hA hB
    have hw3 : w < 3 := hP.2.2.2.2.2
    have hb8 := u.1
    have hal := al_len (F := F) (l := pre)
    have lp : ∀ q j st h3 l7 l8 l9, j + q = n → Wd h3 → MB h3 n g F → PSt h3 hm n g F lf AL mr w → OR' h3 pre → AR h3 (al F pre) → Fx [24, 25] [(20, 9), (20, 10), (20, 11)] h h3 → BSt h3 n st → am_E (k + 1 + 4) m_X0_place 36 [some (.ref 20), some (.int (nI w)), some (.int (nI pre.length)), some (.int (nI b)), some (.int (nI (al F pre).length)), some (.int (zI (psm (gn hm g F w pre) pre.length))), some (.int (nI j)), l7, l8, l9] [] h3 (fun v h2 => v = none ∧ Fx [24, 25] [(20, 9), (20, 10), (20, 11)] h h2 ∧ OR' h2 pre ∧ AR h2 (al F pre) ∧ BSt h2 n (jdl (tot hm n g F w) st (lvm (fun m => lvx n k (pre ++ [m])) pre q j))) := by
      intro q
      induction q with
      | zero =>
        intro j st h3 l7 l8 l9 hj hW3 hM3 hP3 hO3 hA3 hf3 hB3
        rw [show lvm (fun m => lvx n k (pre ++ [m])) pre 0 j = [] from rfl]
        refine Eq_il dX0_place_36 rfl ?_
        refine Eq_aln dX0_place_38 rfl ?_
        refine Eq_getR dX0_place_39 fl_X0_9 (ws_20 hW3) rfl (wp_20_0 hW3) ?_
        refine Eq_getI dX0_place_42 fl_X0_53 (ws_9 hW3) rfl hM3.1 ?_
        refine Et_ic_ge 180 dX0_place_45 rfl (by exact nI_le (by omega) (by omega)) ?_
        refine Eq_vr dX0_place_180 rfl ?_
        exact ⟨rfl, hf3, hO3, hA3, hB3⟩
      | succ q iq =>
        intro j st h3 l7 l8 l9 hj hW3 hM3 hP3 hO3 hA3 hf3 hB3
        have ub := u.2 j (by omega)
        have at174 : ∀ st4 h4 l7 l8 l9, Wd h4 → MB h4 n g F → PSt h4 hm n g F lf AL mr w → OR' h4 pre → AR h4 (al F pre) → Fx [24, 25] [(20, 9), (20, 10), (20, 11)] h h4 → BSt h4 n st4 → am_E (k + 1 + 4) m_X0_place 174 [some (.ref 20), some (.int (nI w)), some (.int (nI pre.length)), some (.int (nI b)), some (.int (nI (al F pre).length)), some (.int (zI (psm (gn hm g F w pre) pre.length))), some (.int (nI j)), l7, l8, l9] [] h4 (fun v h2 => v = none ∧ Fx [24, 25] [(20, 9), (20, 10), (20, 11)] h h2 ∧ OR' h2 pre ∧ AR h2 (al F pre) ∧ BSt h2 n (jdl (tot hm n g F w) st4 (lvm (fun m => lvx n k (pre ++ [m])) pre q (j + 1)))) := by
          intro st4 h4 l7 l8 l9 hW4 hM4 hP4 hO4 hA4 hf4 hB4
          refine Eq_inc dX0_place_174 rfl (by decide) ?_
          refine Eam_nl (pc' := 177) (l' := [_, _, _, _, _, _, _, _, _, _]) rfl rfl ?_
          refine Eam_x_goto (tgt := 36) dX0_place_177 rfl ?_
          exact iq (j + 1) st4 h4 l7 l8 l9 (by omega) hW4 hM4 hP4 hO4 hA4 hf4 hB4
        by_cases e : j ∈ pre
        · rw [show lvm (fun m => lvx n k (pre ++ [m])) pre (q + 1) j = lvm (fun m => lvx n k (pre ++ [m])) pre q (j + 1) by simp [lvm, e]]
          have hbt : b.testBit j = true := by rw [ub]; simp [e]
          refine Eq_il dX0_place_36 rfl ?_
          refine Eq_aln dX0_place_38 rfl ?_
          refine Eq_getR dX0_place_39 fl_X0_9 (ws_20 hW3) rfl (wp_20_0 hW3) ?_
          refine Eq_getI dX0_place_42 fl_X0_53 (ws_9 hW3) rfl hM3.1 ?_
          refine Ef_ic_ge dX0_place_45 (tgt := 180) rfl (by exact nI_ge (by omega) (by omega)) ?_
          refine Eq_iln dX0_place_48 rfl ?_
          refine Eq_il dX0_place_49 rfl ?_
          first | refine Eq_shr dX0_place_51 (by omega) (by omega) ?_ | refine Eam_x_pu dX0_place_51 rfl ?_
          refine Eq_ic (v := nI 1) dX0_place_52 rfl ?_
          first | refine Eq_and dX0_place_53 ?_ | refine Eam_x_pu dX0_place_53 rfl ?_
          refine Ef_if_eq dX0_place_54 (tgt := 60) rfl (by rw [bit_and, if_pos hbt]; exact zf1) ?_
          refine Eam_x_goto (tgt := 174) dX0_place_57 rfl ?_
          exact at174 st h3 l7 l8 l9 hW3 hM3 hP3 hO3 hA3 hf3 hB3
        · rw [show lvm (fun m => lvx n k (pre ++ [m])) pre (q + 1) j = lvx n k (pre ++ [j]) ++ lvm (fun m => lvx n k (pre ++ [m])) pre q (j + 1) by simp [lvm, e], jdl_app]
          have hbf : ¬ b.testBit j = true := by rw [ub]; simp [e]
          have hnd : (pre ++ [j]).Nodup := by
            rw [List.nodup_append]
            refine ⟨h1, by simp, fun a ha b hb => ?_⟩
            rw [List.mem_singleton.mp hb]
            exact fun z => e (z ▸ ha)
          have hlt : ∀ x ∈ pre ++ [j], x < n := fun x hx => by
            rcases List.mem_append.mp hx with z | z
            · exact h2 x z
            · rw [List.mem_singleton.mp z]; omega
          have hl1 : (pre ++ [j]).length = pre.length + 1 := by simp
          have hal1 := al_len (F := F) (l := pre ++ [j])
          have hadd : zI (psm (gn hm g F w pre) pre.length) + zI (gn hm g F w (pre ++ [j]) pre.length) = zI (psm (gn hm g F w (pre ++ [j])) (pre.length + 1)) := by
            rw [zI_add]
            show _ = zI (psm (gn hm g F w (pre ++ [j])) pre.length + gn hm g F w (pre ++ [j]) pre.length)
            rw [psm_app]
          have u1 := u.put (m := j) (by omega)
          have b1 := hbd (pre ++ [j]) (pre.length + 1) hlt (by omega) (by omega)
          have at160 : ∀ h4 l8 l9, Wd h4 → MB h4 n g F → PSt h4 hm n g F lf AL mr w → OR' h4 (pre ++ [j]) → AR h4 (al F (pre ++ [j])) → Fx [24, 25] [(20, 9), (20, 10), (20, 11)] h h4 → BSt h4 n st → l8 = some (.int (zI (psm (gn hm g F w (pre ++ [j])) (pre.length + 1)))) → l9 = some (.int (nI (b ||| 2 ^ j))) → am_E (k + 1 + 4) m_X0_place 160 [some (.ref 20), some (.int (nI w)), some (.int (nI pre.length)), some (.int (nI b)), some (.int (nI (al F pre).length)), some (.int (zI (psm (gn hm g F w pre) pre.length))), some (.int (nI j)), some (.int (nI (al F (pre ++ [j])).length)), l8, l9] [] h4 (fun v h2 => v = none ∧ Fx [24, 25] [(20, 9), (20, 10), (20, 11)] h h2 ∧ OR' h2 pre ∧ AR h2 (al F pre) ∧ BSt h2 n (jdl (tot hm n g F w) (jdl (tot hm n g F w) st (lvx n k (pre ++ [j]))) (lvm (fun m => lvx n k (pre ++ [m])) pre q (j + 1)))) := by
            intro h4 l8 l9 hW4 hM4 hP4 hO4 hA4 hf4 hB4 e8 e9
            subst e8
            subst e9
            have hin := ih (pre ++ [j]) (b ||| 2 ^ j) h4 st hnd hlt (by omega) u1 hW4 hM4 hP4 hO4 hA4 hB4
            rw [hl1] at hin
            refine Eq_aln dX0_place_160 rfl ?_
            refine Eq_iln dX0_place_161 rfl ?_
            refine Eq_iln dX0_place_162 rfl ?_
            refine Eq_ic (v := nI 1) dX0_place_163 rfl ?_
            first | refine Eq_add dX0_place_164 ?_ | refine Eam_x_pu dX0_place_164 rfl ?_
            refine Eq_il dX0_place_165 rfl ?_
            refine Eq_il dX0_place_167 rfl ?_
            refine Eq_il dX0_place_169 rfl ?_
            refine Eq_W5 (N := m_X0_place) dX0_place_171 lk_X0_114 mV_X0_place (hin) (by omega) (ws_20 hW4) rfl (by decide) (Nat.le_of_ble_eq_true rfl) (Nat.le_of_ble_eq_true rfl) (fun vq hq1 hq2 => ?_)
            obtain ⟨rfl, hf5, hO5, hA5, hB5⟩ := hq2
            exact at174 _ hq1 _ _ _ (hf5.Wd hW4) (hM4.fx hf5 (by decide)) (hP4.fx hf5 (by decide)) hO5.cut hA5.cut (hf4.tr hf5) hB5
          have at108 : ∀ h4 l8 l9, Wd h4 → MB h4 n g F → PSt h4 hm n g F lf AL mr w → OR' h4 (pre ++ [j]) → AR h4 (al F (pre ++ [j])) → Fx [24, 25] [(20, 9), (20, 10), (20, 11)] h h4 → BSt h4 n st → am_E (k + 1 + 4) m_X0_place 108 [some (.ref 20), some (.int (nI w)), some (.int (nI pre.length)), some (.int (nI b)), some (.int (nI (al F pre).length)), some (.int (zI (psm (gn hm g F w pre) pre.length))), some (.int (nI j)), some (.int (nI (al F (pre ++ [j])).length)), l8, l9] [] h4 (fun v h2 => v = none ∧ Fx [24, 25] [(20, 9), (20, 10), (20, 11)] h h2 ∧ OR' h2 pre ∧ AR h2 (al F pre) ∧ BSt h2 n (jdl (tot hm n g F w) (jdl (tot hm n g F w) st (lvx n k (pre ++ [j]))) (lvm (fun m => lvx n k (pre ++ [m])) pre q (j + 1)))) := by
            intro h4 l8 l9 hW4 hM4 hP4 hO4 hA4 hf4 hB4
            have hga : am_C 3 m_X0_gain [.ref 20, .int (nI w), .int (nI pre.length), .int (nI (al F pre).length), .int (nI j)] h4 (some (.int (zI (gn hm g F w (pre ++ [j]) pre.length))), h4) := by
              rcases (show w = 0 ∨ w = 1 ∨ w = 2 by omega) with rfl | hw
              · exact c_gain0 hW4 (hP4.1 rfl).1 h2 (by omega) (by omega) e h7 hO4.cut
              · exact c_gain12 hW4 hM4 h2 (by omega) (by omega) e h7 hA4 (by omega)
            cases hst : st with
            | none =>
              have hfo : am_i h4 20 9 = nI 0 := by rw [hst] at hB4; exact hB4
              rw [← hst]
              refine Eq_il dX0_place_108 rfl ?_
              refine Eq_aln dX0_place_110 rfl ?_
              refine Eq_iln dX0_place_111 rfl ?_
              refine Eq_iln dX0_place_112 rfl ?_
              refine Eq_il dX0_place_113 rfl ?_
              refine Eq_il dX0_place_115 rfl ?_
              refine Eq_V4 (N := m_X0_gain) dX0_place_117 lk_X0_149 mV_X0_gain (hga) (by omega) (ws_20 hW4) rfl (by decide) (Nat.le_of_ble_eq_true rfl) (Nat.le_of_ble_eq_true rfl) ?_
              refine Eam_x_pu dX0_place_120 rfl ?_
              rw [hadd]
              refine Eq_is dX0_place_121 (by decide) ?_
              refine Eam_nl (pc' := 123) (l' := [_, _, _, _, _, _, _, _, _, _]) rfl rfl ?_
              refine Eq_iln dX0_place_123 rfl ?_
              refine Eq_ic (v := nI 1) dX0_place_124 rfl ?_
              refine Eq_il dX0_place_125 rfl ?_
              first | refine Eq_shl1 dX0_place_127 (by omega) ?_ | refine Eam_x_pu dX0_place_127 rfl ?_
              first | refine Eq_or dX0_place_128 ?_ | refine Eam_x_pu dX0_place_128 rfl ?_
              refine Eq_is dX0_place_129 (by decide) ?_
              refine Eam_nl (pc' := 131) (l' := [_, _, _, _, _, _, _, _, _, _]) rfl rfl ?_
              refine Eq_aln dX0_place_131 rfl ?_
              refine Eq_getI dX0_place_132 fl_X0_111 (ws_20 hW4) rfl hfo ?_
              refine Et_if_eq 160 dX0_place_135 rfl (by rfl) ?_
              exact at160 h4 _ _ hW4 hM4 hP4 hO4 hA4 hf4 hB4 rfl rfl
            | some bb =>
              have hB5 := hB4
              rw [hst] at hB5
              obtain ⟨hfo, hbs, hbd5, hb1, hb2⟩ := id hB5
              have hho := c_hope hW4 hM4 hP4 (pre := pre ++ [j]) (by omega) u1
              rw [hl1] at hho
              have hhb : -8000000 ≤ hp g F lf AL mr w (pre ++ [j]) ∧ hp g F lf AL mr w (pre ++ [j]) ≤ 8000000 := by
                have q1 := hlf (pre ++ [j]).length
                have q2 : AL ≤ 7 := hP4.2.2.2.1
                have q3 : mr ≤ 7000 := hP4.2.2.2.2.1
                unfold hp
                split
                · omega
                · split
                  · split <;> omega
                  · split <;> omega
              by_cases hc : psm (gn hm g F w (pre ++ [j])) (pre.length + 1) + hp g F lf AL mr w (pre ++ [j]) ≤ bb.1
              · rw [jdl_cut (b := bb) (fun l hl => by have z := hok k (pre ++ [j]) l hnd hlt (by omega) hl; rw [hl1] at z; omega), ← hst]
                refine Eq_il dX0_place_108 rfl ?_
                refine Eq_aln dX0_place_110 rfl ?_
                refine Eq_iln dX0_place_111 rfl ?_
                refine Eq_iln dX0_place_112 rfl ?_
                refine Eq_il dX0_place_113 rfl ?_
                refine Eq_il dX0_place_115 rfl ?_
                refine Eq_V4 (N := m_X0_gain) dX0_place_117 lk_X0_149 mV_X0_gain (hga) (by omega) (ws_20 hW4) rfl (by decide) (Nat.le_of_ble_eq_true rfl) (Nat.le_of_ble_eq_true rfl) ?_
                refine Eam_x_pu dX0_place_120 rfl ?_
                rw [hadd]
                refine Eq_is dX0_place_121 (by decide) ?_
                refine Eam_nl (pc' := 123) (l' := [_, _, _, _, _, _, _, _, _, _]) rfl rfl ?_
                refine Eq_iln dX0_place_123 rfl ?_
                refine Eq_ic (v := nI 1) dX0_place_124 rfl ?_
                refine Eq_il dX0_place_125 rfl ?_
                first | refine Eq_shl1 dX0_place_127 (by omega) ?_ | refine Eam_x_pu dX0_place_127 rfl ?_
                first | refine Eq_or dX0_place_128 ?_ | refine Eam_x_pu dX0_place_128 rfl ?_
                refine Eq_is dX0_place_129 (by decide) ?_
                refine Eam_nl (pc' := 131) (l' := [_, _, _, _, _, _, _, _, _, _]) rfl rfl ?_
                refine Eq_aln dX0_place_131 rfl ?_
                refine Eq_getI dX0_place_132 fl_X0_111 (ws_20 hW4) rfl (by first | exact hfo | exact hbs) ?_
                refine Ef_if_eq dX0_place_135 (tgt := 160) rfl (by exact zf1) ?_
                refine Eq_il dX0_place_138 rfl ?_
                refine Eq_aln dX0_place_140 rfl ?_
                refine Eq_iln dX0_place_141 rfl ?_
                refine Eq_iln dX0_place_142 rfl ?_
                refine Eq_ic (v := nI 1) dX0_place_143 rfl ?_
                first | refine Eq_add dX0_place_144 ?_ | refine Eam_x_pu dX0_place_144 rfl ?_
                refine Eq_il dX0_place_145 rfl ?_
                refine Eq_il dX0_place_147 rfl ?_
                refine Eq_V4 (N := m_X0_hope) dX0_place_149 lk_X0_153 mV_X0_hope (hho) (by omega) (ws_20 hW4) rfl (by decide) (Nat.le_of_ble_eq_true rfl) (Nat.le_of_ble_eq_true rfl) ?_
                refine Eam_x_pu dX0_place_152 rfl ?_
                refine Eq_aln dX0_place_153 rfl ?_
                refine Eq_getI dX0_place_154 fl_X0_121 (ws_20 hW4) rfl (by first | exact hfo | exact hbs) ?_
                refine Et_ic_le 174 dX0_place_157 rfl (by rw [zI_add]; exact (zI_le (by omega) (by omega) (by omega) (by omega)).mpr hc) ?_
                exact at174 st h4 _ _ _ hW4 hM4 hP4 hO4.cut hA4.cut hf4 hB4
              · rw [← hst]
                refine Eq_il dX0_place_108 rfl ?_
                refine Eq_aln dX0_place_110 rfl ?_
                refine Eq_iln dX0_place_111 rfl ?_
                refine Eq_iln dX0_place_112 rfl ?_
                refine Eq_il dX0_place_113 rfl ?_
                refine Eq_il dX0_place_115 rfl ?_
                refine Eq_V4 (N := m_X0_gain) dX0_place_117 lk_X0_149 mV_X0_gain (hga) (by omega) (ws_20 hW4) rfl (by decide) (Nat.le_of_ble_eq_true rfl) (Nat.le_of_ble_eq_true rfl) ?_
                refine Eam_x_pu dX0_place_120 rfl ?_
                rw [hadd]
                refine Eq_is dX0_place_121 (by decide) ?_
                refine Eam_nl (pc' := 123) (l' := [_, _, _, _, _, _, _, _, _, _]) rfl rfl ?_
                refine Eq_iln dX0_place_123 rfl ?_
                refine Eq_ic (v := nI 1) dX0_place_124 rfl ?_
                refine Eq_il dX0_place_125 rfl ?_
                first | refine Eq_shl1 dX0_place_127 (by omega) ?_ | refine Eam_x_pu dX0_place_127 rfl ?_
                first | refine Eq_or dX0_place_128 ?_ | refine Eam_x_pu dX0_place_128 rfl ?_
                refine Eq_is dX0_place_129 (by decide) ?_
                refine Eam_nl (pc' := 131) (l' := [_, _, _, _, _, _, _, _, _, _]) rfl rfl ?_
                refine Eq_aln dX0_place_131 rfl ?_
                refine Eq_getI dX0_place_132 fl_X0_111 (ws_20 hW4) rfl (by first | exact hfo | exact hbs) ?_
                refine Ef_if_eq dX0_place_135 (tgt := 160) rfl (by exact zf1) ?_
                refine Eq_il dX0_place_138 rfl ?_
                refine Eq_aln dX0_place_140 rfl ?_
                refine Eq_iln dX0_place_141 rfl ?_
                refine Eq_iln dX0_place_142 rfl ?_
                refine Eq_ic (v := nI 1) dX0_place_143 rfl ?_
                first | refine Eq_add dX0_place_144 ?_ | refine Eam_x_pu dX0_place_144 rfl ?_
                refine Eq_il dX0_place_145 rfl ?_
                refine Eq_il dX0_place_147 rfl ?_
                refine Eq_V4 (N := m_X0_hope) dX0_place_149 lk_X0_153 mV_X0_hope (hho) (by omega) (ws_20 hW4) rfl (by decide) (Nat.le_of_ble_eq_true rfl) (Nat.le_of_ble_eq_true rfl) ?_
                refine Eam_x_pu dX0_place_152 rfl ?_
                refine Eq_aln dX0_place_153 rfl ?_
                refine Eq_getI dX0_place_154 fl_X0_121 (ws_20 hW4) rfl (by first | exact hfo | exact hbs) ?_
                refine Ef_ic_le dX0_place_157 (tgt := 174) rfl (by rw [zI_add]; exact fun z => hc ((zI_le (by omega) (by omega) (by omega) (by omega)).mp z)) ?_
                exact at160 h4 _ _ hW4 hM4 hP4 hO4 hA4 hf4 hB4 rfl rfl
          have k1 : Fx [24, 25] [(20, 9), (20, 10), (20, 11)] h3 (am_wI h3 24 pre.length (nI j)) := Fx.wI (Or.inl (by decide))
          have hO4 := hO3.put (m := j) (by omega)
          have hM4 := hM3.fx k1 (by decide)
          by_cases e1 : F 3 j = 1
          · have hale : al F (pre ++ [j]) = al F pre := by rw [al_app, if_pos e1]
            rw [hale] at at108
            refine Eq_il dX0_place_36 rfl ?_
            refine Eq_aln dX0_place_38 rfl ?_
            refine Eq_getR dX0_place_39 fl_X0_9 (ws_20 hW3) rfl (wp_20_0 hW3) ?_
            refine Eq_getI dX0_place_42 fl_X0_53 (ws_9 hW3) rfl hM3.1 ?_
            refine Ef_ic_ge dX0_place_45 (tgt := 180) rfl (by exact nI_ge (by omega) (by omega)) ?_
            refine Eq_iln dX0_place_48 rfl ?_
            refine Eq_il dX0_place_49 rfl ?_
            first | refine Eq_shr dX0_place_51 (by omega) (by omega) ?_ | refine Eam_x_pu dX0_place_51 rfl ?_
            refine Eq_ic (v := nI 1) dX0_place_52 rfl ?_
            first | refine Eq_and dX0_place_53 ?_ | refine Eam_x_pu dX0_place_53 rfl ?_
            refine Et_if_eq 60 dX0_place_54 rfl (by rw [bit_and, if_neg hbf]; rfl) ?_
            refine Eq_aln dX0_place_60 rfl ?_
            refine Eq_getR dX0_place_61 fl_X0_34 (ws_20 hW3) rfl (wp_20_5 hW3) ?_
            refine Eq_iln dX0_place_64 rfl ?_
            refine Eq_il dX0_place_65 rfl ?_
            refine Eq_ast dX0_place_67 (ws_24 hW3) (by omega) (by omega) ?_
            refine Eq_il dX0_place_68 rfl ?_
            refine Eq_is dX0_place_70 (by decide) ?_
            refine Eam_nl (pc' := 72) (l' := [_, _, _, _, _, _, _, _, _, _]) rfl rfl ?_
            refine Eq_aln dX0_place_72 rfl ?_
            refine Eq_getR dX0_place_73 fl_X0_9 (ws_20 hW3) rfl (wp_20_0 hW3) ?_
            refine Eq_il dX0_place_76 rfl ?_
            refine Eq_V1 (N := m_X5_lives) dX0_place_78 lk_X0_145 mV_X5_lives (c_lives (k1.Wd hW3) hM4 (by omega)) (by omega) (ws_9 hW3) rfl (by decide) (Nat.le_of_ble_eq_true rfl) (Nat.le_of_ble_eq_true rfl) ?_
            refine Et_if_eq 108 dX0_place_81 rfl (by rw [if_neg (fun z => z e1)]; rfl) ?_
            exact at108 _ _ _ (k1.Wd hW3) hM4 (hP3.fx k1 (by decide)) hO4 (hA3.fx (A := [24]) (B := []) (Fx.wI (Or.inl (by decide))) (by decide) (by decide)) (hf3.tr k1) (hB3.fx (A := [24]) (B := []) (Fx.wI (Or.inl (by decide))) (by decide))
          · have hale : al F (pre ++ [j]) = al F pre ++ [j] := by rw [al_app, if_neg e1]
            have halen : (al F (pre ++ [j])).length = (al F pre).length + 1 := by rw [hale]; simp
            rw [halen] at at108
            have k2 : Fx [24, 25] [(20, 9), (20, 10), (20, 11)] (am_wI h3 24 pre.length (nI j)) (am_wI (am_wI h3 24 pre.length (nI j)) 25 (al F pre).length (nI j)) := Fx.wI (Or.inl (by decide))
            have hA4 := (hA3.fx (A := [24]) (B := []) (h' := am_wI h3 24 pre.length (nI j)) (Fx.wI (Or.inl (by decide))) (by decide) (by decide)).put (m := j) (by omega)
            rw [← hale] at hA4
            refine Eq_il dX0_place_36 rfl ?_
            refine Eq_aln dX0_place_38 rfl ?_
            refine Eq_getR dX0_place_39 fl_X0_9 (ws_20 hW3) rfl (wp_20_0 hW3) ?_
            refine Eq_getI dX0_place_42 fl_X0_53 (ws_9 hW3) rfl hM3.1 ?_
            refine Ef_ic_ge dX0_place_45 (tgt := 180) rfl (by exact nI_ge (by omega) (by omega)) ?_
            refine Eq_iln dX0_place_48 rfl ?_
            refine Eq_il dX0_place_49 rfl ?_
            first | refine Eq_shr dX0_place_51 (by omega) (by omega) ?_ | refine Eam_x_pu dX0_place_51 rfl ?_
            refine Eq_ic (v := nI 1) dX0_place_52 rfl ?_
            first | refine Eq_and dX0_place_53 ?_ | refine Eam_x_pu dX0_place_53 rfl ?_
            refine Et_if_eq 60 dX0_place_54 rfl (by rw [bit_and, if_neg hbf]; rfl) ?_
            refine Eq_aln dX0_place_60 rfl ?_
            refine Eq_getR dX0_place_61 fl_X0_34 (ws_20 hW3) rfl (wp_20_5 hW3) ?_
            refine Eq_iln dX0_place_64 rfl ?_
            refine Eq_il dX0_place_65 rfl ?_
            refine Eq_ast dX0_place_67 (ws_24 hW3) (by omega) (by omega) ?_
            refine Eq_il dX0_place_68 rfl ?_
            refine Eq_is dX0_place_70 (by decide) ?_
            refine Eam_nl (pc' := 72) (l' := [_, _, _, _, _, _, _, _, _, _]) rfl rfl ?_
            refine Eq_aln dX0_place_72 rfl ?_
            refine Eq_getR dX0_place_73 fl_X0_9 (ws_20 hW3) rfl (wp_20_0 hW3) ?_
            refine Eq_il dX0_place_76 rfl ?_
            refine Eq_V1 (N := m_X5_lives) dX0_place_78 lk_X0_145 mV_X5_lives (c_lives (k1.Wd hW3) hM4 (by omega)) (by omega) (ws_9 hW3) rfl (by decide) (Nat.le_of_ble_eq_true rfl) (Nat.le_of_ble_eq_true rfl) ?_
            refine Ef_if_eq dX0_place_81 (tgt := 108) rfl (by rw [if_pos e1]; exact zf1) ?_
            refine Eq_il dX0_place_84 rfl ?_
            refine En_if_lt (tgt := 108) dX0_place_86 rfl (by omega) ?_
            refine Eq_il dX0_place_89 rfl ?_
            refine Eq_bp (v := nI 7) dX0_place_91 rfl ?_
            refine Ef_ic_ge dX0_place_93 (tgt := 108) rfl (by exact nI_ge (b := 7) (by omega) (by omega)) ?_
            refine Eq_aln dX0_place_96 rfl ?_
            refine Eq_getR dX0_place_97 fl_X0_37 (ws_20 hW3) rfl (wp_20_6 hW3) ?_
            refine Eq_il dX0_place_100 rfl ?_
            refine Eq_il dX0_place_102 rfl ?_
            refine Eq_ast dX0_place_104 (ws_25 hW3) (by omega) (by omega) ?_
            refine Eq_inc dX0_place_105 rfl (by decide) ?_
            refine Eam_nl (pc' := 108) (l' := [_, _, _, _, _, _, _, _, _, _]) rfl rfl ?_
            exact at108 _ _ _ ((k1.tr k2).Wd hW3) (hM3.fx (k1.tr k2) (by decide)) (hP3.fx (k1.tr k2) (by decide)) (hO4.fx (A := [25]) (B := []) (Fx.wI (Or.inl (by decide))) (by decide) (by decide)) hA4 (hf3.tr (k1.tr k2)) (hB3.fx (A := [24, 25]) (B := []) ((Fx.wI (Or.inl (by decide))).tr (Fx.wI (Or.inl (by decide)))) (by decide))
    have hfin := lp n 0 st h none none none (by omega) hW hM hP hO hA Fx.rf hB
    rw [show lvm (fun m => lvx n k (pre ++ [m])) pre n 0 = lvx n (k + 1) pre from rfl] at hfin
    refine Eq_iln dX0_place_0 rfl ?_
    refine Eq_aln dX0_place_1 rfl ?_
    refine Eq_getR dX0_place_2 fl_X0_9 (ws_20 hW) rfl (wp_20_0 hW) ?_
    refine Eq_getI dX0_place_5 fl_X0_53 (ws_9 hW) rfl hM.1 ?_
    refine Ef_ic_ge dX0_place_8 (tgt := 17) rfl (by exact nI_ge (by omega) (by omega)) ?_
    refine Eq_iln dX0_place_11 rfl ?_
    refine Eq_bp (v := nI 7) dX0_place_12 rfl ?_
    refine Et_ic_lt 33 dX0_place_14 rfl (by exact nI_lt (b := 7) (by omega) (by omega)) ?_
    refine Eq_ic (v := nI 0) dX0_place_33 rfl ?_
    refine Eq_is dX0_place_34 (by decide) ?_
    refine Eam_nl (pc' := 36) (l' := [_, _, _, _, _, _, _, _, _, _]) rfl rfl ?_
    exact hfin
