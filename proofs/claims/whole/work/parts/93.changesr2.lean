/-! the reference's changes, whole -/
set_option maxHeartbeats 2000000 in
theorem r_ch_lp {n : Nat} {g : Bool} {F : Nat → Nat → Nat} (h7 : n ≤ 7) {S T : Nat → Nat} (hp : Pm n S T) {y : Nat} (hy : y < 2) {h0 : am_H} : ∀ q d A h l6, ct (fun i => (A i).isNone) (N_ n) ≤ q → d + q ≤ 99998 → WAY n g (lS n S) d A → NGd n g F (lS n S) d → Wd h → (∃ Sx Tx, RB h n g F Sx Tx) → SLs h ((LX n).map (dgl n)) → AW h n A → Fx [63, 67] [] h0 h → am_E 10 m_X12_changes 69 [some (.ref 50), some (.int (nI y)), some (.int (nI (dg S n))), some (.int (-1)), some (.int (nI d)), some (.int (nI 1)), l6] [] h (fun v h2 => (∃ o, Ans n g F (lS n S) o ∧ v = some (.int (if y = 0 then oN (o.map Prod.fst) else oN (o.map Prod.snd)))) ∧ Fx [63, 67] [] h0 h2 ∧ RB h2 n g F S T) := by
  have hl0 : PL n (lS n S) := lS_PL hp
  have hdg : dg S n < 10000000 := by
    have z := dgl_lt h7 hl0.2.1 hl0.2.2
    rw [dgl_lS] at z
    exact z
  intro q
  induction q with
  | zero =>
    intro d A h l6 hc hdq hw hn hW hRe hQ hA hf
    refine Eq_il dX12_changes_69 rfl ?_
    refine Ef_if_eq dX12_changes_71 (tgt := 188) rfl (by exact zf1) ?_
    refine Eq_iln dX12_changes_74 rfl ?_
    refine Eq_ic (v := -1) dX12_changes_75 rfl ?_
    refine Ef_ic_ne dX12_changes_76 (tgt := 188) rfl (by rfl) ?_
    refine Eq_ic (v := nI 0) dX12_changes_79 rfl ?_
    refine Eq_is dX12_changes_80 (by decide) ?_
    refine Eam_nl (pc' := 82) (l' := [_, _, _, _, _, _, _]) rfl rfl ?_
    refine Eq_ic (v := nI 0) dX12_changes_82 rfl ?_
    refine Eq_is dX12_changes_83 (by decide) ?_
    refine Eam_nl (pc' := 85) (l' := [_, _, _, _, _, _, _]) rfl rfl ?_
    refine r_ch_in h7 (by omega) (fun A2 b st h1 l6 hI hF hb hW2 hRe1 hQ1 hA1 hf1 => ?_) (N_ n) 0 A false none h (by omega) IT.zero (fun k z => by omega) (fun t e => nomatch e) hW hRe hQ hA hf
    obtain ⟨Sx, Tx, hR1⟩ := id hRe1
    cases st with
    | some t =>
      have hbt := hb t rfl
      have han := Ans_fo h7 hl0 hn hw hF
      by_cases hy0 : y = 0
      · subst hy0
        cases b with
        | true =>
          refine Eq_il dX12_changes_170 rfl ?_
          refine Eq_iln dX12_changes_172 rfl ?_
          refine Eq_ic (v := -1) dX12_changes_173 rfl ?_
          refine Et_ic_ne 181 dX12_changes_174 rfl (by exact nI_m1 (by omega)) ?_
          refine Eq_ic (v := nI 0) dX12_changes_181 rfl ?_
          first | refine Eq_add dX12_changes_182 ?_ | refine Eam_x_pu dX12_changes_182 rfl ?_
          refine Eq_is dX12_changes_183 (by decide) ?_
          refine Eam_nl (pc' := 185) (l' := [_, _, _, _, _, _, _]) rfl rfl ?_
          refine Eam_x_goto (tgt := 69) dX12_changes_185 rfl ?_
          refine Eq_il dX12_changes_69 rfl ?_
          refine Ef_if_eq dX12_changes_71 (tgt := 188) rfl (by exact zf1) ?_
          refine Eq_iln dX12_changes_74 rfl ?_
          refine Eq_ic (v := -1) dX12_changes_75 rfl ?_
          refine Et_ic_ne 188 dX12_changes_76 rfl (by exact nI_m1 (by omega)) ?_
          refine Eq_aln dX12_changes_188 rfl ?_
          refine Eq_iln dX12_changes_189 rfl ?_
          refine Eq_W1 (N := m_X12_write) dX12_changes_190 lk_X12_300 mV_X12_write (r_write hW2 hR1 (v := dg S n) (by omega) hp (fun s hs => dgs_dg (fun s hs => by have := (hp.1 s hs).1; omega) hs)) (by decide) (ws_50 hW2) rfl (by decide) (Nat.le_of_ble_eq_true rfl) (Nat.le_of_ble_eq_true rfl) (fun vq hq1 hq2 => ?_)
          obtain ⟨rfl, hf2, hR2⟩ := hq2
          refine Eq_iln dX12_changes_193 rfl ?_
          refine Eq_ic (v := -1) dX12_changes_194 rfl ?_
          refine Ef_ic_eq dX12_changes_195 (tgt := 203) rfl (by exact nI_m1 (by omega)) ?_
          refine Eq_iln dX12_changes_198 rfl ?_
          refine Eq_ic (v := nI 1) dX12_changes_199 rfl ?_
          refine Et_ic_ne 207 dX12_changes_200 rfl (by decide +kernel) ?_
          refine Eq_il dX12_changes_207 rfl ?_
          refine Eq_ir dX12_changes_209 rfl ?_
          exact ⟨⟨some (d, t), han, rfl⟩, hf1.tr (hf2.mono (by decide) (by decide)), hR2⟩
        | false =>
          refine Eq_il dX12_changes_170 rfl ?_
          refine Eq_iln dX12_changes_172 rfl ?_
          refine Eq_ic (v := -1) dX12_changes_173 rfl ?_
          refine Et_ic_ne 181 dX12_changes_174 rfl (by exact nI_m1 (by omega)) ?_
          refine Eq_ic (v := nI 0) dX12_changes_181 rfl ?_
          first | refine Eq_add dX12_changes_182 ?_ | refine Eam_x_pu dX12_changes_182 rfl ?_
          refine Eq_is dX12_changes_183 (by decide) ?_
          refine Eam_nl (pc' := 185) (l' := [_, _, _, _, _, _, _]) rfl rfl ?_
          refine Eam_x_goto (tgt := 69) dX12_changes_185 rfl ?_
          refine Eq_il dX12_changes_69 rfl ?_
          refine Et_if_eq 188 dX12_changes_71 rfl (by rfl) ?_
          refine Eq_aln dX12_changes_188 rfl ?_
          refine Eq_iln dX12_changes_189 rfl ?_
          refine Eq_W1 (N := m_X12_write) dX12_changes_190 lk_X12_300 mV_X12_write (r_write hW2 hR1 (v := dg S n) (by omega) hp (fun s hs => dgs_dg (fun s hs => by have := (hp.1 s hs).1; omega) hs)) (by decide) (ws_50 hW2) rfl (by decide) (Nat.le_of_ble_eq_true rfl) (Nat.le_of_ble_eq_true rfl) (fun vq hq1 hq2 => ?_)
          obtain ⟨rfl, hf2, hR2⟩ := hq2
          refine Eq_iln dX12_changes_193 rfl ?_
          refine Eq_ic (v := -1) dX12_changes_194 rfl ?_
          refine Ef_ic_eq dX12_changes_195 (tgt := 203) rfl (by exact nI_m1 (by omega)) ?_
          refine Eq_iln dX12_changes_198 rfl ?_
          refine Eq_ic (v := nI 1) dX12_changes_199 rfl ?_
          refine Et_ic_ne 207 dX12_changes_200 rfl (by decide +kernel) ?_
          refine Eq_il dX12_changes_207 rfl ?_
          refine Eq_ir dX12_changes_209 rfl ?_
          exact ⟨⟨some (d, t), han, rfl⟩, hf1.tr (hf2.mono (by decide) (by decide)), hR2⟩
      · have hy1 : y = 1 := by omega
        subst hy1
        cases b with
        | true =>
          refine Eq_il dX12_changes_170 rfl ?_
          refine Eq_iln dX12_changes_172 rfl ?_
          refine Eq_ic (v := -1) dX12_changes_173 rfl ?_
          refine Et_ic_ne 181 dX12_changes_174 rfl (by exact nI_m1 (by omega)) ?_
          refine Eq_ic (v := nI 0) dX12_changes_181 rfl ?_
          first | refine Eq_add dX12_changes_182 ?_ | refine Eam_x_pu dX12_changes_182 rfl ?_
          refine Eq_is dX12_changes_183 (by decide) ?_
          refine Eam_nl (pc' := 185) (l' := [_, _, _, _, _, _, _]) rfl rfl ?_
          refine Eam_x_goto (tgt := 69) dX12_changes_185 rfl ?_
          refine Eq_il dX12_changes_69 rfl ?_
          refine Ef_if_eq dX12_changes_71 (tgt := 188) rfl (by exact zf1) ?_
          refine Eq_iln dX12_changes_74 rfl ?_
          refine Eq_ic (v := -1) dX12_changes_75 rfl ?_
          refine Et_ic_ne 188 dX12_changes_76 rfl (by exact nI_m1 (by omega)) ?_
          refine Eq_aln dX12_changes_188 rfl ?_
          refine Eq_iln dX12_changes_189 rfl ?_
          refine Eq_W1 (N := m_X12_write) dX12_changes_190 lk_X12_300 mV_X12_write (r_write hW2 hR1 (v := dg S n) (by omega) hp (fun s hs => dgs_dg (fun s hs => by have := (hp.1 s hs).1; omega) hs)) (by decide) (ws_50 hW2) rfl (by decide) (Nat.le_of_ble_eq_true rfl) (Nat.le_of_ble_eq_true rfl) (fun vq hq1 hq2 => ?_)
          obtain ⟨rfl, hf2, hR2⟩ := hq2
          refine Eq_iln dX12_changes_193 rfl ?_
          refine Eq_ic (v := -1) dX12_changes_194 rfl ?_
          refine Ef_ic_eq dX12_changes_195 (tgt := 203) rfl (by exact nI_m1 (by omega)) ?_
          refine Eq_iln dX12_changes_198 rfl ?_
          refine Eq_ic (v := nI 1) dX12_changes_199 rfl ?_
          refine Ef_ic_ne dX12_changes_200 (tgt := 207) rfl (by rfl) ?_
          refine Eq_iln dX12_changes_203 rfl ?_
          refine Eam_x_goto (tgt := 209) dX12_changes_204 rfl ?_
          refine Eq_ir dX12_changes_209 rfl ?_
          exact ⟨⟨some (d, t), han, rfl⟩, hf1.tr (hf2.mono (by decide) (by decide)), hR2⟩
        | false =>
          refine Eq_il dX12_changes_170 rfl ?_
          refine Eq_iln dX12_changes_172 rfl ?_
          refine Eq_ic (v := -1) dX12_changes_173 rfl ?_
          refine Et_ic_ne 181 dX12_changes_174 rfl (by exact nI_m1 (by omega)) ?_
          refine Eq_ic (v := nI 0) dX12_changes_181 rfl ?_
          first | refine Eq_add dX12_changes_182 ?_ | refine Eam_x_pu dX12_changes_182 rfl ?_
          refine Eq_is dX12_changes_183 (by decide) ?_
          refine Eam_nl (pc' := 185) (l' := [_, _, _, _, _, _, _]) rfl rfl ?_
          refine Eam_x_goto (tgt := 69) dX12_changes_185 rfl ?_
          refine Eq_il dX12_changes_69 rfl ?_
          refine Et_if_eq 188 dX12_changes_71 rfl (by rfl) ?_
          refine Eq_aln dX12_changes_188 rfl ?_
          refine Eq_iln dX12_changes_189 rfl ?_
          refine Eq_W1 (N := m_X12_write) dX12_changes_190 lk_X12_300 mV_X12_write (r_write hW2 hR1 (v := dg S n) (by omega) hp (fun s hs => dgs_dg (fun s hs => by have := (hp.1 s hs).1; omega) hs)) (by decide) (ws_50 hW2) rfl (by decide) (Nat.le_of_ble_eq_true rfl) (Nat.le_of_ble_eq_true rfl) (fun vq hq1 hq2 => ?_)
          obtain ⟨rfl, hf2, hR2⟩ := hq2
          refine Eq_iln dX12_changes_193 rfl ?_
          refine Eq_ic (v := -1) dX12_changes_194 rfl ?_
          refine Ef_ic_eq dX12_changes_195 (tgt := 203) rfl (by exact nI_m1 (by omega)) ?_
          refine Eq_iln dX12_changes_198 rfl ?_
          refine Eq_ic (v := nI 1) dX12_changes_199 rfl ?_
          refine Ef_ic_ne dX12_changes_200 (tgt := 207) rfl (by rfl) ?_
          refine Eq_iln dX12_changes_203 rfl ?_
          refine Eam_x_goto (tgt := 209) dX12_changes_204 rfl ?_
          refine Eq_ir dX12_changes_209 rfl ?_
          exact ⟨⟨some (d, t), han, rfl⟩, hf1.tr (hf2.mono (by decide) (by decide)), hR2⟩
    | none =>
      have hn2 := hn.next hl0 hw hF
      cases b with
      | false =>
        have han := Ans_ex hl0 hn2 hw hI
        refine Eq_il dX12_changes_170 rfl ?_
        refine Eq_iln dX12_changes_172 rfl ?_
        refine Eq_ic (v := -1) dX12_changes_173 rfl ?_
        refine Ef_ic_ne dX12_changes_174 (tgt := 181) rfl (by rfl) ?_
        refine Eq_ic (v := nI 1) dX12_changes_177 rfl ?_
        refine Eam_x_goto (tgt := 182) dX12_changes_178 rfl ?_
        first | refine Eq_add dX12_changes_182 ?_ | refine Eam_x_pu dX12_changes_182 rfl ?_
        refine Eq_is dX12_changes_183 (by decide) ?_
        refine Eam_nl (pc' := 185) (l' := [_, _, _, _, _, _, _]) rfl rfl ?_
        refine Eam_x_goto (tgt := 69) dX12_changes_185 rfl ?_
        refine Eq_il dX12_changes_69 rfl ?_
        refine Et_if_eq 188 dX12_changes_71 rfl (by rfl) ?_
        refine Eq_aln dX12_changes_188 rfl ?_
        refine Eq_iln dX12_changes_189 rfl ?_
        refine Eq_W1 (N := m_X12_write) dX12_changes_190 lk_X12_300 mV_X12_write (r_write hW2 hR1 (v := dg S n) (by omega) hp (fun s hs => dgs_dg (fun s hs => by have := (hp.1 s hs).1; omega) hs)) (by decide) (ws_50 hW2) rfl (by decide) (Nat.le_of_ble_eq_true rfl) (Nat.le_of_ble_eq_true rfl) (fun vq hq1 hq2 => ?_)
        obtain ⟨rfl, hf2, hR2⟩ := hq2
        refine Eq_iln dX12_changes_193 rfl ?_
        refine Eq_ic (v := -1) dX12_changes_194 rfl ?_
        refine Et_ic_eq 203 dX12_changes_195 rfl (by rfl) ?_
        refine Eq_iln dX12_changes_203 rfl ?_
        refine Eam_x_goto (tgt := 209) dX12_changes_204 rfl ?_
        refine Eq_ir dX12_changes_209 rfl ?_
        exact ⟨⟨none, han, by split <;> rfl⟩, hf1.tr (hf2.mono (by decide) (by decide)), hR2⟩
      | true =>
        exfalso
        obtain ⟨i, i1, i2, i3⟩ := hI.2.mp rfl
        have := ct_0 (Nat.le_zero.mp hc) i i1
        rw [i2] at this
        cases this
  | succ q ih =>
    intro d A h l6 hc hdq hw hn hW hRe hQ hA hf
    refine Eq_il dX12_changes_69 rfl ?_
    refine Ef_if_eq dX12_changes_71 (tgt := 188) rfl (by exact zf1) ?_
    refine Eq_iln dX12_changes_74 rfl ?_
    refine Eq_ic (v := -1) dX12_changes_75 rfl ?_
    refine Ef_ic_ne dX12_changes_76 (tgt := 188) rfl (by rfl) ?_
    refine Eq_ic (v := nI 0) dX12_changes_79 rfl ?_
    refine Eq_is dX12_changes_80 (by decide) ?_
    refine Eam_nl (pc' := 82) (l' := [_, _, _, _, _, _, _]) rfl rfl ?_
    refine Eq_ic (v := nI 0) dX12_changes_82 rfl ?_
    refine Eq_is dX12_changes_83 (by decide) ?_
    refine Eam_nl (pc' := 85) (l' := [_, _, _, _, _, _, _]) rfl rfl ?_
    refine r_ch_in h7 (by omega) (fun A2 b st h1 l6 hI hF hb hW2 hRe1 hQ1 hA1 hf1 => ?_) (N_ n) 0 A false none h (by omega) IT.zero (fun k z => by omega) (fun t e => nomatch e) hW hRe hQ hA hf
    obtain ⟨Sx, Tx, hR1⟩ := id hRe1
    cases st with
    | some t =>
      have hbt := hb t rfl
      have han := Ans_fo h7 hl0 hn hw hF
      by_cases hy0 : y = 0
      · subst hy0
        cases b with
        | true =>
          refine Eq_il dX12_changes_170 rfl ?_
          refine Eq_iln dX12_changes_172 rfl ?_
          refine Eq_ic (v := -1) dX12_changes_173 rfl ?_
          refine Et_ic_ne 181 dX12_changes_174 rfl (by exact nI_m1 (by omega)) ?_
          refine Eq_ic (v := nI 0) dX12_changes_181 rfl ?_
          first | refine Eq_add dX12_changes_182 ?_ | refine Eam_x_pu dX12_changes_182 rfl ?_
          refine Eq_is dX12_changes_183 (by decide) ?_
          refine Eam_nl (pc' := 185) (l' := [_, _, _, _, _, _, _]) rfl rfl ?_
          refine Eam_x_goto (tgt := 69) dX12_changes_185 rfl ?_
          refine Eq_il dX12_changes_69 rfl ?_
          refine Ef_if_eq dX12_changes_71 (tgt := 188) rfl (by exact zf1) ?_
          refine Eq_iln dX12_changes_74 rfl ?_
          refine Eq_ic (v := -1) dX12_changes_75 rfl ?_
          refine Et_ic_ne 188 dX12_changes_76 rfl (by exact nI_m1 (by omega)) ?_
          refine Eq_aln dX12_changes_188 rfl ?_
          refine Eq_iln dX12_changes_189 rfl ?_
          refine Eq_W1 (N := m_X12_write) dX12_changes_190 lk_X12_300 mV_X12_write (r_write hW2 hR1 (v := dg S n) (by omega) hp (fun s hs => dgs_dg (fun s hs => by have := (hp.1 s hs).1; omega) hs)) (by decide) (ws_50 hW2) rfl (by decide) (Nat.le_of_ble_eq_true rfl) (Nat.le_of_ble_eq_true rfl) (fun vq hq1 hq2 => ?_)
          obtain ⟨rfl, hf2, hR2⟩ := hq2
          refine Eq_iln dX12_changes_193 rfl ?_
          refine Eq_ic (v := -1) dX12_changes_194 rfl ?_
          refine Ef_ic_eq dX12_changes_195 (tgt := 203) rfl (by exact nI_m1 (by omega)) ?_
          refine Eq_iln dX12_changes_198 rfl ?_
          refine Eq_ic (v := nI 1) dX12_changes_199 rfl ?_
          refine Et_ic_ne 207 dX12_changes_200 rfl (by decide +kernel) ?_
          refine Eq_il dX12_changes_207 rfl ?_
          refine Eq_ir dX12_changes_209 rfl ?_
          exact ⟨⟨some (d, t), han, rfl⟩, hf1.tr (hf2.mono (by decide) (by decide)), hR2⟩
        | false =>
          refine Eq_il dX12_changes_170 rfl ?_
          refine Eq_iln dX12_changes_172 rfl ?_
          refine Eq_ic (v := -1) dX12_changes_173 rfl ?_
          refine Et_ic_ne 181 dX12_changes_174 rfl (by exact nI_m1 (by omega)) ?_
          refine Eq_ic (v := nI 0) dX12_changes_181 rfl ?_
          first | refine Eq_add dX12_changes_182 ?_ | refine Eam_x_pu dX12_changes_182 rfl ?_
          refine Eq_is dX12_changes_183 (by decide) ?_
          refine Eam_nl (pc' := 185) (l' := [_, _, _, _, _, _, _]) rfl rfl ?_
          refine Eam_x_goto (tgt := 69) dX12_changes_185 rfl ?_
          refine Eq_il dX12_changes_69 rfl ?_
          refine Et_if_eq 188 dX12_changes_71 rfl (by rfl) ?_
          refine Eq_aln dX12_changes_188 rfl ?_
          refine Eq_iln dX12_changes_189 rfl ?_
          refine Eq_W1 (N := m_X12_write) dX12_changes_190 lk_X12_300 mV_X12_write (r_write hW2 hR1 (v := dg S n) (by omega) hp (fun s hs => dgs_dg (fun s hs => by have := (hp.1 s hs).1; omega) hs)) (by decide) (ws_50 hW2) rfl (by decide) (Nat.le_of_ble_eq_true rfl) (Nat.le_of_ble_eq_true rfl) (fun vq hq1 hq2 => ?_)
          obtain ⟨rfl, hf2, hR2⟩ := hq2
          refine Eq_iln dX12_changes_193 rfl ?_
          refine Eq_ic (v := -1) dX12_changes_194 rfl ?_
          refine Ef_ic_eq dX12_changes_195 (tgt := 203) rfl (by exact nI_m1 (by omega)) ?_
          refine Eq_iln dX12_changes_198 rfl ?_
          refine Eq_ic (v := nI 1) dX12_changes_199 rfl ?_
          refine Et_ic_ne 207 dX12_changes_200 rfl (by decide +kernel) ?_
          refine Eq_il dX12_changes_207 rfl ?_
          refine Eq_ir dX12_changes_209 rfl ?_
          exact ⟨⟨some (d, t), han, rfl⟩, hf1.tr (hf2.mono (by decide) (by decide)), hR2⟩
      · have hy1 : y = 1 := by omega
        subst hy1
        cases b with
        | true =>
          refine Eq_il dX12_changes_170 rfl ?_
          refine Eq_iln dX12_changes_172 rfl ?_
          refine Eq_ic (v := -1) dX12_changes_173 rfl ?_
          refine Et_ic_ne 181 dX12_changes_174 rfl (by exact nI_m1 (by omega)) ?_
          refine Eq_ic (v := nI 0) dX12_changes_181 rfl ?_
          first | refine Eq_add dX12_changes_182 ?_ | refine Eam_x_pu dX12_changes_182 rfl ?_
          refine Eq_is dX12_changes_183 (by decide) ?_
          refine Eam_nl (pc' := 185) (l' := [_, _, _, _, _, _, _]) rfl rfl ?_
          refine Eam_x_goto (tgt := 69) dX12_changes_185 rfl ?_
          refine Eq_il dX12_changes_69 rfl ?_
          refine Ef_if_eq dX12_changes_71 (tgt := 188) rfl (by exact zf1) ?_
          refine Eq_iln dX12_changes_74 rfl ?_
          refine Eq_ic (v := -1) dX12_changes_75 rfl ?_
          refine Et_ic_ne 188 dX12_changes_76 rfl (by exact nI_m1 (by omega)) ?_
          refine Eq_aln dX12_changes_188 rfl ?_
          refine Eq_iln dX12_changes_189 rfl ?_
          refine Eq_W1 (N := m_X12_write) dX12_changes_190 lk_X12_300 mV_X12_write (r_write hW2 hR1 (v := dg S n) (by omega) hp (fun s hs => dgs_dg (fun s hs => by have := (hp.1 s hs).1; omega) hs)) (by decide) (ws_50 hW2) rfl (by decide) (Nat.le_of_ble_eq_true rfl) (Nat.le_of_ble_eq_true rfl) (fun vq hq1 hq2 => ?_)
          obtain ⟨rfl, hf2, hR2⟩ := hq2
          refine Eq_iln dX12_changes_193 rfl ?_
          refine Eq_ic (v := -1) dX12_changes_194 rfl ?_
          refine Ef_ic_eq dX12_changes_195 (tgt := 203) rfl (by exact nI_m1 (by omega)) ?_
          refine Eq_iln dX12_changes_198 rfl ?_
          refine Eq_ic (v := nI 1) dX12_changes_199 rfl ?_
          refine Ef_ic_ne dX12_changes_200 (tgt := 207) rfl (by rfl) ?_
          refine Eq_iln dX12_changes_203 rfl ?_
          refine Eam_x_goto (tgt := 209) dX12_changes_204 rfl ?_
          refine Eq_ir dX12_changes_209 rfl ?_
          exact ⟨⟨some (d, t), han, rfl⟩, hf1.tr (hf2.mono (by decide) (by decide)), hR2⟩
        | false =>
          refine Eq_il dX12_changes_170 rfl ?_
          refine Eq_iln dX12_changes_172 rfl ?_
          refine Eq_ic (v := -1) dX12_changes_173 rfl ?_
          refine Et_ic_ne 181 dX12_changes_174 rfl (by exact nI_m1 (by omega)) ?_
          refine Eq_ic (v := nI 0) dX12_changes_181 rfl ?_
          first | refine Eq_add dX12_changes_182 ?_ | refine Eam_x_pu dX12_changes_182 rfl ?_
          refine Eq_is dX12_changes_183 (by decide) ?_
          refine Eam_nl (pc' := 185) (l' := [_, _, _, _, _, _, _]) rfl rfl ?_
          refine Eam_x_goto (tgt := 69) dX12_changes_185 rfl ?_
          refine Eq_il dX12_changes_69 rfl ?_
          refine Et_if_eq 188 dX12_changes_71 rfl (by rfl) ?_
          refine Eq_aln dX12_changes_188 rfl ?_
          refine Eq_iln dX12_changes_189 rfl ?_
          refine Eq_W1 (N := m_X12_write) dX12_changes_190 lk_X12_300 mV_X12_write (r_write hW2 hR1 (v := dg S n) (by omega) hp (fun s hs => dgs_dg (fun s hs => by have := (hp.1 s hs).1; omega) hs)) (by decide) (ws_50 hW2) rfl (by decide) (Nat.le_of_ble_eq_true rfl) (Nat.le_of_ble_eq_true rfl) (fun vq hq1 hq2 => ?_)
          obtain ⟨rfl, hf2, hR2⟩ := hq2
          refine Eq_iln dX12_changes_193 rfl ?_
          refine Eq_ic (v := -1) dX12_changes_194 rfl ?_
          refine Ef_ic_eq dX12_changes_195 (tgt := 203) rfl (by exact nI_m1 (by omega)) ?_
          refine Eq_iln dX12_changes_198 rfl ?_
          refine Eq_ic (v := nI 1) dX12_changes_199 rfl ?_
          refine Ef_ic_ne dX12_changes_200 (tgt := 207) rfl (by rfl) ?_
          refine Eq_iln dX12_changes_203 rfl ?_
          refine Eam_x_goto (tgt := 209) dX12_changes_204 rfl ?_
          refine Eq_ir dX12_changes_209 rfl ?_
          exact ⟨⟨some (d, t), han, rfl⟩, hf1.tr (hf2.mono (by decide) (by decide)), hR2⟩
    | none =>
      have hn2 := hn.next hl0 hw hF
      cases b with
      | false =>
        have han := Ans_ex hl0 hn2 hw hI
        refine Eq_il dX12_changes_170 rfl ?_
        refine Eq_iln dX12_changes_172 rfl ?_
        refine Eq_ic (v := -1) dX12_changes_173 rfl ?_
        refine Ef_ic_ne dX12_changes_174 (tgt := 181) rfl (by rfl) ?_
        refine Eq_ic (v := nI 1) dX12_changes_177 rfl ?_
        refine Eam_x_goto (tgt := 182) dX12_changes_178 rfl ?_
        first | refine Eq_add dX12_changes_182 ?_ | refine Eam_x_pu dX12_changes_182 rfl ?_
        refine Eq_is dX12_changes_183 (by decide) ?_
        refine Eam_nl (pc' := 185) (l' := [_, _, _, _, _, _, _]) rfl rfl ?_
        refine Eam_x_goto (tgt := 69) dX12_changes_185 rfl ?_
        refine Eq_il dX12_changes_69 rfl ?_
        refine Et_if_eq 188 dX12_changes_71 rfl (by rfl) ?_
        refine Eq_aln dX12_changes_188 rfl ?_
        refine Eq_iln dX12_changes_189 rfl ?_
        refine Eq_W1 (N := m_X12_write) dX12_changes_190 lk_X12_300 mV_X12_write (r_write hW2 hR1 (v := dg S n) (by omega) hp (fun s hs => dgs_dg (fun s hs => by have := (hp.1 s hs).1; omega) hs)) (by decide) (ws_50 hW2) rfl (by decide) (Nat.le_of_ble_eq_true rfl) (Nat.le_of_ble_eq_true rfl) (fun vq hq1 hq2 => ?_)
        obtain ⟨rfl, hf2, hR2⟩ := hq2
        refine Eq_iln dX12_changes_193 rfl ?_
        refine Eq_ic (v := -1) dX12_changes_194 rfl ?_
        refine Et_ic_eq 203 dX12_changes_195 rfl (by rfl) ?_
        refine Eq_iln dX12_changes_203 rfl ?_
        refine Eam_x_goto (tgt := 209) dX12_changes_204 rfl ?_
        refine Eq_ir dX12_changes_209 rfl ?_
        exact ⟨⟨none, han, by split <;> rfl⟩, hf1.tr (hf2.mono (by decide) (by decide)), hR2⟩
      | true =>
        have hlt : ct (fun i => (A2 i).isNone) (N_ n) < ct (fun i => (A i).isNone) (N_ n) := by
          obtain ⟨i, i1, i2, i3⟩ := hI.2.mp rfl
          refine ct_lt (x := i) (N_ n) (fun j hj z => ?_) i1 (fun z => i3 (Option.isNone_iff_eq_none.mp z)) (by rw [i2]; rfl)
          apply Option.isNone_iff_eq_none.mpr
          apply Classical.byContradiction
          intro w
          have := (hI.1 j hj).1 w
          rw [Option.isNone_iff_eq_none.mp z] at this
          exact w this.symm
        refine Eq_il dX12_changes_170 rfl ?_
        refine Eq_iln dX12_changes_172 rfl ?_
        refine Eq_ic (v := -1) dX12_changes_173 rfl ?_
        refine Ef_ic_ne dX12_changes_174 (tgt := 181) rfl (by rfl) ?_
        refine Eq_ic (v := nI 1) dX12_changes_177 rfl ?_
        refine Eam_x_goto (tgt := 182) dX12_changes_178 rfl ?_
        first | refine Eq_add dX12_changes_182 ?_ | refine Eam_x_pu dX12_changes_182 rfl ?_
        refine Eq_is dX12_changes_183 (by decide) ?_
        refine Eam_nl (pc' := 185) (l' := [_, _, _, _, _, _, _]) rfl rfl ?_
        refine Eam_x_goto (tgt := 69) dX12_changes_185 rfl ?_
        exact ih (d + 1) A2 h1 _ (by omega) (by omega) (hw.next hl0 hI) hn2 hW2 hRe1 hQ1 hA1 hf1
set_option maxHeartbeats 2000000 in
theorem r_ch_set {n : Nat} {S : Nat → Nat} {y : Nat} {h0 : am_H} {Ps : Option Value → am_H → Prop} (kk : ∀ h, Wd h → SLs h ((LX n).map (dgl n)) → Fx [67] [] h0 h → (∀ i, i < N_ n → am_i h 67 i = -1) → am_E 10 m_X12_changes 50 [some (.ref 50), some (.int (nI y)), some (.int (nI (dg S n))), some (.int (nI (N_ n))), none, none, none] [] h Ps) : ∀ q k h, k + q = N_ n → Wd h → SLs h ((LX n).map (dgl n)) → Fx [67] [] h0 h → (∀ i, i < k → am_i h 67 i = -1) → am_E 10 m_X12_changes 29 [some (.ref 50), some (.int (nI y)), some (.int (nI (dg S n))), some (.int (nI k)), none, none, none] [] h Ps := by
  intro q
  induction q with
  | zero =>
    intro k h hk hW hQ hf hv
    have hN := hQ.n
    have hkn : k = N_ n := by omega
    subst hkn
    refine Eq_iln dX12_changes_29 rfl ?_
    refine Eq_aln dX12_changes_30 rfl ?_
    refine Eq_getI dX12_changes_31 fl_X12_362 (ws_50 hW) rfl hQ.n.1 ?_
    refine Et_ic_ge 50 dX12_changes_34 rfl (by exact nI_le (by omega) (by omega)) ?_
    exact kk h hW hQ hf hv
  | succ q ih =>
    intro k h hk hW hQ hf hv
    have hN := hQ.n
    have k1 : Fx [67] [] h (am_wI h 67 k (-1)) := Fx.wI (Or.inl (by decide))
    refine Eq_iln dX12_changes_29 rfl ?_
    refine Eq_aln dX12_changes_30 rfl ?_
    refine Eq_getI dX12_changes_31 fl_X12_362 (ws_50 hW) rfl hQ.n.1 ?_
    refine Ef_ic_ge dX12_changes_34 (tgt := 50) rfl (by exact nI_ge (by omega) (by omega)) ?_
    refine Eq_aln dX12_changes_37 rfl ?_
    refine Eq_getR dX12_changes_38 fl_X12_63 (ws_50 hW) rfl (wp_50_32 hW) ?_
    refine Eq_iln dX12_changes_41 rfl ?_
    refine Eq_ic (v := -1) dX12_changes_42 rfl ?_
    refine Eq_ast dX12_changes_43 (ws_67 hW) (by omega) (by omega) ?_
    refine Eq_inc dX12_changes_44 rfl (by decide) ?_
    refine Eam_nl (pc' := 47) (l' := [_, _, _, _, _, _, _]) rfl rfl ?_
    refine Eam_x_goto (tgt := 29) dX12_changes_47 rfl ?_
    exact ih (k + 1) _ (by omega) (k1.Wd hW) (hQ.fx k1 (by decide)) (hf.tr k1) (fun i hi => by
      rw [wI_eq]
      by_cases e : i = k
      · rw [if_pos e]
      · rw [if_neg e]; exact hv i (by omega))
set_option maxHeartbeats 2000000 in
theorem r_changes {h : am_H} {n : Nat} {g : Bool} {F : Nat → Nat → Nat} {S T : Nat → Nat} (hW : Wd h) (hR : RB h n g F S T) {x : Int32} : am_D 10 m_X12_changes [.ref 50, .int x] h (fun v h2 => chP n g F (lS n S) x v ∧ Fx [63, 66, 67] [(50, 33)] h h2 ∧ RB h2 n g F S T) := by
  have h7 := hR.2.2.1
  have hp := hR.pm
  have hl0 : PL n (lS n S) := lS_PL hp
  by_cases h0 : n = 0
  · refine Eq_aln dX12_changes_0 rfl ?_
    refine Eq_getI dX12_changes_1 fl_X12_252 (ws_50 hW) rfl hR.1 ?_
    refine Et_if_eq 16 dX12_changes_4 rfl (by rw [h0]; rfl) ?_
    refine Eq_ic (v := -1) dX12_changes_16 rfl ?_
    refine Eq_ir dX12_changes_17 rfl ?_
    exact ⟨⟨none, fun z => absurd h0 z, by unfold chV; rw [if_pos h0]⟩, Fx.rf, hR⟩
  · have hn0 : ¬ nI n = 0 := fun z => h0 ((n_0 (by omega)).mp z)
    cases hr : rg x 2 with
    | none =>
      refine Eq_aln dX12_changes_0 rfl ?_
      refine Eq_getI dX12_changes_1 fl_X12_252 (ws_50 hW) rfl hR.1 ?_
      refine Ef_if_eq dX12_changes_4 (tgt := 16) rfl (by exact hn0) ?_
      refine Eq_iln dX12_changes_7 rfl ?_
      refine Eq_ic (v := nI 0) dX12_changes_8 rfl ?_
      refine Eq_ic (v := nI 1) dX12_changes_9 rfl ?_
      refine Eq_S3 (N := m_X12_in) dX12_changes_10 lk_X12_215 mS_X12_in ((by have z := r_inr (h := h) (x := x) (k := 1) (by omega); exact z)) (by decide) (Nat.le_of_ble_eq_true rfl) (Nat.le_of_ble_eq_true rfl) ?_
      refine Ef_if_ne dX12_changes_13 (tgt := 18) rfl (by rw [isr_n hr]; rfl) ?_
      refine Eq_ic (v := -1) dX12_changes_16 rfl ?_
      refine Eq_ir dX12_changes_17 rfl ?_
      exact ⟨⟨none, fun _ z => absurd hr z, by unfold chV; rw [hr, if_neg h0]⟩, Fx.rf, hR⟩
    | some y =>
      obtain ⟨e1, hy⟩ := rg_some (by omega) hr
      subst e1
      obtain ⟨i0, hi0, hil⟩ := L_ix hl0
      have hdd : dg S n = dgl n (L_ n i0) := by
        rw [hil]
        exact dgl_lS.symm
      refine Eq_aln dX12_changes_0 rfl ?_
      refine Eq_getI dX12_changes_1 fl_X12_252 (ws_50 hW) rfl hR.1 ?_
      refine Ef_if_eq dX12_changes_4 (tgt := 16) rfl (by exact hn0) ?_
      refine Eq_iln dX12_changes_7 rfl ?_
      refine Eq_ic (v := nI 0) dX12_changes_8 rfl ?_
      refine Eq_ic (v := nI 1) dX12_changes_9 rfl ?_
      refine Eq_S3 (N := m_X12_in) dX12_changes_10 lk_X12_215 mS_X12_in ((by have z := r_inr (h := h) (x := nI y) (k := 1) (by omega); exact z)) (by decide) (Nat.le_of_ble_eq_true rfl) (Nat.le_of_ble_eq_true rfl) ?_
      refine Et_if_ne 18 dX12_changes_13 rfl (by rw [isr_s hr]; exact zf1) ?_
      refine Eq_aln dX12_changes_18 rfl ?_
      refine Eq_V0 (N := m_X12_digits) dX12_changes_19 lk_X12_368 mV_X12_digits (r_digits hW hR) (by decide) (ws_50 hW) rfl (by decide) (Nat.le_of_ble_eq_true rfl) (Nat.le_of_ble_eq_true rfl) ?_
      refine Eq_isn dX12_changes_22 (by decide) ?_
      refine Eam_nl (pc' := 23) (l' := [_, _, _, _, _, _, _]) rfl rfl ?_
      refine Eq_aln dX12_changes_23 rfl ?_
      refine Eq_W0 (N := m_X12_laySeatings) dX12_changes_24 lk_X12_371 mV_X12_laySeatings (r_laySeatings hW h7 hR.1) (by decide) (ws_50 hW) rfl (by decide) (Nat.le_of_ble_eq_true rfl) (Nat.le_of_ble_eq_true rfl) (fun vq hq1 hq2 => ?_)
      obtain ⟨rfl, hf2, hQ2⟩ := hq2
      have hW2 := hf2.Wd hW
      refine Eq_ic (v := nI 0) dX12_changes_27 rfl ?_
      refine Eq_isn dX12_changes_28 (by decide) ?_
      refine Eam_nl (pc' := 29) (l' := [_, _, _, _, _, _, _]) rfl rfl ?_
      refine r_ch_set (h0 := hq1) (fun h3 hW3 hQ3 hf3 hv3 => ?_) (N_ n) 0 hq1 (by omega) hW2 hQ2 Fx.rf (fun i hi => by omega)
      have hN := hQ3.n
      have hA3 : AW (am_wI h3 67 i0 (nI 0)) n (upO (fun _ => none) i0 (some 0)) := by
        have z : AW h3 n (fun _ => none) := fun i hi => ⟨hv3 i hi, fun e he => nomatch he⟩
        exact z.put (by omega)
      have k4 : Fx [67] [] h3 (am_wI h3 67 i0 (nI 0)) := Fx.wI (Or.inl (by decide))
      have hfa : Fx [66, 67] [(50, 33)] h (am_wI h3 67 i0 (nI 0)) := (hf2.mono (by decide) (by decide)).tr ((hf3.mono (by decide) (by decide)).tr (k4.mono (by decide) (by decide)))
      have hnum := r_numberOf hW3 h7 hQ3 hi0
      rw [← hdd] at hnum
      have hw0 : WAY n g (lS n S) 0 (upO (fun _ => none) i0 (some 0)) := fun i hi => by
        unfold upO
        by_cases e : i = i0
        · rw [if_pos e]
          refine ⟨fun e2 he => ⟨fun _ => ⟨0, by omega, rfl⟩, fun _ => ?_⟩, fun e2 he => by cases he; omega⟩
          have : e2 = 0 := by omega
          rw [this, e]
          exact hil
        · rw [if_neg e]
          refine ⟨fun e2 he => ⟨fun z => ?_, fun ⟨_, _, z⟩ => nomatch z⟩, fun e2 he => nomatch he⟩
          have e3 : e2 = 0 := by omega
          rw [e3] at z
          exact absurd (L_inj h7 hi hi0 ((show L_ n i = lS n S from z).trans hil.symm)) e
      have hng : NGd n g F (lS n S) 0 := fun e he => by omega
      refine Eq_aln dX12_changes_50 rfl ?_
      refine Eq_getR dX12_changes_51 fl_X12_63 (ws_50 hW3) rfl (wp_50_32 hW3) ?_
      refine Eq_aln dX12_changes_54 rfl ?_
      refine Eq_iln dX12_changes_55 rfl ?_
      refine Eq_V1 (N := m_X12_numberOf) dX12_changes_56 lk_X12_377 mV_X12_numberOf (hnum) (by decide) (ws_50 hW3) rfl (by decide) (Nat.le_of_ble_eq_true rfl) (Nat.le_of_ble_eq_true rfl) ?_
      refine Eq_ic (v := nI 0) dX12_changes_59 rfl ?_
      refine Eq_ast dX12_changes_60 (ws_67 hW3) (by omega) (by omega) ?_
      refine Eq_ic (v := -1) dX12_changes_61 rfl ?_
      refine Eq_isn dX12_changes_62 (by decide) ?_
      refine Eam_nl (pc' := 63) (l' := [_, _, _, _, _, _, _]) rfl rfl ?_
      refine Eq_ic (v := nI 0) dX12_changes_63 rfl ?_
      refine Eq_is dX12_changes_64 (by decide) ?_
      refine Eam_nl (pc' := 66) (l' := [_, _, _, _, _, _, _]) rfl rfl ?_
      refine Eq_ic (v := nI 1) dX12_changes_66 rfl ?_
      refine Eq_is dX12_changes_67 (by decide) ?_
      refine Eam_nl (pc' := 69) (l' := [_, _, _, _, _, _, _]) rfl rfl ?_
      refine am_E.mono (r_ch_lp h7 hp hy (h0 := am_wI h3 67 i0 (nI 0)) (N_ n) 0 _ _ _ (ct_le _ _) (by omega) hw0 hng (hfa.Wd hW) ⟨S, T, hR.fx hfa (by decide)⟩ (hQ3.fx k4 (by decide)) hA3 Fx.rf) (fun v h2 z => ?_)
      obtain ⟨⟨o, ho, hv⟩, hf5, hR5⟩ := z
      refine ⟨⟨o, fun _ _ => ho, ?_⟩, (hfa.mono (by decide) (by decide)).tr (hf5.mono (by decide) (by decide)), hR5⟩
      rw [hv]
      unfold chV
      rw [hr, if_neg h0]
