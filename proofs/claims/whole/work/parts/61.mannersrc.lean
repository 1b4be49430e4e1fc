/-! the reference reads conditions -/
set_option maxHeartbeats 2000000 in
theorem r_goOnAnd_end {h : am_H} {d p : Nat} {P : Option Value → am_H → Prop} (hW : Wd h) (hw : am_i h 50 4 = nI p) (hp : p ≤ 1000) (hP : P none h) : am_E d m_X12_goOnAnd 0 [some (.ref 50)] [] h P := by
  refine Eq_aln dX12_goOnAnd_0 rfl ?_
  refine Eq_getI dX12_goOnAnd_1 fl_X12_117 (ws_50 hW) rfl hw ?_
  refine Eq_ic (v := -1) dX12_goOnAnd_4 rfl ?_
  refine Et_ic_ne 41 dX12_goOnAnd_5 rfl (by exact nI_m1 (by omega)) ?_
  refine Eq_vr dX12_goOnAnd_41 rfl ?_
  exact hP
set_option maxHeartbeats 2000000 in
theorem r_goOnAnd_bad {h : am_H} {p : Nat} (hW : Wd h) (hw : am_i h 50 4 = nI p) (hp : p ≤ 1000) : am_C 0 m_X12_goOnAnd [.ref 50] h (none, h) := by
  refine q_aln dX12_goOnAnd_0 rfl ?_
  refine q_getI dX12_goOnAnd_1 fl_X12_117 (ws_50 hW) rfl hw ?_
  refine q_ic (v := -1) dX12_goOnAnd_4 rfl ?_
  refine t_ic_ne 41 dX12_goOnAnd_5 rfl (by exact nI_m1 (by omega)) ?_
  refine q_vr dX12_goOnAnd_41 rfl ?_
  rfl
set_option maxHeartbeats 2000000 in
theorem r_goOnOr_end {h : am_H} {d p : Nat} {P : Option Value → am_H → Prop} (hW : Wd h) (hw : am_i h 50 4 = nI p) (hp : p ≤ 1000) (hP : P none h) : am_E d m_X12_goOnOr 0 [some (.ref 50)] [] h P := by
  refine Eq_aln dX12_goOnOr_0 rfl ?_
  refine Eq_getI dX12_goOnOr_1 fl_X12_117 (ws_50 hW) rfl hw ?_
  refine Eq_ic (v := -1) dX12_goOnOr_4 rfl ?_
  refine Et_ic_ne 45 dX12_goOnOr_5 rfl (by exact nI_m1 (by omega)) ?_
  refine Eq_vr dX12_goOnOr_45 rfl ?_
  exact hP
set_option maxHeartbeats 2000000 in
theorem r_goOnOr_bad {h : am_H} {p : Nat} (hW : Wd h) (hw : am_i h 50 4 = nI p) (hp : p ≤ 1000) : am_C 0 m_X12_goOnOr [.ref 50] h (none, h) := by
  refine q_aln dX12_goOnOr_0 rfl ?_
  refine q_getI dX12_goOnOr_1 fl_X12_117 (ws_50 hW) rfl hw ?_
  refine q_ic (v := -1) dX12_goOnOr_4 rfl ?_
  refine t_ic_ne 45 dX12_goOnOr_5 rfl (by exact nI_m1 (by omega)) ?_
  refine q_vr dX12_goOnOr_45 rfl ?_
  rfl
set_option maxHeartbeats 2000000 in
theorem r_goOnAnd_lp {tl : Nat} {tp : Nat → Nat} {n d e L a : Nat} {u : Nat → Rd} (hs : RSC tl tp n m_X12_unit d e L u) (hp : Prs tl u) (hdd : 2 ≤ d) {l : Tks} (hla : l.length ≤ a) (htl : tl ≤ 160) : ∀ k b ts h, tl < b + k → b ≤ tl → Wd h → RA h tl tp b → CW h n (l ++ ts) → a + ts.length ≤ b → am_i h 50 4 = -1 → am_i h 50 5 = nI e → am_E (d + 1) m_X12_goOnAnd 0 [some (.ref 50)] [] h (RP tl tp n (chn tl tp opA u k b ts) a L l h) := by
  intro k
  induction k with
  | zero => intro b ts h hk hb; omega
  | succ k ih =>
    intro b ts h hk hb hW hA hC hl hw hd
    have h2 := rsgn256 hA (nx tl tp b)
    have hx1 := nx_ge (tl := tl) (tp := tp) (a := b)
    have hx2 := nx_le (tp := tp) hb
    by_cases ec : sgn tl tp (nx tl tp b) = some 38
    · have hlt := (sgn_lt ec).1
      have ho : opA (sgn tl tp (nx tl tp b)) = some 10 := by rw [ec]; rfl
      rw [chn_s ho]
      have hpi := hp (nx tl tp b + 1) (by omega)
      have hll : (l ++ ts).length ≤ nx tl tp b + 1 := by simp only [List.length_append]; omega
      cases hq : (u (nx tl tp b + 1)).2 with
      | none =>
        rw [bd_n hq]
        refine Eq_aln dX12_goOnAnd_0 rfl ?_
        refine Eq_getI dX12_goOnAnd_1 fl_X12_117 (ws_50 hW) rfl (by first | exact hw | exact hA1.2.1) ?_
        refine Eq_ic (v := -1) dX12_goOnAnd_4 rfl ?_
        refine Ef_ic_ne dX12_goOnAnd_5 (tgt := 41) rfl (by rfl) ?_
        refine Eq_aln dX12_goOnAnd_8 rfl ?_
        refine Eq_W0 (N := m_X12_look) dX12_goOnAnd_9 lk_X12_129 mV_X12_look (r_look hW hA) (by omega) (ws_50 hW) rfl (by decide) (Nat.le_of_ble_eq_true rfl) (Nat.le_of_ble_eq_true rfl) (fun vq hq1 hq2 => ?_)
        obtain ⟨rfl, hf1, hA1⟩ := hq2
        have hW1 := hf1.Wd hW
        have hw1 : am_i hq1 50 4 = -1 := (hf1.i (by decide) (by decide)).trans hw
        have hd1 : am_i hq1 50 5 = nI e := (hf1.i (by decide) (by decide)).trans hd
        have hC1 := hC.fx hf1 (by decide)
        have ks : Fx [] [(50, 3)] hq1 (am_wI hq1 50 3 (nI (nx tl tp b + 1))) := Fx.wI (Or.inr (by decide))
        have hWs := ks.Wd hW1
        have hAs := hA1.mv (b := nx tl tp b + 1) (by omega)
        have hCs := hC1.fx ks (by decide)
        have hns : NF n h (am_wI hq1 50 3 (nI (nx tl tp b + 1))) := (NF.of3 hf1).tr (NF.of3 ks)
        refine Eq_bp (v := nI 38) dX12_goOnAnd_12 rfl ?_
        refine Ef_ic_ne dX12_goOnAnd_14 (tgt := 41) rfl (by rw [ec]; rfl) ?_
        refine Eq_aln dX12_goOnAnd_17 rfl ?_
        refine Eam_x_pu dX12_goOnAnd_18 rfl ?_
        refine Eq_getI dX12_goOnAnd_19 fl_X12_110 (ws_50 hW1) rfl (by first | exact hw | exact hA1.2.1) ?_
        refine Eq_ic (v := nI 1) dX12_goOnAnd_22 rfl ?_
        first | refine Eq_add dX12_goOnAnd_23 ?_ | refine Eam_x_pu dX12_goOnAnd_23 rfl ?_
        refine Eam_x_putI dX12_goOnAnd_24 (fw_X12_110 rfl) (ws_50 hW1) (Or.inl rfl) ?_
        refine Eq_aln dX12_goOnAnd_27 rfl ?_
        refine Eq_W0 (N := m_X12_unit) dX12_goOnAnd_28 lk_X12_166 mV_X12_unit (hs _ _ _ hWs hAs (by omega) hCs hll hw1 hd1) (by omega) (ws_50 hW1) rfl (by decide) (Nat.le_of_ble_eq_true rfl) (Nat.le_of_ble_eq_true rfl) (fun vq hq1 hq2 => ?_)
        obtain ⟨rfl, hn2, hw2, b2, c, hA2, hb2, hc2, hc3⟩ := hq2.n hq
        have hW2 := hn2.1.Wd hWs
        have hcl : c < 340 := (by simp only [List.length_append] at hc3; omega)
        refine Eq_aln dX12_goOnAnd_31 rfl ?_
        refine Eq_bp (v := nI 10) dX12_goOnAnd_32 rfl ?_
        refine Eq_ic (v := nI 0) dX12_goOnAnd_34 rfl ?_
        refine Eq_V2 (N := m_X12_put) dX12_goOnAnd_35 lk_X12_139 mV_X12_put (r_put hW2 (hn2.t.trans hCs.1) hCs.2.1 hc2 hcl) (by omega) (ws_50 hW2) rfl (by decide) (Nat.le_of_ble_eq_true rfl) (Nat.le_of_ble_eq_true rfl) ?_
        refine Eam_x_goto (tgt := 0) dX12_goOnAnd_38 rfl ?_
        refine r_goOnAnd_end (p := (u (nx tl tp b + 1)).1) (fxPw.Wd hW2) hw2 (by omega) ⟨rfl, hns.tr (hn2.tr (NF.pw hcl)), hw2, ⟨_, hA2.fx fxPw (by decide), hb2⟩, c + 1, pw54, ?_⟩
        simp only [List.length_append] at hc3
        dsimp only
        omega
      | some us =>
        rw [bd_s hq]
        have hul := hpi.2.2 us hq
        refine Eq_aln dX12_goOnAnd_0 rfl ?_
        refine Eq_getI dX12_goOnAnd_1 fl_X12_117 (ws_50 hW) rfl (by first | exact hw | exact hA1.2.1) ?_
        refine Eq_ic (v := -1) dX12_goOnAnd_4 rfl ?_
        refine Ef_ic_ne dX12_goOnAnd_5 (tgt := 41) rfl (by rfl) ?_
        refine Eq_aln dX12_goOnAnd_8 rfl ?_
        refine Eq_W0 (N := m_X12_look) dX12_goOnAnd_9 lk_X12_129 mV_X12_look (r_look hW hA) (by omega) (ws_50 hW) rfl (by decide) (Nat.le_of_ble_eq_true rfl) (Nat.le_of_ble_eq_true rfl) (fun vq hq1 hq2 => ?_)
        obtain ⟨rfl, hf1, hA1⟩ := hq2
        have hW1 := hf1.Wd hW
        have hw1 : am_i hq1 50 4 = -1 := (hf1.i (by decide) (by decide)).trans hw
        have hd1 : am_i hq1 50 5 = nI e := (hf1.i (by decide) (by decide)).trans hd
        have hC1 := hC.fx hf1 (by decide)
        have ks : Fx [] [(50, 3)] hq1 (am_wI hq1 50 3 (nI (nx tl tp b + 1))) := Fx.wI (Or.inr (by decide))
        have hWs := ks.Wd hW1
        have hAs := hA1.mv (b := nx tl tp b + 1) (by omega)
        have hCs := hC1.fx ks (by decide)
        have hns : NF n h (am_wI hq1 50 3 (nI (nx tl tp b + 1))) := (NF.of3 hf1).tr (NF.of3 ks)
        refine Eq_bp (v := nI 38) dX12_goOnAnd_12 rfl ?_
        refine Ef_ic_ne dX12_goOnAnd_14 (tgt := 41) rfl (by rw [ec]; rfl) ?_
        refine Eq_aln dX12_goOnAnd_17 rfl ?_
        refine Eam_x_pu dX12_goOnAnd_18 rfl ?_
        refine Eq_getI dX12_goOnAnd_19 fl_X12_110 (ws_50 hW1) rfl (by first | exact hw | exact hA1.2.1) ?_
        refine Eq_ic (v := nI 1) dX12_goOnAnd_22 rfl ?_
        first | refine Eq_add dX12_goOnAnd_23 ?_ | refine Eam_x_pu dX12_goOnAnd_23 rfl ?_
        refine Eam_x_putI dX12_goOnAnd_24 (fw_X12_110 rfl) (ws_50 hW1) (Or.inl rfl) ?_
        refine Eq_aln dX12_goOnAnd_27 rfl ?_
        refine Eq_W0 (N := m_X12_unit) dX12_goOnAnd_28 lk_X12_166 mV_X12_unit (hs _ _ _ hWs hAs (by omega) hCs hll hw1 hd1) (by omega) (ws_50 hW1) rfl (by decide) (Nat.le_of_ble_eq_true rfl) (Nat.le_of_ble_eq_true rfl) (fun vq hq1 hq2 => ?_)
        obtain ⟨rfl, hn2, hw2, hA2, hC2, hd2⟩ := hq2.s hq
        have hW2 := hn2.1.Wd hWs
        have hcl : (l ++ ts ++ us).length < 160 := (by simp only [List.length_append]; omega)
        have hC3 := hC2.put hcl (10, 0)
        refine Eq_aln dX12_goOnAnd_31 rfl ?_
        refine Eq_bp (v := nI 10) dX12_goOnAnd_32 rfl ?_
        refine Eq_ic (v := nI 0) dX12_goOnAnd_34 rfl ?_
        refine Eq_V2 (N := m_X12_put) dX12_goOnAnd_35 lk_X12_139 mV_X12_put (r_put hW2 hC2.1 hC2.2.1 hC2.2.2.1 (by omega)) (by omega) (ws_50 hW2) rfl (by decide) (Nat.le_of_ble_eq_true rfl) (Nat.le_of_ble_eq_true rfl) ?_
        refine Eam_x_goto (tgt := 0) dX12_goOnAnd_38 rfl ?_
        obtain ⟨v5, h5, z1, z2⟩ := ih (u (nx tl tp b + 1)).1 (ts ++ us ++ [(10, 0)]) _ (by omega) hpi.2.1 (fxPw.Wd hW2) (hA2.fx fxPw (by decide)) (by rw [← List.append_assoc, ← List.append_assoc]; exact hC3) (by simp only [List.length_append, List.length_cons, List.length_nil]; omega) hw2 (hd2.trans hd1)
        exact ⟨v5, h5, z1, z2.tr (hns.tr (hn2.tr (NF.pw (by omega)))) ((hd2.trans hd1).trans hd.symm)⟩
    · have ho : opA (sgn tl tp (nx tl tp b)) = none := by unfold opA; rw [if_neg ec]
      rw [chn_n ho]
      refine Eq_aln dX12_goOnAnd_0 rfl ?_
      refine Eq_getI dX12_goOnAnd_1 fl_X12_117 (ws_50 hW) rfl (by first | exact hw | exact hA1.2.1) ?_
      refine Eq_ic (v := -1) dX12_goOnAnd_4 rfl ?_
      refine Ef_ic_ne dX12_goOnAnd_5 (tgt := 41) rfl (by rfl) ?_
      refine Eq_aln dX12_goOnAnd_8 rfl ?_
      refine Eq_W0 (N := m_X12_look) dX12_goOnAnd_9 lk_X12_129 mV_X12_look (r_look hW hA) (by omega) (ws_50 hW) rfl (by decide) (Nat.le_of_ble_eq_true rfl) (Nat.le_of_ble_eq_true rfl) (fun vq hq1 hq2 => ?_)
      obtain ⟨rfl, hf1, hA1⟩ := hq2
      have hW1 := hf1.Wd hW
      have hw1 : am_i hq1 50 4 = -1 := (hf1.i (by decide) (by decide)).trans hw
      have hd1 : am_i hq1 50 5 = nI e := (hf1.i (by decide) (by decide)).trans hd
      have hC1 := hC.fx hf1 (by decide)
      refine Eq_bp (v := nI 38) dX12_goOnAnd_12 rfl ?_
      refine Et_ic_ne 41 dX12_goOnAnd_14 rfl (by exact fun z => ec ((oNlt (fun k hk => by have := h2 k hk; omega) 38 (by omega)).mp z)) ?_
      refine Eq_vr dX12_goOnAnd_41 rfl ?_
      exact ⟨rfl, NF.of3 hf1, hw1, hA1, hC1, hd1.trans hd.symm⟩
set_option maxHeartbeats 2000000 in
theorem r_goOnAnd {tl : Nat} {tp : Nat → Nat} {n d e L a : Nat} {u : Nat → Rd} (hs : RSC tl tp n m_X12_unit d e L u) (hp : Prs tl u) (hdd : 2 ≤ d) {l : Tks} (hla : l.length ≤ a) (htl : tl ≤ 160) {b : Nat} {ts : Tks} {h : am_H} (hb : b ≤ tl) (hW : Wd h) (hA : RA h tl tp b) (hC : CW h n (l ++ ts)) (hl : a + ts.length ≤ b) (hw : am_i h 50 4 = -1) (hd : am_i h 50 5 = nI e) : am_D (d + 1) m_X12_goOnAnd [.ref 50] h (RP tl tp n (chn tl tp opA u 161 b ts) a L l h) := by
  exact r_goOnAnd_lp hs hp hdd hla htl 161 b ts h (by omega) hb hW hA hC hl hw hd
set_option maxHeartbeats 2000000 in
theorem r_goOnOr_lp {tl : Nat} {tp : Nat → Nat} {n d e L a : Nat} {u : Nat → Rd} (hs : RSC tl tp n m_X12_unit d e L u) (hp : Prs tl u) (hdd : 2 ≤ d) {l : Tks} (hla : l.length ≤ a) (htl : tl ≤ 160) : ∀ k b ts h, tl < b + k → b ≤ tl → Wd h → RA h tl tp b → CW h n (l ++ ts) → a + ts.length ≤ b → am_i h 50 4 = -1 → am_i h 50 5 = nI e → am_E (d + 2) m_X12_goOnOr 0 [some (.ref 50)] [] h (RP tl tp n (chn tl tp opO (chs tl tp opA u) k b ts) a L l h) := by
  intro k
  induction k with
  | zero => intro b ts h hk hb; omega
  | succ k ih =>
    intro b ts h hk hb hW hA hC hl hw hd
    have h2 := rsgn256 hA (nx tl tp b)
    have hx1 := nx_ge (tl := tl) (tp := tp) (a := b)
    have hx2 := nx_le (tp := tp) hb
    by_cases ec : sgn tl tp (nx tl tp b) = some 124
    · have hlt := (sgn_lt ec).1
      have ho : opO (sgn tl tp (nx tl tp b)) = some 11 := by rw [ec]; rfl
      rw [chn_s ho]
      have hpi := hp (nx tl tp b + 1) (by omega)
      have hll : (l ++ ts).length ≤ nx tl tp b + 1 := by simp only [List.length_append]; omega
      cases hq : (u (nx tl tp b + 1)).2 with
      | none =>
        have hq9 : (chs tl tp opA u (nx tl tp b + 1)) = ((u (nx tl tp b + 1)).1, none) := bd_n hq
        rw [hq9, bd_n rfl]
        refine Eq_aln dX12_goOnOr_0 rfl ?_
        refine Eq_getI dX12_goOnOr_1 fl_X12_117 (ws_50 hW) rfl (by first | exact hw | exact hA1.2.1) ?_
        refine Eq_ic (v := -1) dX12_goOnOr_4 rfl ?_
        refine Ef_ic_ne dX12_goOnOr_5 (tgt := 45) rfl (by rfl) ?_
        refine Eq_aln dX12_goOnOr_8 rfl ?_
        refine Eq_W0 (N := m_X12_look) dX12_goOnOr_9 lk_X12_129 mV_X12_look (r_look hW hA) (by omega) (ws_50 hW) rfl (by decide) (Nat.le_of_ble_eq_true rfl) (Nat.le_of_ble_eq_true rfl) (fun vq hq1 hq2 => ?_)
        obtain ⟨rfl, hf1, hA1⟩ := hq2
        have hW1 := hf1.Wd hW
        have hw1 : am_i hq1 50 4 = -1 := (hf1.i (by decide) (by decide)).trans hw
        have hd1 : am_i hq1 50 5 = nI e := (hf1.i (by decide) (by decide)).trans hd
        have hC1 := hC.fx hf1 (by decide)
        have ks : Fx [] [(50, 3)] hq1 (am_wI hq1 50 3 (nI (nx tl tp b + 1))) := Fx.wI (Or.inr (by decide))
        have hWs := ks.Wd hW1
        have hAs := hA1.mv (b := nx tl tp b + 1) (by omega)
        have hCs := hC1.fx ks (by decide)
        have hns : NF n h (am_wI hq1 50 3 (nI (nx tl tp b + 1))) := (NF.of3 hf1).tr (NF.of3 ks)
        refine Eq_bp (v := nI 124) dX12_goOnOr_12 rfl ?_
        refine Ef_ic_ne dX12_goOnOr_14 (tgt := 45) rfl (by rw [ec]; rfl) ?_
        refine Eq_aln dX12_goOnOr_17 rfl ?_
        refine Eam_x_pu dX12_goOnOr_18 rfl ?_
        refine Eq_getI dX12_goOnOr_19 fl_X12_110 (ws_50 hW1) rfl (by first | exact hw | exact hA1.2.1) ?_
        refine Eq_ic (v := nI 1) dX12_goOnOr_22 rfl ?_
        first | refine Eq_add dX12_goOnOr_23 ?_ | refine Eam_x_pu dX12_goOnOr_23 rfl ?_
        refine Eam_x_putI dX12_goOnOr_24 (fw_X12_110 rfl) (ws_50 hW1) (Or.inl rfl) ?_
        refine Eq_aln dX12_goOnOr_27 rfl ?_
        refine Eq_W0 (N := m_X12_unit) dX12_goOnOr_28 lk_X12_166 mV_X12_unit (hs _ _ _ hWs hAs (by omega) hCs hll hw1 hd1) (by omega) (ws_50 hW1) rfl (by decide) (Nat.le_of_ble_eq_true rfl) (Nat.le_of_ble_eq_true rfl) (fun vq hq1 hq2 => ?_)
        obtain ⟨rfl, hn2, hw2, b2, c, hA2, hb2, hc2, hc3⟩ := hq2.n hq
        have hW2 := hn2.1.Wd hWs
        have hcl : c < 340 := (by simp only [List.length_append] at hc3; omega)
        refine Eq_aln dX12_goOnOr_31 rfl ?_
        refine Eq_V0 (N := m_X12_goOnAnd) dX12_goOnOr_32 lk_X12_175 mV_X12_goOnAnd (r_goOnAnd_bad hW2 hw2 (by omega)) (by omega) (ws_50 hW2) rfl (by decide) (Nat.le_of_ble_eq_true rfl) (Nat.le_of_ble_eq_true rfl) ?_
        refine Eq_aln dX12_goOnOr_35 rfl ?_
        refine Eq_bp (v := nI 11) dX12_goOnOr_36 rfl ?_
        refine Eq_ic (v := nI 0) dX12_goOnOr_38 rfl ?_
        refine Eq_V2 (N := m_X12_put) dX12_goOnOr_39 lk_X12_139 mV_X12_put (r_put hW2 (hn2.t.trans hCs.1) hCs.2.1 hc2 hcl) (by omega) (ws_50 hW2) rfl (by decide) (Nat.le_of_ble_eq_true rfl) (Nat.le_of_ble_eq_true rfl) ?_
        refine Eam_x_goto (tgt := 0) dX12_goOnOr_42 rfl ?_
        refine r_goOnOr_end (p := (u (nx tl tp b + 1)).1) (fxPw.Wd hW2) hw2 (by omega) ⟨rfl, hns.tr (hn2.tr (NF.pw hcl)), hw2, ⟨_, hA2.fx fxPw (by decide), hb2⟩, c + 1, pw54, ?_⟩
        simp only [List.length_append] at hc3
        dsimp only
        omega
      | some vs =>
        have hul := hpi.2.2 vs hq
        have hch := chn_pr (tp := tp) opA_0 hp 161 (u (nx tl tp b + 1)).1 vs (nx tl tp b + 1) hpi.2.1 hul.1 hul.2
        have hq9 : (chs tl tp opA u (nx tl tp b + 1)) = chn tl tp opA u 161 (u (nx tl tp b + 1)).1 vs := bd_s hq
        rw [hq9]
        cases hr : (chn tl tp opA u 161 (u (nx tl tp b + 1)).1 vs).2 with
        | none =>
          rw [bd_n hr]
          refine Eq_aln dX12_goOnOr_0 rfl ?_
          refine Eq_getI dX12_goOnOr_1 fl_X12_117 (ws_50 hW) rfl (by first | exact hw | exact hA1.2.1) ?_
          refine Eq_ic (v := -1) dX12_goOnOr_4 rfl ?_
          refine Ef_ic_ne dX12_goOnOr_5 (tgt := 45) rfl (by rfl) ?_
          refine Eq_aln dX12_goOnOr_8 rfl ?_
          refine Eq_W0 (N := m_X12_look) dX12_goOnOr_9 lk_X12_129 mV_X12_look (r_look hW hA) (by omega) (ws_50 hW) rfl (by decide) (Nat.le_of_ble_eq_true rfl) (Nat.le_of_ble_eq_true rfl) (fun vq hq1 hq2 => ?_)
          obtain ⟨rfl, hf1, hA1⟩ := hq2
          have hW1 := hf1.Wd hW
          have hw1 : am_i hq1 50 4 = -1 := (hf1.i (by decide) (by decide)).trans hw
          have hd1 : am_i hq1 50 5 = nI e := (hf1.i (by decide) (by decide)).trans hd
          have hC1 := hC.fx hf1 (by decide)
          have ks : Fx [] [(50, 3)] hq1 (am_wI hq1 50 3 (nI (nx tl tp b + 1))) := Fx.wI (Or.inr (by decide))
          have hWs := ks.Wd hW1
          have hAs := hA1.mv (b := nx tl tp b + 1) (by omega)
          have hCs := hC1.fx ks (by decide)
          have hns : NF n h (am_wI hq1 50 3 (nI (nx tl tp b + 1))) := (NF.of3 hf1).tr (NF.of3 ks)
          refine Eq_bp (v := nI 124) dX12_goOnOr_12 rfl ?_
          refine Ef_ic_ne dX12_goOnOr_14 (tgt := 45) rfl (by rw [ec]; rfl) ?_
          refine Eq_aln dX12_goOnOr_17 rfl ?_
          refine Eam_x_pu dX12_goOnOr_18 rfl ?_
          refine Eq_getI dX12_goOnOr_19 fl_X12_110 (ws_50 hW1) rfl (by first | exact hw | exact hA1.2.1) ?_
          refine Eq_ic (v := nI 1) dX12_goOnOr_22 rfl ?_
          first | refine Eq_add dX12_goOnOr_23 ?_ | refine Eam_x_pu dX12_goOnOr_23 rfl ?_
          refine Eam_x_putI dX12_goOnOr_24 (fw_X12_110 rfl) (ws_50 hW1) (Or.inl rfl) ?_
          refine Eq_aln dX12_goOnOr_27 rfl ?_
          refine Eq_W0 (N := m_X12_unit) dX12_goOnOr_28 lk_X12_166 mV_X12_unit (hs _ _ _ hWs hAs (by omega) hCs hll hw1 hd1) (by omega) (ws_50 hW1) rfl (by decide) (Nat.le_of_ble_eq_true rfl) (Nat.le_of_ble_eq_true rfl) (fun vq hq1 hq2 => ?_)
          obtain ⟨rfl, hn2, hw2, hA2, hC2, hd2⟩ := hq2.s hq
          have hW2 := hn2.1.Wd hWs
          refine Eq_aln dX12_goOnOr_31 rfl ?_
          refine Eq_W0 (N := m_X12_goOnAnd) dX12_goOnOr_32 lk_X12_175 mV_X12_goOnAnd (r_goOnAnd hs hp hdd (a := nx tl tp b + 1) hll htl hpi.2.1 hW2 hA2 hC2 hul.1 hw2 (hd2.trans hd1)) (by omega) (ws_50 hW2) rfl (by decide) (Nat.le_of_ble_eq_true rfl) (Nat.le_of_ble_eq_true rfl) (fun vq hq1 hq2 => ?_)
          obtain ⟨rfl, hn3, hw3, b3, c, hA3, hb3, hc2, hc3⟩ := hq2.n hr
          have hW3 := hn3.1.Wd hW2
          have hcl : c < 340 := (by simp only [List.length_append] at hc3; omega)
          refine Eq_aln dX12_goOnOr_35 rfl ?_
          refine Eq_bp (v := nI 11) dX12_goOnOr_36 rfl ?_
          refine Eq_ic (v := nI 0) dX12_goOnOr_38 rfl ?_
          refine Eq_V2 (N := m_X12_put) dX12_goOnOr_39 lk_X12_139 mV_X12_put (r_put hW3 (hn3.t.trans hC2.1) hC2.2.1 hc2 hcl) (by omega) (ws_50 hW3) rfl (by decide) (Nat.le_of_ble_eq_true rfl) (Nat.le_of_ble_eq_true rfl) ?_
          refine Eam_x_goto (tgt := 0) dX12_goOnOr_42 rfl ?_
          refine r_goOnOr_end (p := (chn tl tp opA u 161 (u (nx tl tp b + 1)).1 vs).1) (fxPw.Wd hW3) hw3 (by omega) ⟨rfl, hns.tr (hn2.tr (hn3.tr (NF.pw hcl))), hw3, ⟨_, hA3.fx fxPw (by decide), hb3⟩, c + 1, pw54, ?_⟩
          simp only [List.length_append] at hc3
          dsimp only
          omega
        | some us =>
          rw [bd_s hr]
          have hus := hch.2.2 us hr
          refine Eq_aln dX12_goOnOr_0 rfl ?_
          refine Eq_getI dX12_goOnOr_1 fl_X12_117 (ws_50 hW) rfl (by first | exact hw | exact hA1.2.1) ?_
          refine Eq_ic (v := -1) dX12_goOnOr_4 rfl ?_
          refine Ef_ic_ne dX12_goOnOr_5 (tgt := 45) rfl (by rfl) ?_
          refine Eq_aln dX12_goOnOr_8 rfl ?_
          refine Eq_W0 (N := m_X12_look) dX12_goOnOr_9 lk_X12_129 mV_X12_look (r_look hW hA) (by omega) (ws_50 hW) rfl (by decide) (Nat.le_of_ble_eq_true rfl) (Nat.le_of_ble_eq_true rfl) (fun vq hq1 hq2 => ?_)
          obtain ⟨rfl, hf1, hA1⟩ := hq2
          have hW1 := hf1.Wd hW
          have hw1 : am_i hq1 50 4 = -1 := (hf1.i (by decide) (by decide)).trans hw
          have hd1 : am_i hq1 50 5 = nI e := (hf1.i (by decide) (by decide)).trans hd
          have hC1 := hC.fx hf1 (by decide)
          have ks : Fx [] [(50, 3)] hq1 (am_wI hq1 50 3 (nI (nx tl tp b + 1))) := Fx.wI (Or.inr (by decide))
          have hWs := ks.Wd hW1
          have hAs := hA1.mv (b := nx tl tp b + 1) (by omega)
          have hCs := hC1.fx ks (by decide)
          have hns : NF n h (am_wI hq1 50 3 (nI (nx tl tp b + 1))) := (NF.of3 hf1).tr (NF.of3 ks)
          refine Eq_bp (v := nI 124) dX12_goOnOr_12 rfl ?_
          refine Ef_ic_ne dX12_goOnOr_14 (tgt := 45) rfl (by rw [ec]; rfl) ?_
          refine Eq_aln dX12_goOnOr_17 rfl ?_
          refine Eam_x_pu dX12_goOnOr_18 rfl ?_
          refine Eq_getI dX12_goOnOr_19 fl_X12_110 (ws_50 hW1) rfl (by first | exact hw | exact hA1.2.1) ?_
          refine Eq_ic (v := nI 1) dX12_goOnOr_22 rfl ?_
          first | refine Eq_add dX12_goOnOr_23 ?_ | refine Eam_x_pu dX12_goOnOr_23 rfl ?_
          refine Eam_x_putI dX12_goOnOr_24 (fw_X12_110 rfl) (ws_50 hW1) (Or.inl rfl) ?_
          refine Eq_aln dX12_goOnOr_27 rfl ?_
          refine Eq_W0 (N := m_X12_unit) dX12_goOnOr_28 lk_X12_166 mV_X12_unit (hs _ _ _ hWs hAs (by omega) hCs hll hw1 hd1) (by omega) (ws_50 hW1) rfl (by decide) (Nat.le_of_ble_eq_true rfl) (Nat.le_of_ble_eq_true rfl) (fun vq hq1 hq2 => ?_)
          obtain ⟨rfl, hn2, hw2, hA2, hC2, hd2⟩ := hq2.s hq
          have hW2 := hn2.1.Wd hWs
          refine Eq_aln dX12_goOnOr_31 rfl ?_
          refine Eq_W0 (N := m_X12_goOnAnd) dX12_goOnOr_32 lk_X12_175 mV_X12_goOnAnd (r_goOnAnd hs hp hdd (a := nx tl tp b + 1) hll htl hpi.2.1 hW2 hA2 hC2 hul.1 hw2 (hd2.trans hd1)) (by omega) (ws_50 hW2) rfl (by decide) (Nat.le_of_ble_eq_true rfl) (Nat.le_of_ble_eq_true rfl) (fun vq hq1 hq2 => ?_)
          obtain ⟨rfl, hn3, hw3, hA3, hC3, hd3⟩ := hq2.s hr
          have hW3 := hn3.1.Wd hW2
          have hcl : (l ++ ts ++ us).length < 160 := (by simp only [List.length_append]; omega)
          have hC4 := hC3.put hcl (11, 0)
          refine Eq_aln dX12_goOnOr_35 rfl ?_
          refine Eq_bp (v := nI 11) dX12_goOnOr_36 rfl ?_
          refine Eq_ic (v := nI 0) dX12_goOnOr_38 rfl ?_
          refine Eq_V2 (N := m_X12_put) dX12_goOnOr_39 lk_X12_139 mV_X12_put (r_put hW3 hC3.1 hC3.2.1 hC3.2.2.1 (by omega)) (by omega) (ws_50 hW3) rfl (by decide) (Nat.le_of_ble_eq_true rfl) (Nat.le_of_ble_eq_true rfl) ?_
          refine Eam_x_goto (tgt := 0) dX12_goOnOr_42 rfl ?_
          obtain ⟨v5, h5, z1, z2⟩ := ih (chn tl tp opA u 161 (u (nx tl tp b + 1)).1 vs).1 (ts ++ us ++ [(11, 0)]) _ (by omega) hch.2.1 (fxPw.Wd hW3) (hA3.fx fxPw (by decide)) (by rw [← List.append_assoc, ← List.append_assoc]; exact hC4) (by simp only [List.length_append, List.length_cons, List.length_nil]; omega) hw3 (hd3.trans (hd2.trans hd1))
          exact ⟨v5, h5, z1, z2.tr (hns.tr (hn2.tr (hn3.tr (NF.pw (by omega))))) ((hd3.trans (hd2.trans hd1)).trans hd.symm)⟩
    · have ho : opO (sgn tl tp (nx tl tp b)) = none := by unfold opO; rw [if_neg ec]
      rw [chn_n ho]
      refine Eq_aln dX12_goOnOr_0 rfl ?_
      refine Eq_getI dX12_goOnOr_1 fl_X12_117 (ws_50 hW) rfl (by first | exact hw | exact hA1.2.1) ?_
      refine Eq_ic (v := -1) dX12_goOnOr_4 rfl ?_
      refine Ef_ic_ne dX12_goOnOr_5 (tgt := 45) rfl (by rfl) ?_
      refine Eq_aln dX12_goOnOr_8 rfl ?_
      refine Eq_W0 (N := m_X12_look) dX12_goOnOr_9 lk_X12_129 mV_X12_look (r_look hW hA) (by omega) (ws_50 hW) rfl (by decide) (Nat.le_of_ble_eq_true rfl) (Nat.le_of_ble_eq_true rfl) (fun vq hq1 hq2 => ?_)
      obtain ⟨rfl, hf1, hA1⟩ := hq2
      have hW1 := hf1.Wd hW
      have hw1 : am_i hq1 50 4 = -1 := (hf1.i (by decide) (by decide)).trans hw
      have hd1 : am_i hq1 50 5 = nI e := (hf1.i (by decide) (by decide)).trans hd
      have hC1 := hC.fx hf1 (by decide)
      refine Eq_bp (v := nI 124) dX12_goOnOr_12 rfl ?_
      refine Et_ic_ne 45 dX12_goOnOr_14 rfl (by exact fun z => ec ((oNlt (fun k hk => by have := h2 k hk; omega) 124 (by omega)).mp z)) ?_
      refine Eq_vr dX12_goOnOr_45 rfl ?_
      exact ⟨rfl, NF.of3 hf1, hw1, hA1, hC1, hd1.trans hd.symm⟩
set_option maxHeartbeats 2000000 in
theorem r_goOnOr {tl : Nat} {tp : Nat → Nat} {n d e L a : Nat} {u : Nat → Rd} (hs : RSC tl tp n m_X12_unit d e L u) (hp : Prs tl u) (hdd : 2 ≤ d) {l : Tks} (hla : l.length ≤ a) (htl : tl ≤ 160) {b : Nat} {ts : Tks} {h : am_H} (hb : b ≤ tl) (hW : Wd h) (hA : RA h tl tp b) (hC : CW h n (l ++ ts)) (hl : a + ts.length ≤ b) (hw : am_i h 50 4 = -1) (hd : am_i h 50 5 = nI e) : am_D (d + 2) m_X12_goOnOr [.ref 50] h (RP tl tp n (chn tl tp opO (chs tl tp opA u) 161 b ts) a L l h) := by
  exact r_goOnOr_lp hs hp hdd hla htl 161 b ts h (by omega) hb hW hA hC hl hw hd
set_option maxHeartbeats 2000000 in
theorem r_condition {tl : Nat} {tp : Nat → Nat} {n d e L : Nat} {u : Nat → Rd} (hs : RSC tl tp n m_X12_unit d e L u) (hp : Prs tl u) (hdd : 2 ≤ d) : RSC tl tp n m_X12_condition (d + 3) e L (cndW tl tp u) := by
  intro h a l hW hA hal hC hl hw hd
  have htl := hA.1.2.1
  have hpi := hp a hal
  unfold cndW chs
  cases hq : (u a).2 with
  | none =>
    rw [bd_n hq, bd_n rfl]
    refine Eq_aln dX12_condition_0 rfl ?_
    refine Eq_W0 (N := m_X12_unit) dX12_condition_1 lk_X12_166 mV_X12_unit (hs _ _ _ hW hA hal hC hl hw hd) (by omega) (ws_50 hW) rfl (by decide) (Nat.le_of_ble_eq_true rfl) (Nat.le_of_ble_eq_true rfl) (fun vq hq1 hq2 => ?_)
    have hq3 := hq2.n hq
    obtain ⟨rfl, hn2, hw2, hr2⟩ := hq3
    have hW2 := hn2.1.Wd hW
    refine Eq_aln dX12_condition_4 rfl ?_
    refine Eq_V0 (N := m_X12_goOnAnd) dX12_condition_5 lk_X12_175 mV_X12_goOnAnd (r_goOnAnd_bad hW2 hw2 (by omega)) (by omega) (ws_50 hW2) rfl (by decide) (Nat.le_of_ble_eq_true rfl) (Nat.le_of_ble_eq_true rfl) ?_
    refine Eq_aln dX12_condition_8 rfl ?_
    refine Eq_V0 (N := m_X12_goOnOr) dX12_condition_9 lk_X12_178 mV_X12_goOnOr (r_goOnOr_bad hW2 hw2 (by omega)) (by omega) (ws_50 hW2) rfl (by decide) (Nat.le_of_ble_eq_true rfl) (Nat.le_of_ble_eq_true rfl) ?_
    refine Eq_vr dX12_condition_12 rfl ?_
    unfold RP at hq2 ⊢
    simp only [hq] at hq2 ⊢
    exact hq2
  | some vs =>
    rw [bd_s hq]
    have hul := hpi.2.2 vs hq
    have hch := chn_pr (tp := tp) opA_0 hp 161 (u a).1 vs a hpi.2.1 hul.1 hul.2
    cases hr : (chn tl tp opA u 161 (u a).1 vs).2 with
    | none =>
      rw [bd_n hr]
      refine Eq_aln dX12_condition_0 rfl ?_
      refine Eq_W0 (N := m_X12_unit) dX12_condition_1 lk_X12_166 mV_X12_unit (hs _ _ _ hW hA hal hC hl hw hd) (by omega) (ws_50 hW) rfl (by decide) (Nat.le_of_ble_eq_true rfl) (Nat.le_of_ble_eq_true rfl) (fun vq hq1 hq2 => ?_)
      obtain ⟨rfl, hn2, hw2, hA2, hC2, hd2⟩ := hq2.s hq
      have hW2 := hn2.1.Wd hW
      refine Eq_aln dX12_condition_4 rfl ?_
      refine Eq_W0 (N := m_X12_goOnAnd) dX12_condition_5 lk_X12_175 mV_X12_goOnAnd (r_goOnAnd hs hp hdd (a := a) hl htl hpi.2.1 hW2 hA2 hC2 hul.1 hw2 (hd2.trans hd)) (by omega) (ws_50 hW2) rfl (by decide) (Nat.le_of_ble_eq_true rfl) (Nat.le_of_ble_eq_true rfl) (fun vq hq1 hq2 => ?_)
      have hq4 := hq2.n hr
      obtain ⟨rfl, hn3, hw3, hr3⟩ := hq4
      have hW3 := hn3.1.Wd hW2
      refine Eq_aln dX12_condition_8 rfl ?_
      refine Eq_V0 (N := m_X12_goOnOr) dX12_condition_9 lk_X12_178 mV_X12_goOnOr (r_goOnOr_bad hW3 hw3 (by omega)) (by omega) (ws_50 hW3) rfl (by decide) (Nat.le_of_ble_eq_true rfl) (Nat.le_of_ble_eq_true rfl) ?_
      refine Eq_vr dX12_condition_12 rfl ?_
      have hq5 := hq2.tr hn2 hd2
      unfold RP at hq5 ⊢
      simp only [hr] at hq5 ⊢
      exact hq5
    | some us =>
      rw [bd_s hr]
      have hus := hch.2.2 us hr
      refine Eq_aln dX12_condition_0 rfl ?_
      refine Eq_W0 (N := m_X12_unit) dX12_condition_1 lk_X12_166 mV_X12_unit (hs _ _ _ hW hA hal hC hl hw hd) (by omega) (ws_50 hW) rfl (by decide) (Nat.le_of_ble_eq_true rfl) (Nat.le_of_ble_eq_true rfl) (fun vq hq1 hq2 => ?_)
      obtain ⟨rfl, hn2, hw2, hA2, hC2, hd2⟩ := hq2.s hq
      have hW2 := hn2.1.Wd hW
      refine Eq_aln dX12_condition_4 rfl ?_
      refine Eq_W0 (N := m_X12_goOnAnd) dX12_condition_5 lk_X12_175 mV_X12_goOnAnd (r_goOnAnd hs hp hdd (a := a) hl htl hpi.2.1 hW2 hA2 hC2 hul.1 hw2 (hd2.trans hd)) (by omega) (ws_50 hW2) rfl (by decide) (Nat.le_of_ble_eq_true rfl) (Nat.le_of_ble_eq_true rfl) (fun vq hq1 hq2 => ?_)
      obtain ⟨rfl, hn3, hw3, hA3, hC3, hd3⟩ := hq2.s hr
      have hW3 := hn3.1.Wd hW2
      refine Eq_aln dX12_condition_8 rfl ?_
      refine Eq_W0 (N := m_X12_goOnOr) dX12_condition_9 lk_X12_178 mV_X12_goOnOr (r_goOnOr hs hp hdd (a := a) hl htl hch.2.1 hW3 hA3 hC3 hus.1 hw3 (hd3.trans (hd2.trans hd))) (by omega) (ws_50 hW3) rfl (by decide) (Nat.le_of_ble_eq_true rfl) (Nat.le_of_ble_eq_true rfl) (fun vq hq1 hq2 => ?_)
      have hq5 := hq2.1
      subst hq5
      refine Eq_vr dX12_condition_12 rfl ?_
      exact hq2.tr (hn2.tr hn3) (hd3.trans hd2)
set_option maxHeartbeats 2000000 in
theorem r_unit {tl : Nat} {tp : Nat → Nat} {n L d du dc D : Nat} (hL6 : L ≤ 6) {sum iu ic : Nat → Rd} (hs : RSC tl tp n m_X12_sum d (6 - L) L sum) (hp : Prs tl sum) (hu : L ≠ 0 → RSC tl tp n m_X12_unit du (6 - L + 1) (L - 1) iu) (hpu : L ≠ 0 → Prs tl iu) (hc : L ≠ 0 → RSC tl tp n m_X12_condition dc (6 - L + 1) (L - 1) ic) (hpc : L ≠ 0 → Prs tl ic) (hdd : 2 ≤ d) (hD : d + 2 ≤ D) (hDu : du + 1 ≤ D) (hDc : dc + 1 ≤ D) : RSC tl tp n m_X12_unit D (6 - L) L (untW tl tp L sum iu ic) := by
  intro h a l hW hA hal hC hl hw hd
  have h2 := rsgn256 hA (nx tl tp a)
  have hx1 := nx_ge (tl := tl) (tp := tp) (a := a)
  have hx2 := nx_le (tp := tp) hal
  have htl := hA.1.2.1
  unfold untW
  by_cases e : sgn tl tp (nx tl tp a) = some 33
  · rw [if_pos e]
    have hlt := (sgn_lt e).1
    by_cases hL : L = 0
    · rw [if_pos hL]
      subst hL
      refine Eq_aln dX12_unit_0 rfl ?_
      refine Eq_W0 (N := m_X12_look) dX12_unit_1 lk_X12_129 mV_X12_look (r_look hW hA) (by omega) (ws_50 hW) rfl (by decide) (Nat.le_of_ble_eq_true rfl) (Nat.le_of_ble_eq_true rfl) (fun vq hq1 hq2 => ?_)
      obtain ⟨rfl, hf1, hA1⟩ := hq2
      have hW1 := hf1.Wd hW
      have hw1 : am_i hq1 50 4 = -1 := (hf1.i (by decide) (by decide)).trans hw
      have hd1 : am_i hq1 50 5 = nI (6) := (hf1.i (by decide) (by decide)).trans hd
      have hC1 := hC.fx hf1 (by decide)
      refine Eq_isn dX12_unit_4 (by decide) ?_
      refine Eam_nl (pc' := 5) (l' := [_, _]) rfl rfl ?_
      refine Eq_iln dX12_unit_5 rfl ?_
      refine Eq_bp (v := nI 33) dX12_unit_6 rfl ?_
      refine Ef_ic_ne dX12_unit_8 (tgt := 47) rfl (by rw [e]; rfl) ?_
      refine Eq_aln dX12_unit_11 rfl ?_
      refine Eq_V0 (N := m_X12_opens) dX12_unit_12 lk_X12_147 mV_X12_opens (r_opens6 hW1 hA1 hw1 hd1) (by omega) (ws_50 hW1) rfl (by decide) (Nat.le_of_ble_eq_true rfl) (Nat.le_of_ble_eq_true rfl) ?_
      refine Eq_aln dX12_unit_15 rfl ?_
      refine Eq_getI dX12_unit_16 fl_X12_117 (ws_50 hW1) rfl (by rw [wI_o (by decide), wI_o (by decide), wI_e0]) ?_
      refine Eq_ic (v := -1) dX12_unit_19 rfl ?_
      refine Et_ic_ne 94 dX12_unit_20 rfl (by exact nI_m1 (by omega)) ?_
      refine Eq_vr dX12_unit_94 rfl ?_
      exact ⟨rfl, (NF.of3 hf1).tr (NF.of4.tr (NF.of5.tr NF.w3)), by rw [wI_o (by decide), wI_o (by decide), wI_e0], ⟨_, ((hA1.fx (Fx.wI (A := []) (B := [(50, 4)]) (Or.inr (by decide))) (by decide)).fx (Fx.wI (A := []) (B := [(50, 5)]) (Or.inr (by decide))) (by decide)).mv (by omega), by omega⟩, l.length, hC1.2.2.1, by dsimp only; omega⟩
    · rw [if_neg hL]
      have hpi := hpu hL (nx tl tp a + 1) (by omega)
      cases hq : (iu (nx tl tp a + 1)).2 with
      | none =>
        rw [bd_n hq]
        have hx := hpi.2.1
        refine Eq_aln dX12_unit_0 rfl ?_
        refine Eq_W0 (N := m_X12_look) dX12_unit_1 lk_X12_129 mV_X12_look (r_look hW hA) (by omega) (ws_50 hW) rfl (by decide) (Nat.le_of_ble_eq_true rfl) (Nat.le_of_ble_eq_true rfl) (fun vq hq1 hq2 => ?_)
        obtain ⟨rfl, hf1, hA1⟩ := hq2
        have hW1 := hf1.Wd hW
        have hw1 : am_i hq1 50 4 = -1 := (hf1.i (by decide) (by decide)).trans hw
        have hd1 : am_i hq1 50 5 = nI (6 - L) := (hf1.i (by decide) (by decide)).trans hd
        have hC1 := hC.fx hf1 (by decide)
        have ko : Fx [] [(50, 3), (50, 5)] hq1 (am_wI (am_wI hq1 50 5 (nI (6 - L + 1))) 50 3 (nI (nx tl tp a + 1))) := (Fx.wI (Or.inr (by decide))).tr (Fx.wI (Or.inr (by decide)))
        have hWo := ko.Wd hW1
        have hAo := (hA1.fx (Fx.wI (A := []) (B := [(50, 5)]) (r := 50) (j := 5) (v := nI (6 - L + 1)) (Or.inr (by decide))) (by decide)).mv (b := nx tl tp a + 1) (by omega)
        have hCo := hC1.fx ko (by decide)
        have hwo : am_i (am_wI (am_wI hq1 50 5 (nI (6 - L + 1))) 50 3 (nI (nx tl tp a + 1))) 50 4 = -1 := hw1
        have hdo : am_i (am_wI (am_wI hq1 50 5 (nI (6 - L + 1))) 50 3 (nI (nx tl tp a + 1))) 50 5 = nI (6 - L + 1) := (by rw [wI_o (by decide), wI_e0])
        have hno : NF n h (am_wI (am_wI hq1 50 5 (nI (6 - L + 1))) 50 3 (nI (nx tl tp a + 1))) := (NF.of3 hf1).tr (NF.of (ko.mono (by decide) (by decide)))
        refine Eq_isn dX12_unit_4 (by decide) ?_
        refine Eam_nl (pc' := 5) (l' := [_, _]) rfl rfl ?_
        refine Eq_iln dX12_unit_5 rfl ?_
        refine Eq_bp (v := nI 33) dX12_unit_6 rfl ?_
        refine Ef_ic_ne dX12_unit_8 (tgt := 47) rfl (by rw [e]; rfl) ?_
        refine Eq_aln dX12_unit_11 rfl ?_
        refine Eq_V0 (N := m_X12_opens) dX12_unit_12 lk_X12_147 mV_X12_opens (r_opens hW1 hA1 hd1 (by omega)) (by omega) (ws_50 hW1) rfl (by decide) (Nat.le_of_ble_eq_true rfl) (Nat.le_of_ble_eq_true rfl) ?_
        refine Eq_aln dX12_unit_15 rfl ?_
        refine Eq_getI dX12_unit_16 fl_X12_117 (ws_50 hW1) rfl (by first | exact hwo | exact hw1 | rfl) ?_
        refine Eq_ic (v := -1) dX12_unit_19 rfl ?_
        refine Ef_ic_ne dX12_unit_20 (tgt := 94) rfl (by rfl) ?_
        refine Eq_aln dX12_unit_23 rfl ?_
        refine Eq_W0 (N := m_X12_unit) dX12_unit_24 lk_X12_166 mV_X12_unit (hu hL _ _ _ hWo hAo (by omega) hCo (by omega) hwo hdo) (by omega) (ws_50 hW1) rfl (by decide) (Nat.le_of_ble_eq_true rfl) (Nat.le_of_ble_eq_true rfl) (fun vq hq1 hq2 => ?_)
        obtain ⟨rfl, hn2, hw2, b, c, hA2, hb2, hc2, hc3⟩ := hq2.n hq
        have hW2 := hn2.1.Wd hWo
        refine Eq_aln dX12_unit_27 rfl ?_
        refine Eq_bp (v := nI 9) dX12_unit_28 rfl ?_
        refine Eq_ic (v := nI 0) dX12_unit_30 rfl ?_
        refine Eq_V2 (N := m_X12_put) dX12_unit_31 lk_X12_139 mV_X12_put (r_put hW2 (hn2.t.trans hCo.1) hCo.2.1 hc2 (by omega)) (by omega) (ws_50 hW2) rfl (by decide) (Nat.le_of_ble_eq_true rfl) (Nat.le_of_ble_eq_true rfl) ?_
        refine Eq_aln dX12_unit_34 rfl ?_
        refine Eam_x_pu dX12_unit_35 rfl ?_
        refine Eq_getI dX12_unit_36 fl_X12_123 (ws_50 hW2) rfl (by first | exact hwo | exact hw1 | rfl) ?_
        refine Eq_ic (v := nI 1) dX12_unit_39 rfl ?_
        first | refine Eq_sub dX12_unit_40 (by omega) ?_ | refine Eam_x_pu dX12_unit_40 rfl ?_
        refine Eam_x_putI dX12_unit_41 (fw_X12_123 rfl) (ws_50 hW2) (Or.inl rfl) ?_
        refine Eam_x_goto (tgt := 94) dX12_unit_44 rfl ?_
        refine Eq_vr dX12_unit_94 rfl ?_
        exact ⟨rfl, hno.tr (hn2.tr ((NF.pw (by omega)).tr NF.of5)), hw2, ⟨_, (hA2.fx fxPw (by decide)).fx (Fx.wI (A := []) (B := [(50, 5)]) (Or.inr (by decide))) (by decide), by omega⟩, c + 1, pw54, by dsimp only; omega⟩
      | some us =>
        rw [bd_s hq]
        have hul := hpi.2.2 us hq
        refine Eq_aln dX12_unit_0 rfl ?_
        refine Eq_W0 (N := m_X12_look) dX12_unit_1 lk_X12_129 mV_X12_look (r_look hW hA) (by omega) (ws_50 hW) rfl (by decide) (Nat.le_of_ble_eq_true rfl) (Nat.le_of_ble_eq_true rfl) (fun vq hq1 hq2 => ?_)
        obtain ⟨rfl, hf1, hA1⟩ := hq2
        have hW1 := hf1.Wd hW
        have hw1 : am_i hq1 50 4 = -1 := (hf1.i (by decide) (by decide)).trans hw
        have hd1 : am_i hq1 50 5 = nI (6 - L) := (hf1.i (by decide) (by decide)).trans hd
        have hC1 := hC.fx hf1 (by decide)
        have ko : Fx [] [(50, 3), (50, 5)] hq1 (am_wI (am_wI hq1 50 5 (nI (6 - L + 1))) 50 3 (nI (nx tl tp a + 1))) := (Fx.wI (Or.inr (by decide))).tr (Fx.wI (Or.inr (by decide)))
        have hWo := ko.Wd hW1
        have hAo := (hA1.fx (Fx.wI (A := []) (B := [(50, 5)]) (r := 50) (j := 5) (v := nI (6 - L + 1)) (Or.inr (by decide))) (by decide)).mv (b := nx tl tp a + 1) (by omega)
        have hCo := hC1.fx ko (by decide)
        have hwo : am_i (am_wI (am_wI hq1 50 5 (nI (6 - L + 1))) 50 3 (nI (nx tl tp a + 1))) 50 4 = -1 := hw1
        have hdo : am_i (am_wI (am_wI hq1 50 5 (nI (6 - L + 1))) 50 3 (nI (nx tl tp a + 1))) 50 5 = nI (6 - L + 1) := (by rw [wI_o (by decide), wI_e0])
        have hno : NF n h (am_wI (am_wI hq1 50 5 (nI (6 - L + 1))) 50 3 (nI (nx tl tp a + 1))) := (NF.of3 hf1).tr (NF.of (ko.mono (by decide) (by decide)))
        refine Eq_isn dX12_unit_4 (by decide) ?_
        refine Eam_nl (pc' := 5) (l' := [_, _]) rfl rfl ?_
        refine Eq_iln dX12_unit_5 rfl ?_
        refine Eq_bp (v := nI 33) dX12_unit_6 rfl ?_
        refine Ef_ic_ne dX12_unit_8 (tgt := 47) rfl (by rw [e]; rfl) ?_
        refine Eq_aln dX12_unit_11 rfl ?_
        refine Eq_V0 (N := m_X12_opens) dX12_unit_12 lk_X12_147 mV_X12_opens (r_opens hW1 hA1 hd1 (by omega)) (by omega) (ws_50 hW1) rfl (by decide) (Nat.le_of_ble_eq_true rfl) (Nat.le_of_ble_eq_true rfl) ?_
        refine Eq_aln dX12_unit_15 rfl ?_
        refine Eq_getI dX12_unit_16 fl_X12_117 (ws_50 hW1) rfl (by first | exact hd3 | exact hwo | exact hw1) ?_
        refine Eq_ic (v := -1) dX12_unit_19 rfl ?_
        refine Ef_ic_ne dX12_unit_20 (tgt := 94) rfl (by rfl) ?_
        refine Eq_aln dX12_unit_23 rfl ?_
        refine Eq_W0 (N := m_X12_unit) dX12_unit_24 lk_X12_166 mV_X12_unit (hu hL _ _ _ hWo hAo (by omega) hCo (by omega) hwo hdo) (by omega) (ws_50 hW1) rfl (by decide) (Nat.le_of_ble_eq_true rfl) (Nat.le_of_ble_eq_true rfl) (fun vq hq1 hq2 => ?_)
        obtain ⟨rfl, hn2, hw2, hA2, hC2, hd2⟩ := hq2.s hq
        have hW2 := hn2.1.Wd hWo
        have hcl : (l ++ us).length < 160 := (by simp only [List.length_append]; omega)
        have hC3 := hC2.put hcl (9, 0)
        have hd3 : am_i (pw hq1 n (l ++ us).length (nI 9) (nI 0)) 50 5 = nI (6 - L + 1) := hd2.trans hdo
        refine Eq_aln dX12_unit_27 rfl ?_
        refine Eq_bp (v := nI 9) dX12_unit_28 rfl ?_
        refine Eq_ic (v := nI 0) dX12_unit_30 rfl ?_
        refine Eq_V2 (N := m_X12_put) dX12_unit_31 lk_X12_139 mV_X12_put (r_put hW2 hC2.1 hC2.2.1 hC2.2.2.1 (by omega)) (by omega) (ws_50 hW2) rfl (by decide) (Nat.le_of_ble_eq_true rfl) (Nat.le_of_ble_eq_true rfl) ?_
        refine Eq_aln dX12_unit_34 rfl ?_
        refine Eam_x_pu dX12_unit_35 rfl ?_
        refine Eq_getI dX12_unit_36 fl_X12_123 (ws_50 hW2) rfl (by first | exact hd3 | exact hwo | exact hw1) ?_
        refine Eq_ic (v := nI 1) dX12_unit_39 rfl ?_
        first | refine Eq_sub dX12_unit_40 (by omega) ?_ | refine Eam_x_pu dX12_unit_40 rfl ?_
        refine Eam_x_putI dX12_unit_41 (fw_X12_123 rfl) (ws_50 hW2) (Or.inl rfl) ?_
        refine Eam_x_goto (tgt := 94) dX12_unit_44 rfl ?_
        refine Eq_vr dX12_unit_94 rfl ?_
        exact ⟨rfl, hno.tr (hn2.tr ((NF.pw (by omega)).tr NF.of5)), hw2, (hA2.fx fxPw (by decide)).fx (Fx.wI (A := []) (B := [(50, 5)]) (Or.inr (by decide))) (by decide), by rw [← List.append_assoc]; exact hC3.fx (Fx.wI (A := []) (B := [(50, 5)]) (Or.inr (by decide))) (by decide), wI_e0.trans hd.symm⟩
  · rw [if_neg e]
    by_cases e2 : sgn tl tp (nx tl tp a) = some 40
    · rw [if_pos e2]
      have hlt := (sgn_lt e2).1
      by_cases hL : L = 0
      · rw [if_pos hL]
        subst hL
        refine Eq_aln dX12_unit_0 rfl ?_
        refine Eq_W0 (N := m_X12_look) dX12_unit_1 lk_X12_129 mV_X12_look (r_look hW hA) (by omega) (ws_50 hW) rfl (by decide) (Nat.le_of_ble_eq_true rfl) (Nat.le_of_ble_eq_true rfl) (fun vq hq1 hq2 => ?_)
        obtain ⟨rfl, hf1, hA1⟩ := hq2
        have hW1 := hf1.Wd hW
        have hw1 : am_i hq1 50 4 = -1 := (hf1.i (by decide) (by decide)).trans hw
        have hd1 : am_i hq1 50 5 = nI (6) := (hf1.i (by decide) (by decide)).trans hd
        have hC1 := hC.fx hf1 (by decide)
        refine Eq_isn dX12_unit_4 (by decide) ?_
        refine Eam_nl (pc' := 5) (l' := [_, _]) rfl rfl ?_
        refine Eq_iln dX12_unit_5 rfl ?_
        refine Eq_bp (v := nI 33) dX12_unit_6 rfl ?_
        refine Et_ic_ne 47 dX12_unit_8 rfl (by exact fun z => e ((oNlt (fun k hk => by have := h2 k hk; omega) 33 (by omega)).mp z)) ?_
        refine Eq_iln dX12_unit_47 rfl ?_
        refine Eq_bp (v := nI 40) dX12_unit_48 rfl ?_
        refine Ef_ic_ne dX12_unit_50 (tgt := 78) rfl (by rw [e2]; rfl) ?_
        refine Eq_aln dX12_unit_53 rfl ?_
        refine Eq_V0 (N := m_X12_opens) dX12_unit_54 lk_X12_147 mV_X12_opens (r_opens6 hW1 hA1 hw1 hd1) (by omega) (ws_50 hW1) rfl (by decide) (Nat.le_of_ble_eq_true rfl) (Nat.le_of_ble_eq_true rfl) ?_
        refine Eq_aln dX12_unit_57 rfl ?_
        refine Eq_getI dX12_unit_58 fl_X12_117 (ws_50 hW1) rfl (by rw [wI_o (by decide), wI_o (by decide), wI_e0]) ?_
        refine Eq_ic (v := -1) dX12_unit_61 rfl ?_
        refine Et_ic_ne 94 dX12_unit_62 rfl (by exact nI_m1 (by omega)) ?_
        refine Eq_vr dX12_unit_94 rfl ?_
        exact ⟨rfl, (NF.of3 hf1).tr (NF.of4.tr (NF.of5.tr NF.w3)), by rw [wI_o (by decide), wI_o (by decide), wI_e0], ⟨_, ((hA1.fx (Fx.wI (A := []) (B := [(50, 4)]) (Or.inr (by decide))) (by decide)).fx (Fx.wI (A := []) (B := [(50, 5)]) (Or.inr (by decide))) (by decide)).mv (by omega), by omega⟩, l.length, hC1.2.2.1, by dsimp only; omega⟩
      · rw [if_neg hL]
        have hpi := hpc hL (nx tl tp a + 1) (by omega)
        unfold clo
        cases hq : (ic (nx tl tp a + 1)).2 with
        | none =>
          rw [bd_n hq]
          refine Eq_aln dX12_unit_0 rfl ?_
          refine Eq_W0 (N := m_X12_look) dX12_unit_1 lk_X12_129 mV_X12_look (r_look hW hA) (by omega) (ws_50 hW) rfl (by decide) (Nat.le_of_ble_eq_true rfl) (Nat.le_of_ble_eq_true rfl) (fun vq hq1 hq2 => ?_)
          obtain ⟨rfl, hf1, hA1⟩ := hq2
          have hW1 := hf1.Wd hW
          have hw1 : am_i hq1 50 4 = -1 := (hf1.i (by decide) (by decide)).trans hw
          have hd1 : am_i hq1 50 5 = nI (6 - L) := (hf1.i (by decide) (by decide)).trans hd
          have hC1 := hC.fx hf1 (by decide)
          have ko : Fx [] [(50, 3), (50, 5)] hq1 (am_wI (am_wI hq1 50 5 (nI (6 - L + 1))) 50 3 (nI (nx tl tp a + 1))) := (Fx.wI (Or.inr (by decide))).tr (Fx.wI (Or.inr (by decide)))
          have hWo := ko.Wd hW1
          have hAo := (hA1.fx (Fx.wI (A := []) (B := [(50, 5)]) (r := 50) (j := 5) (v := nI (6 - L + 1)) (Or.inr (by decide))) (by decide)).mv (b := nx tl tp a + 1) (by omega)
          have hCo := hC1.fx ko (by decide)
          have hwo : am_i (am_wI (am_wI hq1 50 5 (nI (6 - L + 1))) 50 3 (nI (nx tl tp a + 1))) 50 4 = -1 := hw1
          have hdo : am_i (am_wI (am_wI hq1 50 5 (nI (6 - L + 1))) 50 3 (nI (nx tl tp a + 1))) 50 5 = nI (6 - L + 1) := (by rw [wI_o (by decide), wI_e0])
          have hno : NF n h (am_wI (am_wI hq1 50 5 (nI (6 - L + 1))) 50 3 (nI (nx tl tp a + 1))) := (NF.of3 hf1).tr (NF.of (ko.mono (by decide) (by decide)))
          refine Eq_isn dX12_unit_4 (by decide) ?_
          refine Eam_nl (pc' := 5) (l' := [_, _]) rfl rfl ?_
          refine Eq_iln dX12_unit_5 rfl ?_
          refine Eq_bp (v := nI 33) dX12_unit_6 rfl ?_
          refine Et_ic_ne 47 dX12_unit_8 rfl (by exact fun z => e ((oNlt (fun k hk => by have := h2 k hk; omega) 33 (by omega)).mp z)) ?_
          refine Eq_iln dX12_unit_47 rfl ?_
          refine Eq_bp (v := nI 40) dX12_unit_48 rfl ?_
          refine Ef_ic_ne dX12_unit_50 (tgt := 78) rfl (by rw [e2]; rfl) ?_
          refine Eq_aln dX12_unit_53 rfl ?_
          refine Eq_V0 (N := m_X12_opens) dX12_unit_54 lk_X12_147 mV_X12_opens (r_opens hW1 hA1 hd1 (by omega)) (by omega) (ws_50 hW1) rfl (by decide) (Nat.le_of_ble_eq_true rfl) (Nat.le_of_ble_eq_true rfl) ?_
          refine Eq_aln dX12_unit_57 rfl ?_
          refine Eq_getI dX12_unit_58 fl_X12_117 (ws_50 hW1) rfl (by first | exact hwo | exact hw1) ?_
          refine Eq_ic (v := -1) dX12_unit_61 rfl ?_
          refine Ef_ic_ne dX12_unit_62 (tgt := 94) rfl (by rfl) ?_
          refine Eq_aln dX12_unit_65 rfl ?_
          refine Eq_W0 (N := m_X12_condition) dX12_unit_66 lk_X12_169 mV_X12_condition (hc hL _ _ _ hWo hAo (by omega) hCo (by omega) hwo hdo) (by omega) (ws_50 hW1) rfl (by decide) (Nat.le_of_ble_eq_true rfl) (Nat.le_of_ble_eq_true rfl) (fun vq hq1 hq2 => ?_)
          obtain ⟨rfl, hn2, hw2, b, c, hA2, hb2, hc2, hc3⟩ := hq2.n hq
          have hW2 := hn2.1.Wd hWo
          refine Eq_aln dX12_unit_69 rfl ?_
          refine Eq_bp (v := nI 41) dX12_unit_70 rfl ?_
          refine Eq_W1 (N := m_X12_closes) dX12_unit_72 lk_X12_153 mV_X12_closes (r_closesB hW2 hA2 (by omega) (by omega) hw2) (by omega) (ws_50 hW2) rfl (by decide) (Nat.le_of_ble_eq_true rfl) (Nat.le_of_ble_eq_true rfl) (fun vq hq1 hq2 => ?_)
          obtain ⟨rfl, hf3, hw3, hA3⟩ := hq2
          refine Eam_x_goto (tgt := 94) dX12_unit_75 rfl ?_
          refine Eq_vr dX12_unit_94 rfl ?_
          exact ⟨rfl, hno.tr (hn2.tr (NF.of (hf3.mono (by decide) (by decide)))), hw3, ⟨_, hA3, by omega⟩, c, (hf3.i (by decide) (by simp)).trans hc2, by dsimp only; omega⟩
        | some us =>
          rw [bd_s hq]
          have hul := hpi.2.2 us hq
          by_cases ec : sgn tl tp (nx tl tp (ic (nx tl tp a + 1)).1) = some 41
          · rw [if_pos ec]
            refine Eq_aln dX12_unit_0 rfl ?_
            refine Eq_W0 (N := m_X12_look) dX12_unit_1 lk_X12_129 mV_X12_look (r_look hW hA) (by omega) (ws_50 hW) rfl (by decide) (Nat.le_of_ble_eq_true rfl) (Nat.le_of_ble_eq_true rfl) (fun vq hq1 hq2 => ?_)
            obtain ⟨rfl, hf1, hA1⟩ := hq2
            have hW1 := hf1.Wd hW
            have hw1 : am_i hq1 50 4 = -1 := (hf1.i (by decide) (by decide)).trans hw
            have hd1 : am_i hq1 50 5 = nI (6 - L) := (hf1.i (by decide) (by decide)).trans hd
            have hC1 := hC.fx hf1 (by decide)
            have ko : Fx [] [(50, 3), (50, 5)] hq1 (am_wI (am_wI hq1 50 5 (nI (6 - L + 1))) 50 3 (nI (nx tl tp a + 1))) := (Fx.wI (Or.inr (by decide))).tr (Fx.wI (Or.inr (by decide)))
            have hWo := ko.Wd hW1
            have hAo := (hA1.fx (Fx.wI (A := []) (B := [(50, 5)]) (r := 50) (j := 5) (v := nI (6 - L + 1)) (Or.inr (by decide))) (by decide)).mv (b := nx tl tp a + 1) (by omega)
            have hCo := hC1.fx ko (by decide)
            have hwo : am_i (am_wI (am_wI hq1 50 5 (nI (6 - L + 1))) 50 3 (nI (nx tl tp a + 1))) 50 4 = -1 := hw1
            have hdo : am_i (am_wI (am_wI hq1 50 5 (nI (6 - L + 1))) 50 3 (nI (nx tl tp a + 1))) 50 5 = nI (6 - L + 1) := (by rw [wI_o (by decide), wI_e0])
            have hno : NF n h (am_wI (am_wI hq1 50 5 (nI (6 - L + 1))) 50 3 (nI (nx tl tp a + 1))) := (NF.of3 hf1).tr (NF.of (ko.mono (by decide) (by decide)))
            refine Eq_isn dX12_unit_4 (by decide) ?_
            refine Eam_nl (pc' := 5) (l' := [_, _]) rfl rfl ?_
            refine Eq_iln dX12_unit_5 rfl ?_
            refine Eq_bp (v := nI 33) dX12_unit_6 rfl ?_
            refine Et_ic_ne 47 dX12_unit_8 rfl (by exact fun z => e ((oNlt (fun k hk => by have := h2 k hk; omega) 33 (by omega)).mp z)) ?_
            refine Eq_iln dX12_unit_47 rfl ?_
            refine Eq_bp (v := nI 40) dX12_unit_48 rfl ?_
            refine Ef_ic_ne dX12_unit_50 (tgt := 78) rfl (by rw [e2]; rfl) ?_
            refine Eq_aln dX12_unit_53 rfl ?_
            refine Eq_V0 (N := m_X12_opens) dX12_unit_54 lk_X12_147 mV_X12_opens (r_opens hW1 hA1 hd1 (by omega)) (by omega) (ws_50 hW1) rfl (by decide) (Nat.le_of_ble_eq_true rfl) (Nat.le_of_ble_eq_true rfl) ?_
            refine Eq_aln dX12_unit_57 rfl ?_
            refine Eq_getI dX12_unit_58 fl_X12_117 (ws_50 hW1) rfl (by first | exact hwo | exact hw1) ?_
            refine Eq_ic (v := -1) dX12_unit_61 rfl ?_
            refine Ef_ic_ne dX12_unit_62 (tgt := 94) rfl (by rfl) ?_
            refine Eq_aln dX12_unit_65 rfl ?_
            refine Eq_W0 (N := m_X12_condition) dX12_unit_66 lk_X12_169 mV_X12_condition (hc hL _ _ _ hWo hAo (by omega) hCo (by omega) hwo hdo) (by omega) (ws_50 hW1) rfl (by decide) (Nat.le_of_ble_eq_true rfl) (Nat.le_of_ble_eq_true rfl) (fun vq hq1 hq2 => ?_)
            obtain ⟨rfl, hn2, hw2, hA2, hC2, hd2⟩ := hq2.s hq
            have hW2 := hn2.1.Wd hWo
            refine Eq_aln dX12_unit_69 rfl ?_
            refine Eq_bp (v := nI 41) dX12_unit_70 rfl ?_
            refine Eq_W1 (N := m_X12_closes) dX12_unit_72 lk_X12_153 mV_X12_closes (r_closesY hW2 hA2 hpi.2.1 hw2 (hd2.trans hdo) ec) (by omega) (ws_50 hW2) rfl (by decide) (Nat.le_of_ble_eq_true rfl) (Nat.le_of_ble_eq_true rfl) (fun vq hq1 hq2 => ?_)
            obtain ⟨rfl, hf3, hw3, hA3, hd3⟩ := hq2
            refine Eam_x_goto (tgt := 94) dX12_unit_75 rfl ?_
            refine Eq_vr dX12_unit_94 rfl ?_
            exact ⟨rfl, hno.tr (hn2.tr (NF.of (hf3.mono (by decide) (by decide)))), hw3, hA3, hC2.fx hf3 (by decide), hd3.trans hd.symm⟩
          · rw [if_neg ec]
            have hxc := nx_le (tp := tp) hpi.2.1
            have hxd := nx_ge (tl := tl) (tp := tp) (a := (ic (nx tl tp a + 1)).1)
            refine Eq_aln dX12_unit_0 rfl ?_
            refine Eq_W0 (N := m_X12_look) dX12_unit_1 lk_X12_129 mV_X12_look (r_look hW hA) (by omega) (ws_50 hW) rfl (by decide) (Nat.le_of_ble_eq_true rfl) (Nat.le_of_ble_eq_true rfl) (fun vq hq1 hq2 => ?_)
            obtain ⟨rfl, hf1, hA1⟩ := hq2
            have hW1 := hf1.Wd hW
            have hw1 : am_i hq1 50 4 = -1 := (hf1.i (by decide) (by decide)).trans hw
            have hd1 : am_i hq1 50 5 = nI (6 - L) := (hf1.i (by decide) (by decide)).trans hd
            have hC1 := hC.fx hf1 (by decide)
            have ko : Fx [] [(50, 3), (50, 5)] hq1 (am_wI (am_wI hq1 50 5 (nI (6 - L + 1))) 50 3 (nI (nx tl tp a + 1))) := (Fx.wI (Or.inr (by decide))).tr (Fx.wI (Or.inr (by decide)))
            have hWo := ko.Wd hW1
            have hAo := (hA1.fx (Fx.wI (A := []) (B := [(50, 5)]) (r := 50) (j := 5) (v := nI (6 - L + 1)) (Or.inr (by decide))) (by decide)).mv (b := nx tl tp a + 1) (by omega)
            have hCo := hC1.fx ko (by decide)
            have hwo : am_i (am_wI (am_wI hq1 50 5 (nI (6 - L + 1))) 50 3 (nI (nx tl tp a + 1))) 50 4 = -1 := hw1
            have hdo : am_i (am_wI (am_wI hq1 50 5 (nI (6 - L + 1))) 50 3 (nI (nx tl tp a + 1))) 50 5 = nI (6 - L + 1) := (by rw [wI_o (by decide), wI_e0])
            have hno : NF n h (am_wI (am_wI hq1 50 5 (nI (6 - L + 1))) 50 3 (nI (nx tl tp a + 1))) := (NF.of3 hf1).tr (NF.of (ko.mono (by decide) (by decide)))
            refine Eq_isn dX12_unit_4 (by decide) ?_
            refine Eam_nl (pc' := 5) (l' := [_, _]) rfl rfl ?_
            refine Eq_iln dX12_unit_5 rfl ?_
            refine Eq_bp (v := nI 33) dX12_unit_6 rfl ?_
            refine Et_ic_ne 47 dX12_unit_8 rfl (by exact fun z => e ((oNlt (fun k hk => by have := h2 k hk; omega) 33 (by omega)).mp z)) ?_
            refine Eq_iln dX12_unit_47 rfl ?_
            refine Eq_bp (v := nI 40) dX12_unit_48 rfl ?_
            refine Ef_ic_ne dX12_unit_50 (tgt := 78) rfl (by rw [e2]; rfl) ?_
            refine Eq_aln dX12_unit_53 rfl ?_
            refine Eq_V0 (N := m_X12_opens) dX12_unit_54 lk_X12_147 mV_X12_opens (r_opens hW1 hA1 hd1 (by omega)) (by omega) (ws_50 hW1) rfl (by decide) (Nat.le_of_ble_eq_true rfl) (Nat.le_of_ble_eq_true rfl) ?_
            refine Eq_aln dX12_unit_57 rfl ?_
            refine Eq_getI dX12_unit_58 fl_X12_117 (ws_50 hW1) rfl (by first | exact hwo | exact hw1) ?_
            refine Eq_ic (v := -1) dX12_unit_61 rfl ?_
            refine Ef_ic_ne dX12_unit_62 (tgt := 94) rfl (by rfl) ?_
            refine Eq_aln dX12_unit_65 rfl ?_
            refine Eq_W0 (N := m_X12_condition) dX12_unit_66 lk_X12_169 mV_X12_condition (hc hL _ _ _ hWo hAo (by omega) hCo (by omega) hwo hdo) (by omega) (ws_50 hW1) rfl (by decide) (Nat.le_of_ble_eq_true rfl) (Nat.le_of_ble_eq_true rfl) (fun vq hq1 hq2 => ?_)
            obtain ⟨rfl, hn2, hw2, hA2, hC2, hd2⟩ := hq2.s hq
            have hW2 := hn2.1.Wd hWo
            refine Eq_aln dX12_unit_69 rfl ?_
            refine Eq_bp (v := nI 41) dX12_unit_70 rfl ?_
            refine Eq_W1 (N := m_X12_closes) dX12_unit_72 lk_X12_153 mV_X12_closes (r_closesN hW2 (by omega) hA2 hpi.2.1 hw2 ec) (by omega) (ws_50 hW2) rfl (by decide) (Nat.le_of_ble_eq_true rfl) (Nat.le_of_ble_eq_true rfl) (fun vq hq1 hq2 => ?_)
            obtain ⟨rfl, hf3, hw3, hA3⟩ := hq2
            refine Eam_x_goto (tgt := 94) dX12_unit_75 rfl ?_
            refine Eq_vr dX12_unit_94 rfl ?_
            exact ⟨rfl, hno.tr (hn2.tr (NF.of hf3)), hw3, ⟨_, hA3, by omega⟩, _, (hC2.fx hf3 (by decide)).2.2.1, by simp only [List.length_append]; omega⟩
    · rw [if_neg e2]
      have hpi := hp (nx tl tp a) hx2
      cases hq : (sum (nx tl tp a)).2 with
      | none =>
        rw [bd_n hq]
        have hx := hpi.2.1
        refine Eq_aln dX12_unit_0 rfl ?_
        refine Eq_W0 (N := m_X12_look) dX12_unit_1 lk_X12_129 mV_X12_look (r_look hW hA) (by omega) (ws_50 hW) rfl (by decide) (Nat.le_of_ble_eq_true rfl) (Nat.le_of_ble_eq_true rfl) (fun vq hq1 hq2 => ?_)
        obtain ⟨rfl, hf1, hA1⟩ := hq2
        have hW1 := hf1.Wd hW
        have hw1 : am_i hq1 50 4 = -1 := (hf1.i (by decide) (by decide)).trans hw
        have hd1 : am_i hq1 50 5 = nI (6 - L) := (hf1.i (by decide) (by decide)).trans hd
        have hC1 := hC.fx hf1 (by decide)
        refine Eq_isn dX12_unit_4 (by decide) ?_
        refine Eam_nl (pc' := 5) (l' := [_, _]) rfl rfl ?_
        refine Eq_iln dX12_unit_5 rfl ?_
        refine Eq_bp (v := nI 33) dX12_unit_6 rfl ?_
        refine Et_ic_ne 47 dX12_unit_8 rfl (by exact fun z => e ((oNlt (fun k hk => by have := h2 k hk; omega) 33 (by omega)).mp z)) ?_
        refine Eq_iln dX12_unit_47 rfl ?_
        refine Eq_bp (v := nI 40) dX12_unit_48 rfl ?_
        refine Et_ic_ne 78 dX12_unit_50 rfl (by exact fun z => e2 ((oNlt (fun k hk => by have := h2 k hk; omega) 40 (by omega)).mp z)) ?_
        refine Eq_aln dX12_unit_78 rfl ?_
        refine Eq_W0 (N := m_X12_sum) dX12_unit_79 lk_X12_150 mV_X12_sum (hs _ _ _ hW1 hA1 hx2 hC1 (by omega) hw1 hd1) (by omega) (ws_50 hW1) rfl (by decide) (Nat.le_of_ble_eq_true rfl) (Nat.le_of_ble_eq_true rfl) (fun vq hq1 hq2 => ?_)
        obtain ⟨rfl, hn2, hw2, b, c, hA2, hb2, hc2, hc3⟩ := hq2.n hq
        have hW2 := hn2.1.Wd hW1
        refine Eq_aln dX12_unit_82 rfl ?_
        refine Eq_getI dX12_unit_83 fl_X12_117 (ws_50 hW2) rfl hw2 ?_
        refine Eq_ic (v := -1) dX12_unit_86 rfl ?_
        refine Et_ic_ne 94 dX12_unit_87 rfl (by exact nI_m1 (by omega)) ?_
        refine Eq_vr dX12_unit_94 rfl ?_
        exact ⟨rfl, (NF.of3 hf1).tr hn2, hw2, ⟨_, hA2, hb2⟩, c, hc2, by dsimp only; omega⟩
      | some us =>
        rw [bd_s hq]
        have hul := hpi.2.2 us hq
        refine Eq_aln dX12_unit_0 rfl ?_
        refine Eq_W0 (N := m_X12_look) dX12_unit_1 lk_X12_129 mV_X12_look (r_look hW hA) (by omega) (ws_50 hW) rfl (by decide) (Nat.le_of_ble_eq_true rfl) (Nat.le_of_ble_eq_true rfl) (fun vq hq1 hq2 => ?_)
        obtain ⟨rfl, hf1, hA1⟩ := hq2
        have hW1 := hf1.Wd hW
        have hw1 : am_i hq1 50 4 = -1 := (hf1.i (by decide) (by decide)).trans hw
        have hd1 : am_i hq1 50 5 = nI (6 - L) := (hf1.i (by decide) (by decide)).trans hd
        have hC1 := hC.fx hf1 (by decide)
        refine Eq_isn dX12_unit_4 (by decide) ?_
        refine Eam_nl (pc' := 5) (l' := [_, _]) rfl rfl ?_
        refine Eq_iln dX12_unit_5 rfl ?_
        refine Eq_bp (v := nI 33) dX12_unit_6 rfl ?_
        refine Et_ic_ne 47 dX12_unit_8 rfl (by exact fun z => e ((oNlt (fun k hk => by have := h2 k hk; omega) 33 (by omega)).mp z)) ?_
        refine Eq_iln dX12_unit_47 rfl ?_
        refine Eq_bp (v := nI 40) dX12_unit_48 rfl ?_
        refine Et_ic_ne 78 dX12_unit_50 rfl (by exact fun z => e2 ((oNlt (fun k hk => by have := h2 k hk; omega) 40 (by omega)).mp z)) ?_
        refine Eq_aln dX12_unit_78 rfl ?_
        refine Eq_W0 (N := m_X12_sum) dX12_unit_79 lk_X12_150 mV_X12_sum (hs _ _ _ hW1 hA1 hx2 hC1 (by omega) hw1 hd1) (by omega) (ws_50 hW1) rfl (by decide) (Nat.le_of_ble_eq_true rfl) (Nat.le_of_ble_eq_true rfl) (fun vq hq1 hq2 => ?_)
        obtain ⟨rfl, hn2, hw2, hA2, hC2, hd2⟩ := hq2.s hq
        have hW2 := hn2.1.Wd hW1
        refine Eq_aln dX12_unit_82 rfl ?_
        refine Eq_getI dX12_unit_83 fl_X12_117 (ws_50 hW2) rfl hw2 ?_
        refine Eq_ic (v := -1) dX12_unit_86 rfl ?_
        refine Ef_ic_ne dX12_unit_87 (tgt := 94) rfl (by rfl) ?_
        refine Eq_aln dX12_unit_90 rfl ?_
        refine Eq_W0 (N := m_X12_compare) dX12_unit_91 lk_X12_172 mV_X12_compare (r_compare hs hp hdd (a := a) hW2 hA2 hpi.2.1 hC2 hl (by omega) hw2 (hd2.trans hd1)) (by omega) (ws_50 hW2) rfl (by decide) (Nat.le_of_ble_eq_true rfl) (Nat.le_of_ble_eq_true rfl) (fun vq hq1 hq2 => ?_)
        have hq5 := hq2.1
        subst hq5
        refine Eq_vr dX12_unit_94 rfl ?_
        exact hq2.tr ((NF.of3 hf1).tr hn2) ((hd2.trans hd1).trans hd.symm)
set_option maxHeartbeats 2000000 in
theorem r_unitL {tl : Nat} {tp : Nat → Nat} {n : Nat} : ∀ L, L ≤ 6 → RSC tl tp n m_X12_unit (4 * L + 7) (6 - L) L (unP tl tp L) := by
  intro L
  induction L with
  | zero =>
    intro _
    exact r_unit (d := 5) (du := 0) (dc := 0) (L := 0) (by omega) (r_sumL 0 (by omega)) (smP_pr 0) (fun z => absurd rfl z) (fun z => absurd rfl z) (fun z => absurd rfl z) (fun z => absurd rfl z) (by omega) (by omega) (by omega) (by omega)
  | succ L ih =>
    intro hL
    have i1 := ih (by omega)
    rw [show 6 - L = 6 - (L + 1) + 1 by omega] at i1
    have i2 := r_condition i1 (unP_pr L) (by omega)
    exact r_unit (d := 3 * (L + 1) + 5) (du := 4 * L + 7) (dc := 4 * L + 7 + 3) hL (r_sumL (L + 1) hL) (smP_pr (L + 1)) (fun _ => i1) (fun _ => unP_pr L) (fun _ => i2) (fun _ => cndW_pr (unP_pr L)) (by omega) (by omega) (by omega) (by omega)
