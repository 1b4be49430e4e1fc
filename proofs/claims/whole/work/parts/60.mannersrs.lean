/-! the reference reads sums and conditions -/
theorem RP.tr {tl : Nat} {tp : Nat → Nat} {n a L : Nat} {r : Rd} {l : Tks} {h h1 h2 : am_H} {w : Option Value} (m : RP tl tp n r a L l h1 w h2) (f : NF n h h1) (hd : am_i h1 50 5 = am_i h 50 5) : RP tl tp n r a L l h w h2 := by
  unfold RP at m ⊢
  refine ⟨m.1, f.tr m.2.1, ?_⟩
  have m3 := m.2.2
  revert m3
  cases r.2 with
  | none => exact fun z => z
  | some ts => exact fun z => ⟨z.1, z.2.1, z.2.2.1, z.2.2.2.trans hd⟩
theorem fxPw {h : am_H} {n c : Nat} {o v : Int32} : Fx [52, 53, 54] [] h (pw h n c o v) := (Fx.wI (Or.inl (by decide))).tr ((Fx.wI (Or.inl (by decide))).tr (Fx.wI (Or.inl (by decide))))
theorem pw54 {h : am_H} {n c : Nat} {o v : Int32} : am_i (pw h n c o v) 54 n = nI (c + 1) := by rw [pwE, wI_e0]
set_option maxHeartbeats 2000000 in
theorem r_term_end {h : am_H} {d : Nat} {P : Option Value → am_H → Prop} (hP : P none h) : am_E d m_X12_term 21 [some (.ref 50), some (.int (-1))] [] h P := by
  refine Eq_iln dX12_term_21 rfl ?_
  refine Eq_bp (v := nI 42) dX12_term_22 rfl ?_
  refine Ef_ic_eq dX12_term_24 (tgt := 33) rfl (by decide +kernel) ?_
  refine Eq_iln dX12_term_27 rfl ?_
  refine Eq_bp (v := nI 47) dX12_term_28 rfl ?_
  refine Et_ic_ne 83 dX12_term_30 rfl (by decide +kernel) ?_
  refine Eq_vr dX12_term_83 rfl ?_
  exact hP
set_option maxHeartbeats 2000000 in
theorem r_term_lp {tl : Nat} {tp : Nat → Nat} {n d e L a : Nat} {p : Nat → Rd} (hs : RSC tl tp n m_X12_atom d e L p) (hp : Prs tl p) (hdd : 2 ≤ d) {l : Tks} (hla : l.length ≤ a) (htl : tl ≤ 160) : ∀ k b ts h, tl < b + k → b ≤ tl → Wd h → RA h tl tp (nx tl tp b) → CW h n (l ++ ts) → a + ts.length ≤ b → am_i h 50 4 = -1 → am_i h 50 5 = nI e → am_E (d + 1) m_X12_term 21 [some (.ref 50), some (.int (oN (sgn tl tp (nx tl tp b))))] [] h (RP tl tp n (chn tl tp opT p k b ts) a L l h) := by
  intro k
  induction k with
  | zero => intro b ts h hk hb; omega
  | succ k ih =>
    intro b ts h hk hb hW hA hC hl hw hd
    have h2 := rsgn256 hA (nx tl tp b)
    have hx1 := nx_ge (tl := tl) (tp := tp) (a := b)
    have hx2 := nx_le (tp := tp) hb
    by_cases ec : sgn tl tp (nx tl tp b) = some 42
    · have hlt := (sgn_lt ec).1
      have ho : opT (sgn tl tp (nx tl tp b)) = some 4 := by rw [ec]; rfl
      rw [chn_s ho]
      have hpi := hp (nx tl tp b + 1) (by omega)
      have ks : Fx [] [(50, 3)] h (am_wI h 50 3 (nI (nx tl tp b + 1))) := Fx.wI (Or.inr (by decide))
      have hWs := ks.Wd hW
      have hAs := hA.mv (b := nx tl tp b + 1) (by omega)
      have hCs := hC.fx ks (by decide)
      have hll : (l ++ ts).length ≤ nx tl tp b + 1 := by simp only [List.length_append]; omega
      cases hq : (p (nx tl tp b + 1)).2 with
      | none =>
        rw [bd_n hq]
        refine Eq_iln dX12_term_21 rfl ?_
        refine Eq_bp (v := nI 42) dX12_term_22 rfl ?_
        refine Et_ic_eq 33 dX12_term_24 rfl (by rw [ec]; rfl) ?_
        refine Eq_aln dX12_term_33 rfl ?_
        refine Eam_x_pu dX12_term_34 rfl ?_
        refine Eq_getI dX12_term_35 fl_X12_110 (ws_50 hW) rfl (by first | exact hw2 | exact hA.2.1) ?_
        refine Eq_ic (v := nI 1) dX12_term_38 rfl ?_
        first | refine Eq_add dX12_term_39 ?_ | refine Eam_x_pu dX12_term_39 rfl ?_
        refine Eam_x_putI dX12_term_40 (fw_X12_110 rfl) (ws_50 hW) (Or.inl rfl) ?_
        refine Eq_aln dX12_term_43 rfl ?_
        refine Eq_W0 (N := m_X12_atom) dX12_term_44 lk_X12_157 mV_X12_atom (hs _ _ _ hWs hAs (by omega) hCs hll hw hd) (by omega) (ws_50 hW) rfl (by decide) (Nat.le_of_ble_eq_true rfl) (Nat.le_of_ble_eq_true rfl) (fun vq hq1 hq2 => ?_)
        obtain ⟨rfl, hn2, hw2, b2, c, hA2, hb2, hc2, hc3⟩ := hq2.n hq
        have hW2 := hn2.1.Wd hWs
        have hcl : c < 340 := (by simp only [List.length_append] at hc3; omega)
        refine Eq_aln dX12_term_47 rfl ?_
        refine Eq_iln dX12_term_48 rfl ?_
        refine Eq_bp (v := nI 42) dX12_term_49 rfl ?_
        refine Ef_ic_ne dX12_term_51 (tgt := 58) rfl (by rw [ec]; rfl) ?_
        refine Eq_ic (v := nI 4) dX12_term_54 rfl ?_
        refine Eam_x_goto (tgt := 59) dX12_term_55 rfl ?_
        refine Eq_ic (v := nI 0) dX12_term_59 rfl ?_
        refine Eq_V2 (N := m_X12_put) dX12_term_60 lk_X12_139 mV_X12_put (r_put hW2 (hn2.t.trans hCs.1) hCs.2.1 hc2 hcl) (by omega) (ws_50 hW2) rfl (by decide) (Nat.le_of_ble_eq_true rfl) (Nat.le_of_ble_eq_true rfl) ?_
        refine Eq_aln dX12_term_63 rfl ?_
        refine Eq_getI dX12_term_64 fl_X12_117 (ws_50 hW2) rfl (by first | exact hw2 | exact hA.2.1) ?_
        refine Eq_ic (v := -1) dX12_term_67 rfl ?_
        refine Et_ic_ne 78 dX12_term_68 rfl (by exact nI_m1 (by omega)) ?_
        refine Eq_ic (v := -1) dX12_term_78 rfl ?_
        refine Eq_isn dX12_term_79 (by decide) ?_
        refine Eam_nl (pc' := 80) (l' := [_, _]) rfl rfl ?_
        refine Eam_x_goto (tgt := 21) dX12_term_80 rfl ?_
        refine r_term_end ⟨rfl, (NF.of3 ks).tr (hn2.tr (NF.pw hcl)), hw2, ⟨_, hA2.fx fxPw (by decide), hb2⟩, c + 1, pw54, ?_⟩
        simp only [List.length_append] at hc3
        dsimp only
        omega
      | some us =>
        rw [bd_s hq]
        have hul := hpi.2.2 us hq
        refine Eq_iln dX12_term_21 rfl ?_
        refine Eq_bp (v := nI 42) dX12_term_22 rfl ?_
        refine Et_ic_eq 33 dX12_term_24 rfl (by rw [ec]; rfl) ?_
        refine Eq_aln dX12_term_33 rfl ?_
        refine Eam_x_pu dX12_term_34 rfl ?_
        refine Eq_getI dX12_term_35 fl_X12_110 (ws_50 hW) rfl (by first | exact hw2 | exact hA.2.1) ?_
        refine Eq_ic (v := nI 1) dX12_term_38 rfl ?_
        first | refine Eq_add dX12_term_39 ?_ | refine Eam_x_pu dX12_term_39 rfl ?_
        refine Eam_x_putI dX12_term_40 (fw_X12_110 rfl) (ws_50 hW) (Or.inl rfl) ?_
        refine Eq_aln dX12_term_43 rfl ?_
        refine Eq_W0 (N := m_X12_atom) dX12_term_44 lk_X12_157 mV_X12_atom (hs _ _ _ hWs hAs (by omega) hCs hll hw hd) (by omega) (ws_50 hW) rfl (by decide) (Nat.le_of_ble_eq_true rfl) (Nat.le_of_ble_eq_true rfl) (fun vq hq1 hq2 => ?_)
        obtain ⟨rfl, hn2, hw2, hA2, hC2, hd2⟩ := hq2.s hq
        have hW2 := hn2.1.Wd hWs
        have hcl : (l ++ ts ++ us).length < 160 := (by simp only [List.length_append]; omega)
        have hC3 := hC2.put hcl (4, 0)
        have hA3 := hA2.fx (fxPw (n := n) (c := (l ++ ts ++ us).length) (o := nI 4) (v := nI 0)) (by decide)
        have hW3 := (fxPw (n := n) (c := (l ++ ts ++ us).length) (o := nI 4) (v := nI 0)).Wd hW2
        have hn3 : NF n h (pw hq1 n (l ++ ts ++ us).length (nI 4) (nI 0)) := (NF.of3 ks).tr (hn2.tr (NF.pw (by omega)))
        have hd3 : am_i (pw hq1 n (l ++ ts ++ us).length (nI 4) (nI 0)) 50 5 = nI e := hd2.trans hd
        refine Eq_aln dX12_term_47 rfl ?_
        refine Eq_iln dX12_term_48 rfl ?_
        refine Eq_bp (v := nI 42) dX12_term_49 rfl ?_
        refine Ef_ic_ne dX12_term_51 (tgt := 58) rfl (by rw [ec]; rfl) ?_
        refine Eq_ic (v := nI 4) dX12_term_54 rfl ?_
        refine Eam_x_goto (tgt := 59) dX12_term_55 rfl ?_
        refine Eq_ic (v := nI 0) dX12_term_59 rfl ?_
        refine Eq_V2 (N := m_X12_put) dX12_term_60 lk_X12_139 mV_X12_put (r_put hW2 hC2.1 hC2.2.1 hC2.2.2.1 (by omega)) (by omega) (ws_50 hW2) rfl (by decide) (Nat.le_of_ble_eq_true rfl) (Nat.le_of_ble_eq_true rfl) ?_
        refine Eq_aln dX12_term_63 rfl ?_
        refine Eq_getI dX12_term_64 fl_X12_117 (ws_50 hW2) rfl (by first | exact hw2 | exact hA.2.1) ?_
        refine Eq_ic (v := -1) dX12_term_67 rfl ?_
        refine Ef_ic_ne dX12_term_68 (tgt := 78) rfl (by rfl) ?_
        refine Eq_aln dX12_term_71 rfl ?_
        refine Eq_W0 (N := m_X12_look) dX12_term_72 lk_X12_129 mV_X12_look (r_look hW3 hA3) (by omega) (ws_50 hW2) rfl (by decide) (Nat.le_of_ble_eq_true rfl) (Nat.le_of_ble_eq_true rfl) (fun vq hq1 hq2 => ?_)
        obtain ⟨rfl, hf4, hA4⟩ := hq2
        have hW4 := hf4.Wd hW3
        have hw4 : am_i hq1 50 4 = -1 := (hf4.i (by decide) (by decide)).trans hw2
        refine Eam_x_goto (tgt := 79) dX12_term_75 rfl ?_
        refine Eq_isn dX12_term_79 (by decide) ?_
        refine Eam_nl (pc' := 80) (l' := [_, _]) rfl rfl ?_
        refine Eam_x_goto (tgt := 21) dX12_term_80 rfl ?_
        obtain ⟨v5, h5, z1, z2⟩ := ih (p (nx tl tp b + 1)).1 (ts ++ us ++ [(4, 0)]) _ (by omega) hpi.2.1 hW4 hA4 (by rw [← List.append_assoc, ← List.append_assoc]; exact hC3.fx hf4 (by decide)) (by simp only [List.length_append, List.length_cons, List.length_nil]; omega) hw4 ((hf4.i (by decide) (by decide)).trans hd3)
        exact ⟨v5, h5, z1, z2.tr (hn3.tr (NF.of3 hf4)) (((hf4.i (by decide) (by decide)).trans hd3).trans hd.symm)⟩
    · have ed := ec
      clear ec
      by_cases ec : sgn tl tp (nx tl tp b) = some 47
      · have hlt := (sgn_lt ec).1
        have ho : opT (sgn tl tp (nx tl tp b)) = some 5 := by rw [ec]; rfl
        rw [chn_s ho]
        have hpi := hp (nx tl tp b + 1) (by omega)
        have ks : Fx [] [(50, 3)] h (am_wI h 50 3 (nI (nx tl tp b + 1))) := Fx.wI (Or.inr (by decide))
        have hWs := ks.Wd hW
        have hAs := hA.mv (b := nx tl tp b + 1) (by omega)
        have hCs := hC.fx ks (by decide)
        have hll : (l ++ ts).length ≤ nx tl tp b + 1 := by simp only [List.length_append]; omega
        cases hq : (p (nx tl tp b + 1)).2 with
        | none =>
          rw [bd_n hq]
          refine Eq_iln dX12_term_21 rfl ?_
          refine Eq_bp (v := nI 42) dX12_term_22 rfl ?_
          refine Ef_ic_eq dX12_term_24 (tgt := 33) rfl (by rw [ec]; exact fun z => absurd ((nI_eq (by omega) (by omega)).mp z) (by decide)) ?_
          refine Eq_iln dX12_term_27 rfl ?_
          refine Eq_bp (v := nI 47) dX12_term_28 rfl ?_
          refine Ef_ic_ne dX12_term_30 (tgt := 83) rfl (by rw [ec]; rfl) ?_
          refine Eq_aln dX12_term_33 rfl ?_
          refine Eam_x_pu dX12_term_34 rfl ?_
          refine Eq_getI dX12_term_35 fl_X12_110 (ws_50 hW) rfl (by first | exact hw2 | exact hA.2.1) ?_
          refine Eq_ic (v := nI 1) dX12_term_38 rfl ?_
          first | refine Eq_add dX12_term_39 ?_ | refine Eam_x_pu dX12_term_39 rfl ?_
          refine Eam_x_putI dX12_term_40 (fw_X12_110 rfl) (ws_50 hW) (Or.inl rfl) ?_
          refine Eq_aln dX12_term_43 rfl ?_
          refine Eq_W0 (N := m_X12_atom) dX12_term_44 lk_X12_157 mV_X12_atom (hs _ _ _ hWs hAs (by omega) hCs hll hw hd) (by omega) (ws_50 hW) rfl (by decide) (Nat.le_of_ble_eq_true rfl) (Nat.le_of_ble_eq_true rfl) (fun vq hq1 hq2 => ?_)
          obtain ⟨rfl, hn2, hw2, b2, c, hA2, hb2, hc2, hc3⟩ := hq2.n hq
          have hW2 := hn2.1.Wd hWs
          have hcl : c < 340 := (by simp only [List.length_append] at hc3; omega)
          refine Eq_aln dX12_term_47 rfl ?_
          refine Eq_iln dX12_term_48 rfl ?_
          refine Eq_bp (v := nI 42) dX12_term_49 rfl ?_
          refine Et_ic_ne 58 dX12_term_51 rfl (by rw [ec]; exact fun z => absurd ((nI_eq (by omega) (by omega)).mp z) (by decide)) ?_
          refine Eq_ic (v := nI 5) dX12_term_58 rfl ?_
          refine Eq_ic (v := nI 0) dX12_term_59 rfl ?_
          refine Eq_V2 (N := m_X12_put) dX12_term_60 lk_X12_139 mV_X12_put (r_put hW2 (hn2.t.trans hCs.1) hCs.2.1 hc2 hcl) (by omega) (ws_50 hW2) rfl (by decide) (Nat.le_of_ble_eq_true rfl) (Nat.le_of_ble_eq_true rfl) ?_
          refine Eq_aln dX12_term_63 rfl ?_
          refine Eq_getI dX12_term_64 fl_X12_117 (ws_50 hW2) rfl (by first | exact hw2 | exact hA.2.1) ?_
          refine Eq_ic (v := -1) dX12_term_67 rfl ?_
          refine Et_ic_ne 78 dX12_term_68 rfl (by exact nI_m1 (by omega)) ?_
          refine Eq_ic (v := -1) dX12_term_78 rfl ?_
          refine Eq_isn dX12_term_79 (by decide) ?_
          refine Eam_nl (pc' := 80) (l' := [_, _]) rfl rfl ?_
          refine Eam_x_goto (tgt := 21) dX12_term_80 rfl ?_
          refine r_term_end ⟨rfl, (NF.of3 ks).tr (hn2.tr (NF.pw hcl)), hw2, ⟨_, hA2.fx fxPw (by decide), hb2⟩, c + 1, pw54, ?_⟩
          simp only [List.length_append] at hc3
          dsimp only
          omega
        | some us =>
          rw [bd_s hq]
          have hul := hpi.2.2 us hq
          refine Eq_iln dX12_term_21 rfl ?_
          refine Eq_bp (v := nI 42) dX12_term_22 rfl ?_
          refine Ef_ic_eq dX12_term_24 (tgt := 33) rfl (by rw [ec]; exact fun z => absurd ((nI_eq (by omega) (by omega)).mp z) (by decide)) ?_
          refine Eq_iln dX12_term_27 rfl ?_
          refine Eq_bp (v := nI 47) dX12_term_28 rfl ?_
          refine Ef_ic_ne dX12_term_30 (tgt := 83) rfl (by rw [ec]; rfl) ?_
          refine Eq_aln dX12_term_33 rfl ?_
          refine Eam_x_pu dX12_term_34 rfl ?_
          refine Eq_getI dX12_term_35 fl_X12_110 (ws_50 hW) rfl (by first | exact hw2 | exact hA.2.1) ?_
          refine Eq_ic (v := nI 1) dX12_term_38 rfl ?_
          first | refine Eq_add dX12_term_39 ?_ | refine Eam_x_pu dX12_term_39 rfl ?_
          refine Eam_x_putI dX12_term_40 (fw_X12_110 rfl) (ws_50 hW) (Or.inl rfl) ?_
          refine Eq_aln dX12_term_43 rfl ?_
          refine Eq_W0 (N := m_X12_atom) dX12_term_44 lk_X12_157 mV_X12_atom (hs _ _ _ hWs hAs (by omega) hCs hll hw hd) (by omega) (ws_50 hW) rfl (by decide) (Nat.le_of_ble_eq_true rfl) (Nat.le_of_ble_eq_true rfl) (fun vq hq1 hq2 => ?_)
          obtain ⟨rfl, hn2, hw2, hA2, hC2, hd2⟩ := hq2.s hq
          have hW2 := hn2.1.Wd hWs
          have hcl : (l ++ ts ++ us).length < 160 := (by simp only [List.length_append]; omega)
          have hC3 := hC2.put hcl (5, 0)
          have hA3 := hA2.fx (fxPw (n := n) (c := (l ++ ts ++ us).length) (o := nI 5) (v := nI 0)) (by decide)
          have hW3 := (fxPw (n := n) (c := (l ++ ts ++ us).length) (o := nI 5) (v := nI 0)).Wd hW2
          have hn3 : NF n h (pw hq1 n (l ++ ts ++ us).length (nI 5) (nI 0)) := (NF.of3 ks).tr (hn2.tr (NF.pw (by omega)))
          have hd3 : am_i (pw hq1 n (l ++ ts ++ us).length (nI 5) (nI 0)) 50 5 = nI e := hd2.trans hd
          refine Eq_aln dX12_term_47 rfl ?_
          refine Eq_iln dX12_term_48 rfl ?_
          refine Eq_bp (v := nI 42) dX12_term_49 rfl ?_
          refine Et_ic_ne 58 dX12_term_51 rfl (by rw [ec]; exact fun z => absurd ((nI_eq (by omega) (by omega)).mp z) (by decide)) ?_
          refine Eq_ic (v := nI 5) dX12_term_58 rfl ?_
          refine Eq_ic (v := nI 0) dX12_term_59 rfl ?_
          refine Eq_V2 (N := m_X12_put) dX12_term_60 lk_X12_139 mV_X12_put (r_put hW2 hC2.1 hC2.2.1 hC2.2.2.1 (by omega)) (by omega) (ws_50 hW2) rfl (by decide) (Nat.le_of_ble_eq_true rfl) (Nat.le_of_ble_eq_true rfl) ?_
          refine Eq_aln dX12_term_63 rfl ?_
          refine Eq_getI dX12_term_64 fl_X12_117 (ws_50 hW2) rfl (by first | exact hw2 | exact hA.2.1) ?_
          refine Eq_ic (v := -1) dX12_term_67 rfl ?_
          refine Ef_ic_ne dX12_term_68 (tgt := 78) rfl (by rfl) ?_
          refine Eq_aln dX12_term_71 rfl ?_
          refine Eq_W0 (N := m_X12_look) dX12_term_72 lk_X12_129 mV_X12_look (r_look hW3 hA3) (by omega) (ws_50 hW2) rfl (by decide) (Nat.le_of_ble_eq_true rfl) (Nat.le_of_ble_eq_true rfl) (fun vq hq1 hq2 => ?_)
          obtain ⟨rfl, hf4, hA4⟩ := hq2
          have hW4 := hf4.Wd hW3
          have hw4 : am_i hq1 50 4 = -1 := (hf4.i (by decide) (by decide)).trans hw2
          refine Eam_x_goto (tgt := 79) dX12_term_75 rfl ?_
          refine Eq_isn dX12_term_79 (by decide) ?_
          refine Eam_nl (pc' := 80) (l' := [_, _]) rfl rfl ?_
          refine Eam_x_goto (tgt := 21) dX12_term_80 rfl ?_
          obtain ⟨v5, h5, z1, z2⟩ := ih (p (nx tl tp b + 1)).1 (ts ++ us ++ [(5, 0)]) _ (by omega) hpi.2.1 hW4 hA4 (by rw [← List.append_assoc, ← List.append_assoc]; exact hC3.fx hf4 (by decide)) (by simp only [List.length_append, List.length_cons, List.length_nil]; omega) hw4 ((hf4.i (by decide) (by decide)).trans hd3)
          exact ⟨v5, h5, z1, z2.tr (hn3.tr (NF.of3 hf4)) (((hf4.i (by decide) (by decide)).trans hd3).trans hd.symm)⟩
      · have ho : opT (sgn tl tp (nx tl tp b)) = none := by unfold opT; rw [if_neg ed, if_neg ec]
        rw [chn_n ho]
        refine Eq_iln dX12_term_21 rfl ?_
        refine Eq_bp (v := nI 42) dX12_term_22 rfl ?_
        refine Ef_ic_eq dX12_term_24 (tgt := 33) rfl (by exact fun z => ed ((oNlt (fun k hk => by have := h2 k hk; omega) 42 (by omega)).mp z)) ?_
        refine Eq_iln dX12_term_27 rfl ?_
        refine Eq_bp (v := nI 47) dX12_term_28 rfl ?_
        refine Et_ic_ne 83 dX12_term_30 rfl (by exact fun z => ec ((oNlt (fun k hk => by have := h2 k hk; omega) 47 (by omega)).mp z)) ?_
        refine Eq_vr dX12_term_83 rfl ?_
        exact ⟨rfl, NF.rf, hw, hA, hC, rfl⟩
set_option maxHeartbeats 2000000 in
theorem r_term {tl : Nat} {tp : Nat → Nat} {n d e L : Nat} {p : Nat → Rd} (hs : RSC tl tp n m_X12_atom d e L p) (hp : Prs tl p) (hdd : 2 ≤ d) : RSC tl tp n m_X12_term (d + 1) e L (chs tl tp opT p) := by
  intro h a l hW hA hal hC hl hw hd
  have htl := hA.1.2.1
  have hpi := hp a hal
  unfold chs
  cases hq : (p a).2 with
  | none =>
    rw [bd_n hq]
    refine Eq_aln dX12_term_0 rfl ?_
    refine Eq_W0 (N := m_X12_atom) dX12_term_1 lk_X12_157 mV_X12_atom (hs _ _ _ hW hA hal hC hl hw hd) (by omega) (ws_50 hW) rfl (by decide) (Nat.le_of_ble_eq_true rfl) (Nat.le_of_ble_eq_true rfl) (fun vq hq1 hq2 => ?_)
    have hq3 := hq2.n hq
    obtain ⟨rfl, hn2, hw2, hr2⟩ := hq3
    have hW2 := hn2.1.Wd hW
    refine Eq_aln dX12_term_4 rfl ?_
    refine Eq_getI dX12_term_5 fl_X12_117 (ws_50 hW2) rfl hw2 ?_
    refine Eq_ic (v := -1) dX12_term_8 rfl ?_
    refine Et_ic_ne 19 dX12_term_9 rfl (by exact nI_m1 (by omega)) ?_
    refine Eq_ic (v := -1) dX12_term_19 rfl ?_
    refine Eq_isn dX12_term_20 (by decide) ?_
    refine Eam_nl (pc' := 21) (l' := [_, _]) rfl rfl ?_
    refine r_term_end ?_
    unfold RP at hq2 ⊢
    simp only [hq] at hq2 ⊢
    exact hq2
  | some ts =>
    rw [bd_s hq]
    have hul := hpi.2.2 ts hq
    refine Eq_aln dX12_term_0 rfl ?_
    refine Eq_W0 (N := m_X12_atom) dX12_term_1 lk_X12_157 mV_X12_atom (hs _ _ _ hW hA hal hC hl hw hd) (by omega) (ws_50 hW) rfl (by decide) (Nat.le_of_ble_eq_true rfl) (Nat.le_of_ble_eq_true rfl) (fun vq hq1 hq2 => ?_)
    obtain ⟨rfl, hn2, hw2, hA2, hC2, hd2⟩ := hq2.s hq
    have hW2 := hn2.1.Wd hW
    refine Eq_aln dX12_term_4 rfl ?_
    refine Eq_getI dX12_term_5 fl_X12_117 (ws_50 hW2) rfl hw2 ?_
    refine Eq_ic (v := -1) dX12_term_8 rfl ?_
    refine Ef_ic_ne dX12_term_9 (tgt := 19) rfl (by rfl) ?_
    refine Eq_aln dX12_term_12 rfl ?_
    refine Eq_W0 (N := m_X12_look) dX12_term_13 lk_X12_129 mV_X12_look (r_look hW2 hA2) (by omega) (ws_50 hW2) rfl (by decide) (Nat.le_of_ble_eq_true rfl) (Nat.le_of_ble_eq_true rfl) (fun vq hq1 hq2 => ?_)
    obtain ⟨rfl, hf4, hA4⟩ := hq2
    have hW4 := hf4.Wd hW2
    have hw4 : am_i hq1 50 4 = -1 := (hf4.i (by decide) (by decide)).trans hw2
    have hd4 : am_i hq1 50 5 = nI e := ((hf4.i (by decide) (by decide)).trans hd2).trans hd
    refine Eam_x_goto (tgt := 20) dX12_term_16 rfl ?_
    refine Eq_isn dX12_term_20 (by decide) ?_
    refine Eam_nl (pc' := 21) (l' := [_, _]) rfl rfl ?_
    obtain ⟨v5, h5, z1, z2⟩ := r_term_lp (a := a) hs hp hdd hl htl 161 (p a).1 ts _ (by omega) hpi.2.1 hW4 hA4 (hC2.fx hf4 (by decide)) hul.1 hw4 hd4
    exact ⟨v5, h5, z1, z2.tr (hn2.tr (NF.of3 hf4)) (hd4.trans hd.symm)⟩
set_option maxHeartbeats 2000000 in
theorem r_sum_end {h : am_H} {d : Nat} {P : Option Value → am_H → Prop} (hP : P none h) : am_E d m_X12_sum 21 [some (.ref 50), some (.int (-1))] [] h P := by
  refine Eq_iln dX12_sum_21 rfl ?_
  refine Eq_bp (v := nI 43) dX12_sum_22 rfl ?_
  refine Ef_ic_eq dX12_sum_24 (tgt := 33) rfl (by decide +kernel) ?_
  refine Eq_iln dX12_sum_27 rfl ?_
  refine Eq_bp (v := nI 45) dX12_sum_28 rfl ?_
  refine Et_ic_ne 83 dX12_sum_30 rfl (by decide +kernel) ?_
  refine Eq_vr dX12_sum_83 rfl ?_
  exact hP
set_option maxHeartbeats 2000000 in
theorem r_sum_lp {tl : Nat} {tp : Nat → Nat} {n d e L a : Nat} {p : Nat → Rd} (hs : RSC tl tp n m_X12_term d e L p) (hp : Prs tl p) (hdd : 2 ≤ d) {l : Tks} (hla : l.length ≤ a) (htl : tl ≤ 160) : ∀ k b ts h, tl < b + k → b ≤ tl → Wd h → RA h tl tp (nx tl tp b) → CW h n (l ++ ts) → a + ts.length ≤ b → am_i h 50 4 = -1 → am_i h 50 5 = nI e → am_E (d + 1) m_X12_sum 21 [some (.ref 50), some (.int (oN (sgn tl tp (nx tl tp b))))] [] h (RP tl tp n (chn tl tp opS p k b ts) a L l h) := by
  intro k
  induction k with
  | zero => intro b ts h hk hb; omega
  | succ k ih =>
    intro b ts h hk hb hW hA hC hl hw hd
    have h2 := rsgn256 hA (nx tl tp b)
    have hx1 := nx_ge (tl := tl) (tp := tp) (a := b)
    have hx2 := nx_le (tp := tp) hb
    by_cases ec : sgn tl tp (nx tl tp b) = some 43
    · have hlt := (sgn_lt ec).1
      have ho : opS (sgn tl tp (nx tl tp b)) = some 2 := by rw [ec]; rfl
      rw [chn_s ho]
      have hpi := hp (nx tl tp b + 1) (by omega)
      have ks : Fx [] [(50, 3)] h (am_wI h 50 3 (nI (nx tl tp b + 1))) := Fx.wI (Or.inr (by decide))
      have hWs := ks.Wd hW
      have hAs := hA.mv (b := nx tl tp b + 1) (by omega)
      have hCs := hC.fx ks (by decide)
      have hll : (l ++ ts).length ≤ nx tl tp b + 1 := by simp only [List.length_append]; omega
      cases hq : (p (nx tl tp b + 1)).2 with
      | none =>
        rw [bd_n hq]
        refine Eq_iln dX12_sum_21 rfl ?_
        refine Eq_bp (v := nI 43) dX12_sum_22 rfl ?_
        refine Et_ic_eq 33 dX12_sum_24 rfl (by rw [ec]; rfl) ?_
        refine Eq_aln dX12_sum_33 rfl ?_
        refine Eam_x_pu dX12_sum_34 rfl ?_
        refine Eq_getI dX12_sum_35 fl_X12_110 (ws_50 hW) rfl (by first | exact hw2 | exact hA.2.1) ?_
        refine Eq_ic (v := nI 1) dX12_sum_38 rfl ?_
        first | refine Eq_add dX12_sum_39 ?_ | refine Eam_x_pu dX12_sum_39 rfl ?_
        refine Eam_x_putI dX12_sum_40 (fw_X12_110 rfl) (ws_50 hW) (Or.inl rfl) ?_
        refine Eq_aln dX12_sum_43 rfl ?_
        refine Eq_W0 (N := m_X12_term) dX12_sum_44 lk_X12_160 mV_X12_term (hs _ _ _ hWs hAs (by omega) hCs hll hw hd) (by omega) (ws_50 hW) rfl (by decide) (Nat.le_of_ble_eq_true rfl) (Nat.le_of_ble_eq_true rfl) (fun vq hq1 hq2 => ?_)
        obtain ⟨rfl, hn2, hw2, b2, c, hA2, hb2, hc2, hc3⟩ := hq2.n hq
        have hW2 := hn2.1.Wd hWs
        have hcl : c < 340 := (by simp only [List.length_append] at hc3; omega)
        refine Eq_aln dX12_sum_47 rfl ?_
        refine Eq_iln dX12_sum_48 rfl ?_
        refine Eq_bp (v := nI 43) dX12_sum_49 rfl ?_
        refine Ef_ic_ne dX12_sum_51 (tgt := 58) rfl (by rw [ec]; rfl) ?_
        refine Eq_ic (v := nI 2) dX12_sum_54 rfl ?_
        refine Eam_x_goto (tgt := 59) dX12_sum_55 rfl ?_
        refine Eq_ic (v := nI 0) dX12_sum_59 rfl ?_
        refine Eq_V2 (N := m_X12_put) dX12_sum_60 lk_X12_139 mV_X12_put (r_put hW2 (hn2.t.trans hCs.1) hCs.2.1 hc2 hcl) (by omega) (ws_50 hW2) rfl (by decide) (Nat.le_of_ble_eq_true rfl) (Nat.le_of_ble_eq_true rfl) ?_
        refine Eq_aln dX12_sum_63 rfl ?_
        refine Eq_getI dX12_sum_64 fl_X12_117 (ws_50 hW2) rfl (by first | exact hw2 | exact hA.2.1) ?_
        refine Eq_ic (v := -1) dX12_sum_67 rfl ?_
        refine Et_ic_ne 78 dX12_sum_68 rfl (by exact nI_m1 (by omega)) ?_
        refine Eq_ic (v := -1) dX12_sum_78 rfl ?_
        refine Eq_isn dX12_sum_79 (by decide) ?_
        refine Eam_nl (pc' := 80) (l' := [_, _]) rfl rfl ?_
        refine Eam_x_goto (tgt := 21) dX12_sum_80 rfl ?_
        refine r_sum_end ⟨rfl, (NF.of3 ks).tr (hn2.tr (NF.pw hcl)), hw2, ⟨_, hA2.fx fxPw (by decide), hb2⟩, c + 1, pw54, ?_⟩
        simp only [List.length_append] at hc3
        dsimp only
        omega
      | some us =>
        rw [bd_s hq]
        have hul := hpi.2.2 us hq
        refine Eq_iln dX12_sum_21 rfl ?_
        refine Eq_bp (v := nI 43) dX12_sum_22 rfl ?_
        refine Et_ic_eq 33 dX12_sum_24 rfl (by rw [ec]; rfl) ?_
        refine Eq_aln dX12_sum_33 rfl ?_
        refine Eam_x_pu dX12_sum_34 rfl ?_
        refine Eq_getI dX12_sum_35 fl_X12_110 (ws_50 hW) rfl (by first | exact hw2 | exact hA.2.1) ?_
        refine Eq_ic (v := nI 1) dX12_sum_38 rfl ?_
        first | refine Eq_add dX12_sum_39 ?_ | refine Eam_x_pu dX12_sum_39 rfl ?_
        refine Eam_x_putI dX12_sum_40 (fw_X12_110 rfl) (ws_50 hW) (Or.inl rfl) ?_
        refine Eq_aln dX12_sum_43 rfl ?_
        refine Eq_W0 (N := m_X12_term) dX12_sum_44 lk_X12_160 mV_X12_term (hs _ _ _ hWs hAs (by omega) hCs hll hw hd) (by omega) (ws_50 hW) rfl (by decide) (Nat.le_of_ble_eq_true rfl) (Nat.le_of_ble_eq_true rfl) (fun vq hq1 hq2 => ?_)
        obtain ⟨rfl, hn2, hw2, hA2, hC2, hd2⟩ := hq2.s hq
        have hW2 := hn2.1.Wd hWs
        have hcl : (l ++ ts ++ us).length < 160 := (by simp only [List.length_append]; omega)
        have hC3 := hC2.put hcl (2, 0)
        have hA3 := hA2.fx (fxPw (n := n) (c := (l ++ ts ++ us).length) (o := nI 2) (v := nI 0)) (by decide)
        have hW3 := (fxPw (n := n) (c := (l ++ ts ++ us).length) (o := nI 2) (v := nI 0)).Wd hW2
        have hn3 : NF n h (pw hq1 n (l ++ ts ++ us).length (nI 2) (nI 0)) := (NF.of3 ks).tr (hn2.tr (NF.pw (by omega)))
        have hd3 : am_i (pw hq1 n (l ++ ts ++ us).length (nI 2) (nI 0)) 50 5 = nI e := hd2.trans hd
        refine Eq_aln dX12_sum_47 rfl ?_
        refine Eq_iln dX12_sum_48 rfl ?_
        refine Eq_bp (v := nI 43) dX12_sum_49 rfl ?_
        refine Ef_ic_ne dX12_sum_51 (tgt := 58) rfl (by rw [ec]; rfl) ?_
        refine Eq_ic (v := nI 2) dX12_sum_54 rfl ?_
        refine Eam_x_goto (tgt := 59) dX12_sum_55 rfl ?_
        refine Eq_ic (v := nI 0) dX12_sum_59 rfl ?_
        refine Eq_V2 (N := m_X12_put) dX12_sum_60 lk_X12_139 mV_X12_put (r_put hW2 hC2.1 hC2.2.1 hC2.2.2.1 (by omega)) (by omega) (ws_50 hW2) rfl (by decide) (Nat.le_of_ble_eq_true rfl) (Nat.le_of_ble_eq_true rfl) ?_
        refine Eq_aln dX12_sum_63 rfl ?_
        refine Eq_getI dX12_sum_64 fl_X12_117 (ws_50 hW2) rfl (by first | exact hw2 | exact hA.2.1) ?_
        refine Eq_ic (v := -1) dX12_sum_67 rfl ?_
        refine Ef_ic_ne dX12_sum_68 (tgt := 78) rfl (by rfl) ?_
        refine Eq_aln dX12_sum_71 rfl ?_
        refine Eq_W0 (N := m_X12_look) dX12_sum_72 lk_X12_129 mV_X12_look (r_look hW3 hA3) (by omega) (ws_50 hW2) rfl (by decide) (Nat.le_of_ble_eq_true rfl) (Nat.le_of_ble_eq_true rfl) (fun vq hq1 hq2 => ?_)
        obtain ⟨rfl, hf4, hA4⟩ := hq2
        have hW4 := hf4.Wd hW3
        have hw4 : am_i hq1 50 4 = -1 := (hf4.i (by decide) (by decide)).trans hw2
        refine Eam_x_goto (tgt := 79) dX12_sum_75 rfl ?_
        refine Eq_isn dX12_sum_79 (by decide) ?_
        refine Eam_nl (pc' := 80) (l' := [_, _]) rfl rfl ?_
        refine Eam_x_goto (tgt := 21) dX12_sum_80 rfl ?_
        obtain ⟨v5, h5, z1, z2⟩ := ih (p (nx tl tp b + 1)).1 (ts ++ us ++ [(2, 0)]) _ (by omega) hpi.2.1 hW4 hA4 (by rw [← List.append_assoc, ← List.append_assoc]; exact hC3.fx hf4 (by decide)) (by simp only [List.length_append, List.length_cons, List.length_nil]; omega) hw4 ((hf4.i (by decide) (by decide)).trans hd3)
        exact ⟨v5, h5, z1, z2.tr (hn3.tr (NF.of3 hf4)) (((hf4.i (by decide) (by decide)).trans hd3).trans hd.symm)⟩
    · have ed := ec
      clear ec
      by_cases ec : sgn tl tp (nx tl tp b) = some 45
      · have hlt := (sgn_lt ec).1
        have ho : opS (sgn tl tp (nx tl tp b)) = some 3 := by rw [ec]; rfl
        rw [chn_s ho]
        have hpi := hp (nx tl tp b + 1) (by omega)
        have ks : Fx [] [(50, 3)] h (am_wI h 50 3 (nI (nx tl tp b + 1))) := Fx.wI (Or.inr (by decide))
        have hWs := ks.Wd hW
        have hAs := hA.mv (b := nx tl tp b + 1) (by omega)
        have hCs := hC.fx ks (by decide)
        have hll : (l ++ ts).length ≤ nx tl tp b + 1 := by simp only [List.length_append]; omega
        cases hq : (p (nx tl tp b + 1)).2 with
        | none =>
          rw [bd_n hq]
          refine Eq_iln dX12_sum_21 rfl ?_
          refine Eq_bp (v := nI 43) dX12_sum_22 rfl ?_
          refine Ef_ic_eq dX12_sum_24 (tgt := 33) rfl (by rw [ec]; exact fun z => absurd ((nI_eq (by omega) (by omega)).mp z) (by decide)) ?_
          refine Eq_iln dX12_sum_27 rfl ?_
          refine Eq_bp (v := nI 45) dX12_sum_28 rfl ?_
          refine Ef_ic_ne dX12_sum_30 (tgt := 83) rfl (by rw [ec]; rfl) ?_
          refine Eq_aln dX12_sum_33 rfl ?_
          refine Eam_x_pu dX12_sum_34 rfl ?_
          refine Eq_getI dX12_sum_35 fl_X12_110 (ws_50 hW) rfl (by first | exact hw2 | exact hA.2.1) ?_
          refine Eq_ic (v := nI 1) dX12_sum_38 rfl ?_
          first | refine Eq_add dX12_sum_39 ?_ | refine Eam_x_pu dX12_sum_39 rfl ?_
          refine Eam_x_putI dX12_sum_40 (fw_X12_110 rfl) (ws_50 hW) (Or.inl rfl) ?_
          refine Eq_aln dX12_sum_43 rfl ?_
          refine Eq_W0 (N := m_X12_term) dX12_sum_44 lk_X12_160 mV_X12_term (hs _ _ _ hWs hAs (by omega) hCs hll hw hd) (by omega) (ws_50 hW) rfl (by decide) (Nat.le_of_ble_eq_true rfl) (Nat.le_of_ble_eq_true rfl) (fun vq hq1 hq2 => ?_)
          obtain ⟨rfl, hn2, hw2, b2, c, hA2, hb2, hc2, hc3⟩ := hq2.n hq
          have hW2 := hn2.1.Wd hWs
          have hcl : c < 340 := (by simp only [List.length_append] at hc3; omega)
          refine Eq_aln dX12_sum_47 rfl ?_
          refine Eq_iln dX12_sum_48 rfl ?_
          refine Eq_bp (v := nI 43) dX12_sum_49 rfl ?_
          refine Et_ic_ne 58 dX12_sum_51 rfl (by rw [ec]; exact fun z => absurd ((nI_eq (by omega) (by omega)).mp z) (by decide)) ?_
          refine Eq_ic (v := nI 3) dX12_sum_58 rfl ?_
          refine Eq_ic (v := nI 0) dX12_sum_59 rfl ?_
          refine Eq_V2 (N := m_X12_put) dX12_sum_60 lk_X12_139 mV_X12_put (r_put hW2 (hn2.t.trans hCs.1) hCs.2.1 hc2 hcl) (by omega) (ws_50 hW2) rfl (by decide) (Nat.le_of_ble_eq_true rfl) (Nat.le_of_ble_eq_true rfl) ?_
          refine Eq_aln dX12_sum_63 rfl ?_
          refine Eq_getI dX12_sum_64 fl_X12_117 (ws_50 hW2) rfl (by first | exact hw2 | exact hA.2.1) ?_
          refine Eq_ic (v := -1) dX12_sum_67 rfl ?_
          refine Et_ic_ne 78 dX12_sum_68 rfl (by exact nI_m1 (by omega)) ?_
          refine Eq_ic (v := -1) dX12_sum_78 rfl ?_
          refine Eq_isn dX12_sum_79 (by decide) ?_
          refine Eam_nl (pc' := 80) (l' := [_, _]) rfl rfl ?_
          refine Eam_x_goto (tgt := 21) dX12_sum_80 rfl ?_
          refine r_sum_end ⟨rfl, (NF.of3 ks).tr (hn2.tr (NF.pw hcl)), hw2, ⟨_, hA2.fx fxPw (by decide), hb2⟩, c + 1, pw54, ?_⟩
          simp only [List.length_append] at hc3
          dsimp only
          omega
        | some us =>
          rw [bd_s hq]
          have hul := hpi.2.2 us hq
          refine Eq_iln dX12_sum_21 rfl ?_
          refine Eq_bp (v := nI 43) dX12_sum_22 rfl ?_
          refine Ef_ic_eq dX12_sum_24 (tgt := 33) rfl (by rw [ec]; exact fun z => absurd ((nI_eq (by omega) (by omega)).mp z) (by decide)) ?_
          refine Eq_iln dX12_sum_27 rfl ?_
          refine Eq_bp (v := nI 45) dX12_sum_28 rfl ?_
          refine Ef_ic_ne dX12_sum_30 (tgt := 83) rfl (by rw [ec]; rfl) ?_
          refine Eq_aln dX12_sum_33 rfl ?_
          refine Eam_x_pu dX12_sum_34 rfl ?_
          refine Eq_getI dX12_sum_35 fl_X12_110 (ws_50 hW) rfl (by first | exact hw2 | exact hA.2.1) ?_
          refine Eq_ic (v := nI 1) dX12_sum_38 rfl ?_
          first | refine Eq_add dX12_sum_39 ?_ | refine Eam_x_pu dX12_sum_39 rfl ?_
          refine Eam_x_putI dX12_sum_40 (fw_X12_110 rfl) (ws_50 hW) (Or.inl rfl) ?_
          refine Eq_aln dX12_sum_43 rfl ?_
          refine Eq_W0 (N := m_X12_term) dX12_sum_44 lk_X12_160 mV_X12_term (hs _ _ _ hWs hAs (by omega) hCs hll hw hd) (by omega) (ws_50 hW) rfl (by decide) (Nat.le_of_ble_eq_true rfl) (Nat.le_of_ble_eq_true rfl) (fun vq hq1 hq2 => ?_)
          obtain ⟨rfl, hn2, hw2, hA2, hC2, hd2⟩ := hq2.s hq
          have hW2 := hn2.1.Wd hWs
          have hcl : (l ++ ts ++ us).length < 160 := (by simp only [List.length_append]; omega)
          have hC3 := hC2.put hcl (3, 0)
          have hA3 := hA2.fx (fxPw (n := n) (c := (l ++ ts ++ us).length) (o := nI 3) (v := nI 0)) (by decide)
          have hW3 := (fxPw (n := n) (c := (l ++ ts ++ us).length) (o := nI 3) (v := nI 0)).Wd hW2
          have hn3 : NF n h (pw hq1 n (l ++ ts ++ us).length (nI 3) (nI 0)) := (NF.of3 ks).tr (hn2.tr (NF.pw (by omega)))
          have hd3 : am_i (pw hq1 n (l ++ ts ++ us).length (nI 3) (nI 0)) 50 5 = nI e := hd2.trans hd
          refine Eq_aln dX12_sum_47 rfl ?_
          refine Eq_iln dX12_sum_48 rfl ?_
          refine Eq_bp (v := nI 43) dX12_sum_49 rfl ?_
          refine Et_ic_ne 58 dX12_sum_51 rfl (by rw [ec]; exact fun z => absurd ((nI_eq (by omega) (by omega)).mp z) (by decide)) ?_
          refine Eq_ic (v := nI 3) dX12_sum_58 rfl ?_
          refine Eq_ic (v := nI 0) dX12_sum_59 rfl ?_
          refine Eq_V2 (N := m_X12_put) dX12_sum_60 lk_X12_139 mV_X12_put (r_put hW2 hC2.1 hC2.2.1 hC2.2.2.1 (by omega)) (by omega) (ws_50 hW2) rfl (by decide) (Nat.le_of_ble_eq_true rfl) (Nat.le_of_ble_eq_true rfl) ?_
          refine Eq_aln dX12_sum_63 rfl ?_
          refine Eq_getI dX12_sum_64 fl_X12_117 (ws_50 hW2) rfl (by first | exact hw2 | exact hA.2.1) ?_
          refine Eq_ic (v := -1) dX12_sum_67 rfl ?_
          refine Ef_ic_ne dX12_sum_68 (tgt := 78) rfl (by rfl) ?_
          refine Eq_aln dX12_sum_71 rfl ?_
          refine Eq_W0 (N := m_X12_look) dX12_sum_72 lk_X12_129 mV_X12_look (r_look hW3 hA3) (by omega) (ws_50 hW2) rfl (by decide) (Nat.le_of_ble_eq_true rfl) (Nat.le_of_ble_eq_true rfl) (fun vq hq1 hq2 => ?_)
          obtain ⟨rfl, hf4, hA4⟩ := hq2
          have hW4 := hf4.Wd hW3
          have hw4 : am_i hq1 50 4 = -1 := (hf4.i (by decide) (by decide)).trans hw2
          refine Eam_x_goto (tgt := 79) dX12_sum_75 rfl ?_
          refine Eq_isn dX12_sum_79 (by decide) ?_
          refine Eam_nl (pc' := 80) (l' := [_, _]) rfl rfl ?_
          refine Eam_x_goto (tgt := 21) dX12_sum_80 rfl ?_
          obtain ⟨v5, h5, z1, z2⟩ := ih (p (nx tl tp b + 1)).1 (ts ++ us ++ [(3, 0)]) _ (by omega) hpi.2.1 hW4 hA4 (by rw [← List.append_assoc, ← List.append_assoc]; exact hC3.fx hf4 (by decide)) (by simp only [List.length_append, List.length_cons, List.length_nil]; omega) hw4 ((hf4.i (by decide) (by decide)).trans hd3)
          exact ⟨v5, h5, z1, z2.tr (hn3.tr (NF.of3 hf4)) (((hf4.i (by decide) (by decide)).trans hd3).trans hd.symm)⟩
      · have ho : opS (sgn tl tp (nx tl tp b)) = none := by unfold opS; rw [if_neg ed, if_neg ec]
        rw [chn_n ho]
        refine Eq_iln dX12_sum_21 rfl ?_
        refine Eq_bp (v := nI 43) dX12_sum_22 rfl ?_
        refine Ef_ic_eq dX12_sum_24 (tgt := 33) rfl (by exact fun z => ed ((oNlt (fun k hk => by have := h2 k hk; omega) 43 (by omega)).mp z)) ?_
        refine Eq_iln dX12_sum_27 rfl ?_
        refine Eq_bp (v := nI 45) dX12_sum_28 rfl ?_
        refine Et_ic_ne 83 dX12_sum_30 rfl (by exact fun z => ec ((oNlt (fun k hk => by have := h2 k hk; omega) 45 (by omega)).mp z)) ?_
        refine Eq_vr dX12_sum_83 rfl ?_
        exact ⟨rfl, NF.rf, hw, hA, hC, rfl⟩
set_option maxHeartbeats 2000000 in
theorem r_sum {tl : Nat} {tp : Nat → Nat} {n d e L : Nat} {p : Nat → Rd} (hs : RSC tl tp n m_X12_term d e L p) (hp : Prs tl p) (hdd : 2 ≤ d) : RSC tl tp n m_X12_sum (d + 1) e L (chs tl tp opS p) := by
  intro h a l hW hA hal hC hl hw hd
  have htl := hA.1.2.1
  have hpi := hp a hal
  unfold chs
  cases hq : (p a).2 with
  | none =>
    rw [bd_n hq]
    refine Eq_aln dX12_sum_0 rfl ?_
    refine Eq_W0 (N := m_X12_term) dX12_sum_1 lk_X12_160 mV_X12_term (hs _ _ _ hW hA hal hC hl hw hd) (by omega) (ws_50 hW) rfl (by decide) (Nat.le_of_ble_eq_true rfl) (Nat.le_of_ble_eq_true rfl) (fun vq hq1 hq2 => ?_)
    have hq3 := hq2.n hq
    obtain ⟨rfl, hn2, hw2, hr2⟩ := hq3
    have hW2 := hn2.1.Wd hW
    refine Eq_aln dX12_sum_4 rfl ?_
    refine Eq_getI dX12_sum_5 fl_X12_117 (ws_50 hW2) rfl hw2 ?_
    refine Eq_ic (v := -1) dX12_sum_8 rfl ?_
    refine Et_ic_ne 19 dX12_sum_9 rfl (by exact nI_m1 (by omega)) ?_
    refine Eq_ic (v := -1) dX12_sum_19 rfl ?_
    refine Eq_isn dX12_sum_20 (by decide) ?_
    refine Eam_nl (pc' := 21) (l' := [_, _]) rfl rfl ?_
    refine r_sum_end ?_
    unfold RP at hq2 ⊢
    simp only [hq] at hq2 ⊢
    exact hq2
  | some ts =>
    rw [bd_s hq]
    have hul := hpi.2.2 ts hq
    refine Eq_aln dX12_sum_0 rfl ?_
    refine Eq_W0 (N := m_X12_term) dX12_sum_1 lk_X12_160 mV_X12_term (hs _ _ _ hW hA hal hC hl hw hd) (by omega) (ws_50 hW) rfl (by decide) (Nat.le_of_ble_eq_true rfl) (Nat.le_of_ble_eq_true rfl) (fun vq hq1 hq2 => ?_)
    obtain ⟨rfl, hn2, hw2, hA2, hC2, hd2⟩ := hq2.s hq
    have hW2 := hn2.1.Wd hW
    refine Eq_aln dX12_sum_4 rfl ?_
    refine Eq_getI dX12_sum_5 fl_X12_117 (ws_50 hW2) rfl hw2 ?_
    refine Eq_ic (v := -1) dX12_sum_8 rfl ?_
    refine Ef_ic_ne dX12_sum_9 (tgt := 19) rfl (by rfl) ?_
    refine Eq_aln dX12_sum_12 rfl ?_
    refine Eq_W0 (N := m_X12_look) dX12_sum_13 lk_X12_129 mV_X12_look (r_look hW2 hA2) (by omega) (ws_50 hW2) rfl (by decide) (Nat.le_of_ble_eq_true rfl) (Nat.le_of_ble_eq_true rfl) (fun vq hq1 hq2 => ?_)
    obtain ⟨rfl, hf4, hA4⟩ := hq2
    have hW4 := hf4.Wd hW2
    have hw4 : am_i hq1 50 4 = -1 := (hf4.i (by decide) (by decide)).trans hw2
    have hd4 : am_i hq1 50 5 = nI e := ((hf4.i (by decide) (by decide)).trans hd2).trans hd
    refine Eam_x_goto (tgt := 20) dX12_sum_16 rfl ?_
    refine Eq_isn dX12_sum_20 (by decide) ?_
    refine Eam_nl (pc' := 21) (l' := [_, _]) rfl rfl ?_
    obtain ⟨v5, h5, z1, z2⟩ := r_sum_lp (a := a) hs hp hdd hl htl 161 (p a).1 ts _ (by omega) hpi.2.1 hW4 hA4 (hC2.fx hf4 (by decide)) hul.1 hw4 hd4
    exact ⟨v5, h5, z1, z2.tr (hn2.tr (NF.of3 hf4)) (hd4.trans hd.symm)⟩
set_option maxHeartbeats 2000000 in
theorem r_sumL {tl : Nat} {tp : Nat → Nat} {n : Nat} : ∀ L, L ≤ 6 → RSC tl tp n m_X12_sum (3 * L + 5) (6 - L) L (smP tl tp L) := by
  intro L
  induction L with
  | zero =>
    intro _
    exact r_sum (d := 4) (r_term (d := 3) (r_atom (d := 2) (L := 0) (by omega) (fun z => absurd rfl z) (fun z => absurd rfl z) (by omega)) (atm_pr (fun z => absurd rfl z)) (by omega)) (chs_pr opT_0 (atm_pr (fun z => absurd rfl z))) (by omega)
  | succ L ih =>
    intro hL
    have i1 := ih (by omega)
    rw [show 6 - L = 6 - (L + 1) + 1 by omega] at i1
    exact r_sum (d := 3 * L + 5 + 2) (r_term (d := 3 * L + 5 + 1) (r_atom (d := 3 * L + 5) hL (fun _ => i1) (fun _ => smP_pr L) (by omega)) (atm_pr (fun _ => smP_pr L)) (by omega)) (chs_pr opT_0 (atm_pr (fun _ => smP_pr L))) (by omega)
set_option maxHeartbeats 2000000 in
theorem r_isSign {h : am_H} {x : Option Nat} (hx : ∀ c, x = some c → c < 256) : am_C 0 m_X12_isSign [.int (oN x)] h (some (.int (nI (if rel x = none then 0 else 1))), h) := by
  by_cases e1 : x = some 61
  · rw [e1]
    refine q_iln dX12_isSign_0 rfl ?_
    refine q_bp (v := nI 61) dX12_isSign_1 rfl ?_
    refine t_ic_eq 18 dX12_isSign_3 rfl (by rfl) ?_
    refine q_ic (v := nI 1) dX12_isSign_18 rfl ?_
    refine am_x_goto (tgt := 23) dX12_isSign_19 rfl ?_
    first | refine q_zrn dX12_isSign_23 rfl (by first | omega | exact b2_le) ?_ | refine q_zr dX12_isSign_23 rfl (by first | exact Or.inl rfl | exact Or.inr rfl | assumption) ?_
    rfl
  · by_cases e2 : x = some 60
    · rw [e2]
      refine q_iln dX12_isSign_0 rfl ?_
      refine q_bp (v := nI 61) dX12_isSign_1 rfl ?_
      refine f_ic_eq dX12_isSign_3 (tgt := 18) rfl (by decide +kernel) ?_
      refine q_iln dX12_isSign_6 rfl ?_
      refine q_bp (v := nI 60) dX12_isSign_7 rfl ?_
      refine t_ic_eq 18 dX12_isSign_9 rfl (by rfl) ?_
      refine q_ic (v := nI 1) dX12_isSign_18 rfl ?_
      refine am_x_goto (tgt := 23) dX12_isSign_19 rfl ?_
      first | refine q_zrn dX12_isSign_23 rfl (by first | omega | exact b2_le) ?_ | refine q_zr dX12_isSign_23 rfl (by first | exact Or.inl rfl | exact Or.inr rfl | assumption) ?_
      rfl
    · by_cases e3 : x = some 62
      · rw [e3]
        refine q_iln dX12_isSign_0 rfl ?_
        refine q_bp (v := nI 61) dX12_isSign_1 rfl ?_
        refine f_ic_eq dX12_isSign_3 (tgt := 18) rfl (by decide +kernel) ?_
        refine q_iln dX12_isSign_6 rfl ?_
        refine q_bp (v := nI 60) dX12_isSign_7 rfl ?_
        refine f_ic_eq dX12_isSign_9 (tgt := 18) rfl (by decide +kernel) ?_
        refine q_iln dX12_isSign_12 rfl ?_
        refine q_bp (v := nI 62) dX12_isSign_13 rfl ?_
        refine f_ic_ne dX12_isSign_15 (tgt := 22) rfl (by rfl) ?_
        refine q_ic (v := nI 1) dX12_isSign_18 rfl ?_
        refine am_x_goto (tgt := 23) dX12_isSign_19 rfl ?_
        first | refine q_zrn dX12_isSign_23 rfl (by first | omega | exact b2_le) ?_ | refine q_zr dX12_isSign_23 rfl (by first | exact Or.inl rfl | exact Or.inr rfl | assumption) ?_
        rfl
      · have e : rel x = none := by unfold rel; rw [if_neg e1, if_neg e2, if_neg e3]
        rw [if_pos e]
        refine q_iln dX12_isSign_0 rfl ?_
        refine q_bp (v := nI 61) dX12_isSign_1 rfl ?_
        refine f_ic_eq dX12_isSign_3 (tgt := 18) rfl (by exact fun z => e1 ((oNlt (fun k hk => by have := hx k hk; omega) 61 (by omega)).mp z)) ?_
        refine q_iln dX12_isSign_6 rfl ?_
        refine q_bp (v := nI 60) dX12_isSign_7 rfl ?_
        refine f_ic_eq dX12_isSign_9 (tgt := 18) rfl (by exact fun z => e2 ((oNlt (fun k hk => by have := hx k hk; omega) 60 (by omega)).mp z)) ?_
        refine q_iln dX12_isSign_12 rfl ?_
        refine q_bp (v := nI 62) dX12_isSign_13 rfl ?_
        refine t_ic_ne 22 dX12_isSign_15 rfl (by exact fun z => e3 ((oNlt (fun k hk => by have := hx k hk; omega) 62 (by omega)).mp z)) ?_
        refine q_ic (v := nI 0) dX12_isSign_22 rfl ?_
        first | refine q_zrn dX12_isSign_23 rfl (by first | omega | exact b2_le) ?_ | refine q_zr dX12_isSign_23 rfl (by first | exact Or.inl rfl | exact Or.inr rfl | assumption) ?_
        rfl
set_option maxHeartbeats 2000000 in
theorem r_compare {tl : Nat} {tp : Nat → Nat} {n d e L a b : Nat} {sum : Nat → Rd} (hs : RSC tl tp n m_X12_sum d e L sum) (hp : Prs tl sum) (hdd : 2 ≤ d) {h : am_H} {l ts : Tks} (hW : Wd h) (hA : RA h tl tp b) (hb : b ≤ tl) (hC : CW h n (l ++ ts)) (hla : l.length ≤ a) (hl : a + ts.length ≤ b) (hw : am_i h 50 4 = -1) (hd : am_i h 50 5 = nI e) : am_D (d + 1) m_X12_compare [.ref 50] h (RP tl tp n (rlt tl tp sum b ts) a L l h) := by
  have h2 := rsgn256 hA (nx tl tp b)
  have hx1 := nx_ge (tl := tl) (tp := tp) (a := b)
  have hx2 := nx_le (tp := tp) hb
  have htl := hA.1.2.1
  unfold rlt
  cases hj : rel (sgn tl tp (nx tl tp b)) with
  | none =>
    dsimp only
    refine Eq_aln dX12_compare_0 rfl ?_
    refine Eq_getI dX12_compare_1 fl_X12_117 (ws_50 hW) rfl hw ?_
    refine Eq_ic (v := -1) dX12_compare_4 rfl ?_
    refine Ef_ic_ne dX12_compare_5 (tgt := 15) rfl (by rfl) ?_
    refine Eq_aln dX12_compare_8 rfl ?_
    refine Eq_W0 (N := m_X12_look) dX12_compare_9 lk_X12_129 mV_X12_look (r_look hW hA) (by omega) (ws_50 hW) rfl (by decide) (Nat.le_of_ble_eq_true rfl) (Nat.le_of_ble_eq_true rfl) (fun vq hq1 hq2 => ?_)
    obtain ⟨rfl, hf1, hA1⟩ := hq2
    have hW1 := hf1.Wd hW
    have hw1 : am_i hq1 50 4 = -1 := (hf1.i (by decide) (by decide)).trans hw
    have hd1 : am_i hq1 50 5 = nI e := (hf1.i (by decide) (by decide)).trans hd
    have hC1 := hC.fx hf1 (by decide)
    refine Eam_x_goto (tgt := 16) dX12_compare_12 rfl ?_
    refine Eq_isn dX12_compare_16 (by decide) ?_
    refine Eam_nl (pc' := 17) (l' := [_, _]) rfl rfl ?_
    refine Eq_iln dX12_compare_17 rfl ?_
    refine Eq_S1 (N := m_X12_isSign) dX12_compare_18 lk_X12_163 mS_X12_isSign ((by have z := r_isSign (h := hq1) h2; rw [if_pos hj] at z; exact z)) (by omega) (Nat.le_of_ble_eq_true rfl) (Nat.le_of_ble_eq_true rfl) ?_
    refine Ef_if_ne dX12_compare_21 (tgt := 29) rfl (by rfl) ?_
    refine Eq_aln dX12_compare_24 rfl ?_
    refine Eq_V0 (N := m_X12_bad) dX12_compare_25 lk_X12_126 mV_X12_bad (r_bad hW1 hA1 hw1) (by omega) (ws_50 hW1) rfl (by decide) (Nat.le_of_ble_eq_true rfl) (Nat.le_of_ble_eq_true rfl) ?_
    refine Eq_vr dX12_compare_28 rfl ?_
    exact ⟨rfl, (NF.of3 hf1).tr NF.of4, wI_e0, ⟨_, hA1.fx (Fx.wI (A := []) (B := [(50, 4)]) (Or.inr (by decide))) (by decide), by omega⟩, _, hC1.2.2.1, by simp only [List.length_append]; omega⟩
  | some o =>
    obtain ⟨ho, ho6, ho8⟩ := rel_s hj
    have hlt := (sgn_lt ho).1
    have hpi := hp (nx tl tp b + 1) (by omega)
    have hll : (l ++ ts).length ≤ nx tl tp b + 1 := by simp only [List.length_append]; omega
    dsimp only
    rcases (show o = 6 ∨ o = 7 ∨ o = 8 by omega) with rfl | rfl | rfl
    · cases hq : (sum (nx tl tp b + 1)).2 with
      | none =>
        rw [bd_n hq]
        refine Eq_aln dX12_compare_0 rfl ?_
        refine Eq_getI dX12_compare_1 fl_X12_117 (ws_50 hW) rfl (by first | exact hw | exact hA1.2.1) ?_
        refine Eq_ic (v := -1) dX12_compare_4 rfl ?_
        refine Ef_ic_ne dX12_compare_5 (tgt := 15) rfl (by rfl) ?_
        refine Eq_aln dX12_compare_8 rfl ?_
        refine Eq_W0 (N := m_X12_look) dX12_compare_9 lk_X12_129 mV_X12_look (r_look hW hA) (by omega) (ws_50 hW) rfl (by decide) (Nat.le_of_ble_eq_true rfl) (Nat.le_of_ble_eq_true rfl) (fun vq hq1 hq2 => ?_)
        obtain ⟨rfl, hf1, hA1⟩ := hq2
        have hW1 := hf1.Wd hW
        have hw1 : am_i hq1 50 4 = -1 := (hf1.i (by decide) (by decide)).trans hw
        have hd1 : am_i hq1 50 5 = nI e := (hf1.i (by decide) (by decide)).trans hd
        have hC1 := hC.fx hf1 (by decide)
        have ks : Fx [] [(50, 3)] hq1 (am_wI hq1 50 3 (nI (nx tl tp b + 1))) := Fx.wI (Or.inr (by decide))
        have hWs := ks.Wd hW1
        have hAs := hA1.mv (b := nx tl tp b + 1) (by omega)
        have hCs := hC1.fx ks (by decide)
        have hns : NF n h (am_wI hq1 50 3 (nI (nx tl tp b + 1))) := (NF.of3 hf1).tr (NF.of3 ks)
        refine Eam_x_goto (tgt := 16) dX12_compare_12 rfl ?_
        refine Eq_isn dX12_compare_16 (by decide) ?_
        refine Eam_nl (pc' := 17) (l' := [_, _]) rfl rfl ?_
        refine Eq_iln dX12_compare_17 rfl ?_
        refine Eq_S1 (N := m_X12_isSign) dX12_compare_18 lk_X12_163 mS_X12_isSign ((by have z := r_isSign (h := hq1) h2; rw [if_neg (by rw [hj]; exact fun z => nomatch z)] at z; exact z)) (by omega) (Nat.le_of_ble_eq_true rfl) (Nat.le_of_ble_eq_true rfl) ?_
        refine Et_if_ne 29 dX12_compare_21 rfl (by exact zf1) ?_
        refine Eq_aln dX12_compare_29 rfl ?_
        refine Eam_x_pu dX12_compare_30 rfl ?_
        refine Eq_getI dX12_compare_31 fl_X12_110 (ws_50 hW1) rfl (by first | exact hw | exact hA1.2.1) ?_
        refine Eq_ic (v := nI 1) dX12_compare_34 rfl ?_
        first | refine Eq_add dX12_compare_35 ?_ | refine Eam_x_pu dX12_compare_35 rfl ?_
        refine Eam_x_putI dX12_compare_36 (fw_X12_110 rfl) (ws_50 hW1) (Or.inl rfl) ?_
        refine Eq_aln dX12_compare_39 rfl ?_
        refine Eq_W0 (N := m_X12_sum) dX12_compare_40 lk_X12_150 mV_X12_sum (hs _ _ _ hWs hAs (by omega) hCs hll hw1 hd1) (by omega) (ws_50 hW1) rfl (by decide) (Nat.le_of_ble_eq_true rfl) (Nat.le_of_ble_eq_true rfl) (fun vq hq1 hq2 => ?_)
        obtain ⟨rfl, hn2, hw2, b2, c, hA2, hb2, hc2, hc3⟩ := hq2.n hq
        have hW2 := hn2.1.Wd hWs
        have hcl : c < 340 := (by simp only [List.length_append] at hc3; omega)
        refine Eq_aln dX12_compare_43 rfl ?_
        refine Eq_iln dX12_compare_44 rfl ?_
        refine Eq_bp (v := nI 61) dX12_compare_45 rfl ?_
        refine Ef_ic_ne dX12_compare_47 (tgt := 55) rfl (by rw [ho]; rfl) ?_
        refine Eq_bp (v := nI 6) dX12_compare_50 rfl ?_
        refine Eam_x_goto (tgt := 68) dX12_compare_52 rfl ?_
        refine Eq_ic (v := nI 0) dX12_compare_68 rfl ?_
        refine Eq_V2 (N := m_X12_put) dX12_compare_69 lk_X12_139 mV_X12_put (r_put hW2 (hn2.t.trans hCs.1) hCs.2.1 hc2 hcl) (by omega) (ws_50 hW2) rfl (by decide) (Nat.le_of_ble_eq_true rfl) (Nat.le_of_ble_eq_true rfl) ?_
        refine Eq_vr dX12_compare_72 rfl ?_
        exact ⟨rfl, hns.tr (hn2.tr (NF.pw hcl)), hw2, ⟨_, hA2.fx fxPw (by decide), hb2⟩, c + 1, pw54, by simp only [List.length_append] at hc3; dsimp only; omega⟩
      | some us =>
        rw [bd_s hq]
        have hul := hpi.2.2 us hq
        refine Eq_aln dX12_compare_0 rfl ?_
        refine Eq_getI dX12_compare_1 fl_X12_117 (ws_50 hW) rfl (by first | exact hw | exact hA1.2.1) ?_
        refine Eq_ic (v := -1) dX12_compare_4 rfl ?_
        refine Ef_ic_ne dX12_compare_5 (tgt := 15) rfl (by rfl) ?_
        refine Eq_aln dX12_compare_8 rfl ?_
        refine Eq_W0 (N := m_X12_look) dX12_compare_9 lk_X12_129 mV_X12_look (r_look hW hA) (by omega) (ws_50 hW) rfl (by decide) (Nat.le_of_ble_eq_true rfl) (Nat.le_of_ble_eq_true rfl) (fun vq hq1 hq2 => ?_)
        obtain ⟨rfl, hf1, hA1⟩ := hq2
        have hW1 := hf1.Wd hW
        have hw1 : am_i hq1 50 4 = -1 := (hf1.i (by decide) (by decide)).trans hw
        have hd1 : am_i hq1 50 5 = nI e := (hf1.i (by decide) (by decide)).trans hd
        have hC1 := hC.fx hf1 (by decide)
        have ks : Fx [] [(50, 3)] hq1 (am_wI hq1 50 3 (nI (nx tl tp b + 1))) := Fx.wI (Or.inr (by decide))
        have hWs := ks.Wd hW1
        have hAs := hA1.mv (b := nx tl tp b + 1) (by omega)
        have hCs := hC1.fx ks (by decide)
        have hns : NF n h (am_wI hq1 50 3 (nI (nx tl tp b + 1))) := (NF.of3 hf1).tr (NF.of3 ks)
        refine Eam_x_goto (tgt := 16) dX12_compare_12 rfl ?_
        refine Eq_isn dX12_compare_16 (by decide) ?_
        refine Eam_nl (pc' := 17) (l' := [_, _]) rfl rfl ?_
        refine Eq_iln dX12_compare_17 rfl ?_
        refine Eq_S1 (N := m_X12_isSign) dX12_compare_18 lk_X12_163 mS_X12_isSign ((by have z := r_isSign (h := hq1) h2; rw [if_neg (by rw [hj]; exact fun z => nomatch z)] at z; exact z)) (by omega) (Nat.le_of_ble_eq_true rfl) (Nat.le_of_ble_eq_true rfl) ?_
        refine Et_if_ne 29 dX12_compare_21 rfl (by exact zf1) ?_
        refine Eq_aln dX12_compare_29 rfl ?_
        refine Eam_x_pu dX12_compare_30 rfl ?_
        refine Eq_getI dX12_compare_31 fl_X12_110 (ws_50 hW1) rfl (by first | exact hw | exact hA1.2.1) ?_
        refine Eq_ic (v := nI 1) dX12_compare_34 rfl ?_
        first | refine Eq_add dX12_compare_35 ?_ | refine Eam_x_pu dX12_compare_35 rfl ?_
        refine Eam_x_putI dX12_compare_36 (fw_X12_110 rfl) (ws_50 hW1) (Or.inl rfl) ?_
        refine Eq_aln dX12_compare_39 rfl ?_
        refine Eq_W0 (N := m_X12_sum) dX12_compare_40 lk_X12_150 mV_X12_sum (hs _ _ _ hWs hAs (by omega) hCs hll hw1 hd1) (by omega) (ws_50 hW1) rfl (by decide) (Nat.le_of_ble_eq_true rfl) (Nat.le_of_ble_eq_true rfl) (fun vq hq1 hq2 => ?_)
        obtain ⟨rfl, hn2, hw2, hA2, hC2, hd2⟩ := hq2.s hq
        have hW2 := hn2.1.Wd hWs
        have hcl : (l ++ ts ++ us).length < 160 := (by simp only [List.length_append]; omega)
        have hC3 := hC2.put hcl (6, 0)
        refine Eq_aln dX12_compare_43 rfl ?_
        refine Eq_iln dX12_compare_44 rfl ?_
        refine Eq_bp (v := nI 61) dX12_compare_45 rfl ?_
        refine Ef_ic_ne dX12_compare_47 (tgt := 55) rfl (by rw [ho]; rfl) ?_
        refine Eq_bp (v := nI 6) dX12_compare_50 rfl ?_
        refine Eam_x_goto (tgt := 68) dX12_compare_52 rfl ?_
        refine Eq_ic (v := nI 0) dX12_compare_68 rfl ?_
        refine Eq_V2 (N := m_X12_put) dX12_compare_69 lk_X12_139 mV_X12_put (r_put hW2 hC2.1 hC2.2.1 hC2.2.2.1 (by omega)) (by omega) (ws_50 hW2) rfl (by decide) (Nat.le_of_ble_eq_true rfl) (Nat.le_of_ble_eq_true rfl) ?_
        refine Eq_vr dX12_compare_72 rfl ?_
        exact ⟨rfl, hns.tr (hn2.tr (NF.pw (by omega))), hw2, hA2.fx fxPw (by decide), by rw [← List.append_assoc, ← List.append_assoc]; exact hC3, hd2.trans (hd1.trans hd.symm)⟩
    · cases hq : (sum (nx tl tp b + 1)).2 with
      | none =>
        rw [bd_n hq]
        refine Eq_aln dX12_compare_0 rfl ?_
        refine Eq_getI dX12_compare_1 fl_X12_117 (ws_50 hW) rfl (by first | exact hw | exact hA1.2.1) ?_
        refine Eq_ic (v := -1) dX12_compare_4 rfl ?_
        refine Ef_ic_ne dX12_compare_5 (tgt := 15) rfl (by rfl) ?_
        refine Eq_aln dX12_compare_8 rfl ?_
        refine Eq_W0 (N := m_X12_look) dX12_compare_9 lk_X12_129 mV_X12_look (r_look hW hA) (by omega) (ws_50 hW) rfl (by decide) (Nat.le_of_ble_eq_true rfl) (Nat.le_of_ble_eq_true rfl) (fun vq hq1 hq2 => ?_)
        obtain ⟨rfl, hf1, hA1⟩ := hq2
        have hW1 := hf1.Wd hW
        have hw1 : am_i hq1 50 4 = -1 := (hf1.i (by decide) (by decide)).trans hw
        have hd1 : am_i hq1 50 5 = nI e := (hf1.i (by decide) (by decide)).trans hd
        have hC1 := hC.fx hf1 (by decide)
        have ks : Fx [] [(50, 3)] hq1 (am_wI hq1 50 3 (nI (nx tl tp b + 1))) := Fx.wI (Or.inr (by decide))
        have hWs := ks.Wd hW1
        have hAs := hA1.mv (b := nx tl tp b + 1) (by omega)
        have hCs := hC1.fx ks (by decide)
        have hns : NF n h (am_wI hq1 50 3 (nI (nx tl tp b + 1))) := (NF.of3 hf1).tr (NF.of3 ks)
        refine Eam_x_goto (tgt := 16) dX12_compare_12 rfl ?_
        refine Eq_isn dX12_compare_16 (by decide) ?_
        refine Eam_nl (pc' := 17) (l' := [_, _]) rfl rfl ?_
        refine Eq_iln dX12_compare_17 rfl ?_
        refine Eq_S1 (N := m_X12_isSign) dX12_compare_18 lk_X12_163 mS_X12_isSign ((by have z := r_isSign (h := hq1) h2; rw [if_neg (by rw [hj]; exact fun z => nomatch z)] at z; exact z)) (by omega) (Nat.le_of_ble_eq_true rfl) (Nat.le_of_ble_eq_true rfl) ?_
        refine Et_if_ne 29 dX12_compare_21 rfl (by exact zf1) ?_
        refine Eq_aln dX12_compare_29 rfl ?_
        refine Eam_x_pu dX12_compare_30 rfl ?_
        refine Eq_getI dX12_compare_31 fl_X12_110 (ws_50 hW1) rfl (by first | exact hw | exact hA1.2.1) ?_
        refine Eq_ic (v := nI 1) dX12_compare_34 rfl ?_
        first | refine Eq_add dX12_compare_35 ?_ | refine Eam_x_pu dX12_compare_35 rfl ?_
        refine Eam_x_putI dX12_compare_36 (fw_X12_110 rfl) (ws_50 hW1) (Or.inl rfl) ?_
        refine Eq_aln dX12_compare_39 rfl ?_
        refine Eq_W0 (N := m_X12_sum) dX12_compare_40 lk_X12_150 mV_X12_sum (hs _ _ _ hWs hAs (by omega) hCs hll hw1 hd1) (by omega) (ws_50 hW1) rfl (by decide) (Nat.le_of_ble_eq_true rfl) (Nat.le_of_ble_eq_true rfl) (fun vq hq1 hq2 => ?_)
        obtain ⟨rfl, hn2, hw2, b2, c, hA2, hb2, hc2, hc3⟩ := hq2.n hq
        have hW2 := hn2.1.Wd hWs
        have hcl : c < 340 := (by simp only [List.length_append] at hc3; omega)
        refine Eq_aln dX12_compare_43 rfl ?_
        refine Eq_iln dX12_compare_44 rfl ?_
        refine Eq_bp (v := nI 61) dX12_compare_45 rfl ?_
        refine Et_ic_ne 55 dX12_compare_47 rfl (by rw [ho]; decide +kernel) ?_
        refine Eq_iln dX12_compare_55 rfl ?_
        refine Eq_bp (v := nI 60) dX12_compare_56 rfl ?_
        refine Ef_ic_ne dX12_compare_58 (tgt := 66) rfl (by rw [ho]; rfl) ?_
        refine Eq_bp (v := nI 7) dX12_compare_61 rfl ?_
        refine Eam_x_goto (tgt := 68) dX12_compare_63 rfl ?_
        refine Eq_ic (v := nI 0) dX12_compare_68 rfl ?_
        refine Eq_V2 (N := m_X12_put) dX12_compare_69 lk_X12_139 mV_X12_put (r_put hW2 (hn2.t.trans hCs.1) hCs.2.1 hc2 hcl) (by omega) (ws_50 hW2) rfl (by decide) (Nat.le_of_ble_eq_true rfl) (Nat.le_of_ble_eq_true rfl) ?_
        refine Eq_vr dX12_compare_72 rfl ?_
        exact ⟨rfl, hns.tr (hn2.tr (NF.pw hcl)), hw2, ⟨_, hA2.fx fxPw (by decide), hb2⟩, c + 1, pw54, by simp only [List.length_append] at hc3; dsimp only; omega⟩
      | some us =>
        rw [bd_s hq]
        have hul := hpi.2.2 us hq
        refine Eq_aln dX12_compare_0 rfl ?_
        refine Eq_getI dX12_compare_1 fl_X12_117 (ws_50 hW) rfl (by first | exact hw | exact hA1.2.1) ?_
        refine Eq_ic (v := -1) dX12_compare_4 rfl ?_
        refine Ef_ic_ne dX12_compare_5 (tgt := 15) rfl (by rfl) ?_
        refine Eq_aln dX12_compare_8 rfl ?_
        refine Eq_W0 (N := m_X12_look) dX12_compare_9 lk_X12_129 mV_X12_look (r_look hW hA) (by omega) (ws_50 hW) rfl (by decide) (Nat.le_of_ble_eq_true rfl) (Nat.le_of_ble_eq_true rfl) (fun vq hq1 hq2 => ?_)
        obtain ⟨rfl, hf1, hA1⟩ := hq2
        have hW1 := hf1.Wd hW
        have hw1 : am_i hq1 50 4 = -1 := (hf1.i (by decide) (by decide)).trans hw
        have hd1 : am_i hq1 50 5 = nI e := (hf1.i (by decide) (by decide)).trans hd
        have hC1 := hC.fx hf1 (by decide)
        have ks : Fx [] [(50, 3)] hq1 (am_wI hq1 50 3 (nI (nx tl tp b + 1))) := Fx.wI (Or.inr (by decide))
        have hWs := ks.Wd hW1
        have hAs := hA1.mv (b := nx tl tp b + 1) (by omega)
        have hCs := hC1.fx ks (by decide)
        have hns : NF n h (am_wI hq1 50 3 (nI (nx tl tp b + 1))) := (NF.of3 hf1).tr (NF.of3 ks)
        refine Eam_x_goto (tgt := 16) dX12_compare_12 rfl ?_
        refine Eq_isn dX12_compare_16 (by decide) ?_
        refine Eam_nl (pc' := 17) (l' := [_, _]) rfl rfl ?_
        refine Eq_iln dX12_compare_17 rfl ?_
        refine Eq_S1 (N := m_X12_isSign) dX12_compare_18 lk_X12_163 mS_X12_isSign ((by have z := r_isSign (h := hq1) h2; rw [if_neg (by rw [hj]; exact fun z => nomatch z)] at z; exact z)) (by omega) (Nat.le_of_ble_eq_true rfl) (Nat.le_of_ble_eq_true rfl) ?_
        refine Et_if_ne 29 dX12_compare_21 rfl (by exact zf1) ?_
        refine Eq_aln dX12_compare_29 rfl ?_
        refine Eam_x_pu dX12_compare_30 rfl ?_
        refine Eq_getI dX12_compare_31 fl_X12_110 (ws_50 hW1) rfl (by first | exact hw | exact hA1.2.1) ?_
        refine Eq_ic (v := nI 1) dX12_compare_34 rfl ?_
        first | refine Eq_add dX12_compare_35 ?_ | refine Eam_x_pu dX12_compare_35 rfl ?_
        refine Eam_x_putI dX12_compare_36 (fw_X12_110 rfl) (ws_50 hW1) (Or.inl rfl) ?_
        refine Eq_aln dX12_compare_39 rfl ?_
        refine Eq_W0 (N := m_X12_sum) dX12_compare_40 lk_X12_150 mV_X12_sum (hs _ _ _ hWs hAs (by omega) hCs hll hw1 hd1) (by omega) (ws_50 hW1) rfl (by decide) (Nat.le_of_ble_eq_true rfl) (Nat.le_of_ble_eq_true rfl) (fun vq hq1 hq2 => ?_)
        obtain ⟨rfl, hn2, hw2, hA2, hC2, hd2⟩ := hq2.s hq
        have hW2 := hn2.1.Wd hWs
        have hcl : (l ++ ts ++ us).length < 160 := (by simp only [List.length_append]; omega)
        have hC3 := hC2.put hcl (7, 0)
        refine Eq_aln dX12_compare_43 rfl ?_
        refine Eq_iln dX12_compare_44 rfl ?_
        refine Eq_bp (v := nI 61) dX12_compare_45 rfl ?_
        refine Et_ic_ne 55 dX12_compare_47 rfl (by rw [ho]; decide +kernel) ?_
        refine Eq_iln dX12_compare_55 rfl ?_
        refine Eq_bp (v := nI 60) dX12_compare_56 rfl ?_
        refine Ef_ic_ne dX12_compare_58 (tgt := 66) rfl (by rw [ho]; rfl) ?_
        refine Eq_bp (v := nI 7) dX12_compare_61 rfl ?_
        refine Eam_x_goto (tgt := 68) dX12_compare_63 rfl ?_
        refine Eq_ic (v := nI 0) dX12_compare_68 rfl ?_
        refine Eq_V2 (N := m_X12_put) dX12_compare_69 lk_X12_139 mV_X12_put (r_put hW2 hC2.1 hC2.2.1 hC2.2.2.1 (by omega)) (by omega) (ws_50 hW2) rfl (by decide) (Nat.le_of_ble_eq_true rfl) (Nat.le_of_ble_eq_true rfl) ?_
        refine Eq_vr dX12_compare_72 rfl ?_
        exact ⟨rfl, hns.tr (hn2.tr (NF.pw (by omega))), hw2, hA2.fx fxPw (by decide), by rw [← List.append_assoc, ← List.append_assoc]; exact hC3, hd2.trans (hd1.trans hd.symm)⟩
    · cases hq : (sum (nx tl tp b + 1)).2 with
      | none =>
        rw [bd_n hq]
        refine Eq_aln dX12_compare_0 rfl ?_
        refine Eq_getI dX12_compare_1 fl_X12_117 (ws_50 hW) rfl (by first | exact hw | exact hA1.2.1) ?_
        refine Eq_ic (v := -1) dX12_compare_4 rfl ?_
        refine Ef_ic_ne dX12_compare_5 (tgt := 15) rfl (by rfl) ?_
        refine Eq_aln dX12_compare_8 rfl ?_
        refine Eq_W0 (N := m_X12_look) dX12_compare_9 lk_X12_129 mV_X12_look (r_look hW hA) (by omega) (ws_50 hW) rfl (by decide) (Nat.le_of_ble_eq_true rfl) (Nat.le_of_ble_eq_true rfl) (fun vq hq1 hq2 => ?_)
        obtain ⟨rfl, hf1, hA1⟩ := hq2
        have hW1 := hf1.Wd hW
        have hw1 : am_i hq1 50 4 = -1 := (hf1.i (by decide) (by decide)).trans hw
        have hd1 : am_i hq1 50 5 = nI e := (hf1.i (by decide) (by decide)).trans hd
        have hC1 := hC.fx hf1 (by decide)
        have ks : Fx [] [(50, 3)] hq1 (am_wI hq1 50 3 (nI (nx tl tp b + 1))) := Fx.wI (Or.inr (by decide))
        have hWs := ks.Wd hW1
        have hAs := hA1.mv (b := nx tl tp b + 1) (by omega)
        have hCs := hC1.fx ks (by decide)
        have hns : NF n h (am_wI hq1 50 3 (nI (nx tl tp b + 1))) := (NF.of3 hf1).tr (NF.of3 ks)
        refine Eam_x_goto (tgt := 16) dX12_compare_12 rfl ?_
        refine Eq_isn dX12_compare_16 (by decide) ?_
        refine Eam_nl (pc' := 17) (l' := [_, _]) rfl rfl ?_
        refine Eq_iln dX12_compare_17 rfl ?_
        refine Eq_S1 (N := m_X12_isSign) dX12_compare_18 lk_X12_163 mS_X12_isSign ((by have z := r_isSign (h := hq1) h2; rw [if_neg (by rw [hj]; exact fun z => nomatch z)] at z; exact z)) (by omega) (Nat.le_of_ble_eq_true rfl) (Nat.le_of_ble_eq_true rfl) ?_
        refine Et_if_ne 29 dX12_compare_21 rfl (by exact zf1) ?_
        refine Eq_aln dX12_compare_29 rfl ?_
        refine Eam_x_pu dX12_compare_30 rfl ?_
        refine Eq_getI dX12_compare_31 fl_X12_110 (ws_50 hW1) rfl (by first | exact hw | exact hA1.2.1) ?_
        refine Eq_ic (v := nI 1) dX12_compare_34 rfl ?_
        first | refine Eq_add dX12_compare_35 ?_ | refine Eam_x_pu dX12_compare_35 rfl ?_
        refine Eam_x_putI dX12_compare_36 (fw_X12_110 rfl) (ws_50 hW1) (Or.inl rfl) ?_
        refine Eq_aln dX12_compare_39 rfl ?_
        refine Eq_W0 (N := m_X12_sum) dX12_compare_40 lk_X12_150 mV_X12_sum (hs _ _ _ hWs hAs (by omega) hCs hll hw1 hd1) (by omega) (ws_50 hW1) rfl (by decide) (Nat.le_of_ble_eq_true rfl) (Nat.le_of_ble_eq_true rfl) (fun vq hq1 hq2 => ?_)
        obtain ⟨rfl, hn2, hw2, b2, c, hA2, hb2, hc2, hc3⟩ := hq2.n hq
        have hW2 := hn2.1.Wd hWs
        have hcl : c < 340 := (by simp only [List.length_append] at hc3; omega)
        refine Eq_aln dX12_compare_43 rfl ?_
        refine Eq_iln dX12_compare_44 rfl ?_
        refine Eq_bp (v := nI 61) dX12_compare_45 rfl ?_
        refine Et_ic_ne 55 dX12_compare_47 rfl (by rw [ho]; decide +kernel) ?_
        refine Eq_iln dX12_compare_55 rfl ?_
        refine Eq_bp (v := nI 60) dX12_compare_56 rfl ?_
        refine Et_ic_ne 66 dX12_compare_58 rfl (by rw [ho]; decide +kernel) ?_
        refine Eq_bp (v := nI 8) dX12_compare_66 rfl ?_
        refine Eq_ic (v := nI 0) dX12_compare_68 rfl ?_
        refine Eq_V2 (N := m_X12_put) dX12_compare_69 lk_X12_139 mV_X12_put (r_put hW2 (hn2.t.trans hCs.1) hCs.2.1 hc2 hcl) (by omega) (ws_50 hW2) rfl (by decide) (Nat.le_of_ble_eq_true rfl) (Nat.le_of_ble_eq_true rfl) ?_
        refine Eq_vr dX12_compare_72 rfl ?_
        exact ⟨rfl, hns.tr (hn2.tr (NF.pw hcl)), hw2, ⟨_, hA2.fx fxPw (by decide), hb2⟩, c + 1, pw54, by simp only [List.length_append] at hc3; dsimp only; omega⟩
      | some us =>
        rw [bd_s hq]
        have hul := hpi.2.2 us hq
        refine Eq_aln dX12_compare_0 rfl ?_
        refine Eq_getI dX12_compare_1 fl_X12_117 (ws_50 hW) rfl (by first | exact hw | exact hA1.2.1) ?_
        refine Eq_ic (v := -1) dX12_compare_4 rfl ?_
        refine Ef_ic_ne dX12_compare_5 (tgt := 15) rfl (by rfl) ?_
        refine Eq_aln dX12_compare_8 rfl ?_
        refine Eq_W0 (N := m_X12_look) dX12_compare_9 lk_X12_129 mV_X12_look (r_look hW hA) (by omega) (ws_50 hW) rfl (by decide) (Nat.le_of_ble_eq_true rfl) (Nat.le_of_ble_eq_true rfl) (fun vq hq1 hq2 => ?_)
        obtain ⟨rfl, hf1, hA1⟩ := hq2
        have hW1 := hf1.Wd hW
        have hw1 : am_i hq1 50 4 = -1 := (hf1.i (by decide) (by decide)).trans hw
        have hd1 : am_i hq1 50 5 = nI e := (hf1.i (by decide) (by decide)).trans hd
        have hC1 := hC.fx hf1 (by decide)
        have ks : Fx [] [(50, 3)] hq1 (am_wI hq1 50 3 (nI (nx tl tp b + 1))) := Fx.wI (Or.inr (by decide))
        have hWs := ks.Wd hW1
        have hAs := hA1.mv (b := nx tl tp b + 1) (by omega)
        have hCs := hC1.fx ks (by decide)
        have hns : NF n h (am_wI hq1 50 3 (nI (nx tl tp b + 1))) := (NF.of3 hf1).tr (NF.of3 ks)
        refine Eam_x_goto (tgt := 16) dX12_compare_12 rfl ?_
        refine Eq_isn dX12_compare_16 (by decide) ?_
        refine Eam_nl (pc' := 17) (l' := [_, _]) rfl rfl ?_
        refine Eq_iln dX12_compare_17 rfl ?_
        refine Eq_S1 (N := m_X12_isSign) dX12_compare_18 lk_X12_163 mS_X12_isSign ((by have z := r_isSign (h := hq1) h2; rw [if_neg (by rw [hj]; exact fun z => nomatch z)] at z; exact z)) (by omega) (Nat.le_of_ble_eq_true rfl) (Nat.le_of_ble_eq_true rfl) ?_
        refine Et_if_ne 29 dX12_compare_21 rfl (by exact zf1) ?_
        refine Eq_aln dX12_compare_29 rfl ?_
        refine Eam_x_pu dX12_compare_30 rfl ?_
        refine Eq_getI dX12_compare_31 fl_X12_110 (ws_50 hW1) rfl (by first | exact hw | exact hA1.2.1) ?_
        refine Eq_ic (v := nI 1) dX12_compare_34 rfl ?_
        first | refine Eq_add dX12_compare_35 ?_ | refine Eam_x_pu dX12_compare_35 rfl ?_
        refine Eam_x_putI dX12_compare_36 (fw_X12_110 rfl) (ws_50 hW1) (Or.inl rfl) ?_
        refine Eq_aln dX12_compare_39 rfl ?_
        refine Eq_W0 (N := m_X12_sum) dX12_compare_40 lk_X12_150 mV_X12_sum (hs _ _ _ hWs hAs (by omega) hCs hll hw1 hd1) (by omega) (ws_50 hW1) rfl (by decide) (Nat.le_of_ble_eq_true rfl) (Nat.le_of_ble_eq_true rfl) (fun vq hq1 hq2 => ?_)
        obtain ⟨rfl, hn2, hw2, hA2, hC2, hd2⟩ := hq2.s hq
        have hW2 := hn2.1.Wd hWs
        have hcl : (l ++ ts ++ us).length < 160 := (by simp only [List.length_append]; omega)
        have hC3 := hC2.put hcl (8, 0)
        refine Eq_aln dX12_compare_43 rfl ?_
        refine Eq_iln dX12_compare_44 rfl ?_
        refine Eq_bp (v := nI 61) dX12_compare_45 rfl ?_
        refine Et_ic_ne 55 dX12_compare_47 rfl (by rw [ho]; decide +kernel) ?_
        refine Eq_iln dX12_compare_55 rfl ?_
        refine Eq_bp (v := nI 60) dX12_compare_56 rfl ?_
        refine Et_ic_ne 66 dX12_compare_58 rfl (by rw [ho]; decide +kernel) ?_
        refine Eq_bp (v := nI 8) dX12_compare_66 rfl ?_
        refine Eq_ic (v := nI 0) dX12_compare_68 rfl ?_
        refine Eq_V2 (N := m_X12_put) dX12_compare_69 lk_X12_139 mV_X12_put (r_put hW2 hC2.1 hC2.2.1 hC2.2.2.1 (by omega)) (by omega) (ws_50 hW2) rfl (by decide) (Nat.le_of_ble_eq_true rfl) (Nat.le_of_ble_eq_true rfl) ?_
        refine Eq_vr dX12_compare_72 rfl ?_
        exact ⟨rfl, hns.tr (hn2.tr (NF.pw (by omega))), hw2, hA2.fx fxPw (by decide), by rw [← List.append_assoc, ← List.append_assoc]; exact hC3, hd2.trans (hd1.trans hd.symm)⟩
