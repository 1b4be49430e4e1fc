/-! the hope of the round -/
def hb (F : Nat → Nat → Nat) (m : Nat) : Bool := decide (F 3 m ≠ 1) && decide (F 3 m ≠ 3)
def oth (F : Nat → Nat → Nat) (n : Nat) : Nat := bt (fun m => decide (m ≠ 0) && hb F m) n
def stp (F : Nat → Nat → Nat) (n : Nat) (g : Bool) : Nat := if g = true ∧ bt (hb F) n = bt (fun m => decide (F 3 m ≠ 1)) n then 7 else popc (oth F n)
def mrd (F : Nat → Nat → Nat) (n : Nat) (g : Bool) : Nat := if oth F n = 0 ∨ F 3 0 = 1 then 0 else gs F n (oth F n) (oth F n) (stp F n g)
theorem stp_le {F : Nat → Nat → Nat} {n : Nat} {g : Bool} : stp F n g ≤ 7 := by
  unfold stp
  split
  · omega
  · exact popc_le _
theorem mrd_le {F : Nat → Nat → Nat} {n : Nat} {g : Bool} : mrd F n g ≤ 7000 := by
  unfold mrd
  split
  · omega
  · have := gs_le (F := F) (n := n) (O := oth F n) (stp F n g) (oth F n)
    have := stp_le (F := F) (n := n) (g := g)
    omega
theorem oth_t {F : Nat → Nat → Nat} {n x : Nat} : (oth F n).testBit x = true ↔ x < n ∧ x ≠ 0 ∧ F 3 x ≠ 1 ∧ F 3 x ≠ 3 := by
  unfold oth hb
  rw [bt_test]
  simp only [Bool.and_eq_true, decide_eq_true_eq]
theorem O_St {a : List Nat} (hd : a.Nodup) {p : Nat} (hp : p < a.length) (h0 : sl a p = 0) (x : Nat) : (x ∈ a ∧ x ≠ 0) ↔ ∃ i s, 0 < i ∧ i < a.length ∧ St a.length true p i s ∧ sl a s = x := by
  constructor
  · rintro ⟨hx, hx0⟩
    obtain ⟨s, hs1, hs2⟩ := List.getElem_of_mem hx
    obtain ⟨i, hi1, hi2⟩ := St_ex hp hs1
    refine ⟨i, s, ?_, hi1, hi2, by rw [sl_eq hs1]; exact hs2⟩
    by_cases ei : i = 0
    · exfalso
      subst ei
      have := St_0 hi2
      subst this
      rw [sl_eq hs1, hs2] at h0
      exact hx0 h0
    · omega
  · rintro ⟨i, s, i1, i2, i3, i4⟩
    have hsl := St_lt hp i2 i3
    refine ⟨i4 ▸ sl_mem hsl, fun z => ?_⟩
    rw [z, ← h0] at i4
    have := sl_inj hd hsl hp i4
    exact St_ne i1 i2 i3 this
theorem rs_mr {F : Nat → Nat → Nat} {n : Nat} {g : Bool} {a : List Nat} (h7 : n ≤ 7) (hd : a.Nodup) (ha : ∀ x ∈ a, x < n ∧ F 3 x ≠ 1) (hall : g = true → ∀ x, x < n → F 3 x ≠ 1 → x ∈ a) : rs F g a ≤ mrd F n g := by
  by_cases h0 : 0 ∈ a
  · obtain ⟨p, hp, hp0⟩ := List.getElem_of_mem h0
    have h0p : sl a p = 0 := by rw [sl_eq hp]; exact hp0
    rw [rs_p hd hp h0p]
    have hy := (ha 0 h0).2
    have ha7 : ∀ x ∈ a, x < 7 := fun x hx => by have := (ha x hx).1; omega
    by_cases hO : oth F n = 0
    · have hz : rsx F g a (6 + 1) p = 0 := by
        cases h : bfo g a.length p with
        | none => rw [rsx_n h]
        | some b =>
          obtain ⟨hlf, hc, hb⟩ := bfo_lf hp h
          have hbp : b ≠ p := by
            unfold bfo at h
            split at h
            · cases h; omega
            · split at h
              · cases h; omega
              · cases h
          have hm := ha _ (sl_mem hb)
          refine rsx_y h (Or.inl ?_)
          apply Classical.byContradiction
          intro hd3
          have := (oth_t (F := F) (n := n) (x := sl a b)).mpr ⟨hm.1, fun z => hbp (sl_inj hd hb hp (z.trans h0p.symm)), hm.2, hd3⟩
          exact b_ne0 this hO
      have : rsx F g a 7 p = 0 := hz
      rw [this]
      exact Nat.zero_le _
    · have hmr : mrd F n g = gs F n (oth F n) (oth F n) (stp F n g) := by
        unfold mrd
        rw [if_neg (fun z => z.elim hO hy)]
      have hob : ∀ i, (oth F n).testBit i = true → i < n := fun i hi => (oth_t.mp hi).1
      rw [hmr]
      obtain ⟨v1, v2⟩ := rsx_vis (F := F) (g := g) (a := a) 7 p
      rw [v1]
      by_cases hc : g = true ∧ bt (hb F) n = bt (fun m => decide (F 3 m ≠ 1)) n
      · have hs : stp F n g = 7 := if_pos hc
        have hg := hc.1
        subst hg
        have hOa : ∀ x, (oth F n).testBit x = true ↔ x ∈ a ∧ x ≠ 0 := fun x => by
          rw [oth_t]
          constructor
          · rintro ⟨x1, x2, x3, x4⟩
            exact ⟨hall rfl x x1 x3, x2⟩
          · rintro ⟨x1, x2⟩
            obtain ⟨x3, x4⟩ := ha x x1
            refine ⟨x3, x2, x4, ?_⟩
            have e := congrArg (fun b => b.testBit x) hc.2
            simp only [bt_test, hb] at e
            intro z
            simp [x3, x4, z] at e
        have hV := vis_v (F := F) hd ha7 hp h0p hOa 7 0 p (oth F n) (by omega) (Or.inl ⟨by omega, by omega⟩) (fun x => by rw [hOa]; exact O_St hd hp h0p x)
        have := gs_ok (F := F) h7 hob _ _ _ rfl hob hV
        rw [hs]
        have h2 := gs_mono (F := F) (n := n) (O := oth F n) (b := oth F n) (r := (vis F true a 7 p).length) (7 - (vis F true a 7 p).length)
        rw [show (vis F true a 7 p).length + (7 - (vis F true a 7 p).length) = 7 by omega] at h2
        omega
      · have hs : stp F n g = popc (oth F n) := if_neg hc
        have hna : g = true → ∃ s, s < a.length ∧ F 3 (sl a s) = 3 := fun hg => by
          apply Classical.byContradiction
          intro hno
          refine hc ⟨hg, Nat.eq_of_testBit_eq (fun i => ?_)⟩
          rw [bt_test, bt_test]
          by_cases hi : i < n
          · unfold hb
            by_cases hal : F 3 i = 1
            · simp [hal]
            · obtain ⟨s, hs1, hs2⟩ := List.getElem_of_mem (hall hg i hi hal)
              have hnd : F 3 i ≠ 3 := fun z => hno ⟨s, hs1, by rw [sl_eq hs1, hs2]; exact z⟩
              simp [hal, hnd]
          · simp [hi]
        have hV := vis_p (F := F) (g := g) hd ha7 hp hna 7 0 p (oth F n) (by omega) (Or.inl ⟨by omega, by omega⟩) (fun i s i1 i2 i3 i4 => by
          have hsl := St_lt hp i2 i3
          have hm := ha _ (sl_mem hsl)
          exact oth_t.mpr ⟨hm.1, fun z => St_ne i1 i2 i3 (sl_inj hd hsl hp (z.trans h0p.symm)), hm.2, i4⟩) (fun i s i1 i2 => by omega)
        have hlen := Vp_len hV
        have := gs_ok (F := F) h7 hob _ _ _ rfl hob (Vp_Vl (O := oth F n) hV)
        rw [hs]
        have h2 := gs_mono (F := F) (n := n) (O := oth F n) (b := oth F n) (r := (vis F g a 7 p).length) (popc (oth F n) - (vis F g a 7 p).length)
        rw [show (vis F g a 7 p).length + (popc (oth F n) - (vis F g a 7 p).length) = popc (oth F n) by omega] at h2
        omega
  · rw [rs_0 h0]
    exact Nat.zero_le _
theorem al_nd {F : Nat → Nat → Nat} {l : List Nat} (h : l.Nodup) : (al F l).Nodup := h.filter _
theorem mrd_ok {F : Nat → Nat → Nat} {n : Nat} {g : Bool} (h7 : n ≤ 7) : ∀ l : List Nat, l.Nodup → (∀ x ∈ l, x < n) → l.length = n → (g = true → rs F true (al F l) ≤ mrd F n g) ∧ (g = false → ∀ i, i < n → sl l i = 0 → F 3 0 ≠ 1 → rs F false (al F (l.take i) ++ [0]) ≤ mrd F n g) := by
  intro l h1 h2 h3
  refine ⟨fun hg => ?_, fun hg i hi h0 hy => ?_⟩
  · subst hg
    refine rs_mr h7 (al_nd h1) (fun x hx => ⟨h2 x (al_mem hx).1, (al_mem hx).2⟩) (fun _ x hx hy => ?_)
    have q := (sl_pm h1 h2 h3).2 x hx
    have z := sl_mem (l := l) (s := fs (sl l) n x) (by omega)
    rw [q.2] at z
    unfold al
    exact List.mem_filter.mpr ⟨z, by simpa using hy⟩
  · subst hg
    have e := take_s (l := l) (k := i) (by omega)
    have e2 : al F (l.take (i + 1)) = al F (l.take i) ++ [0] := by rw [e, al_app, h0, if_neg hy]
    rw [← e2]
    refine rs_mr h7 (al_nd (h1.sublist (List.take_sublist _ _))) (fun x hx => ⟨h2 x (List.mem_of_mem_take (al_mem hx).1), (al_mem hx).2⟩) (fun z => nomatch z)
theorem and_m2 : ∀ b, b < 128 → nI b &&& (-2) = nI (b &&& 126) := by decide +kernel
theorem b126 : ∀ i, i < 7 → (126 : Nat).testBit i = decide (i ≠ 0) := by decide +kernel
theorem oth_and {F : Nat → Nat → Nat} {n : Nat} (h7 : n ≤ 7) : bt (hb F) n &&& 126 = oth F n := Nat.eq_of_testBit_eq (fun i => by
  unfold oth
  rw [Nat.testBit_and, bt_test, bt_test]
  by_cases hi : i < n
  · rw [b126 i (by omega)]
    simp only [hi, decide_true, Bool.true_and]
    exact Bool.and_comm _ _
  · simp [hi])
set_option maxHeartbeats 2000000 in
theorem c_quick_lp {h : am_H} {n : Nat} {g : Bool} {F : Nat → Nat → Nat} (hW : Wd h) (hM : MB h n g F) {b : Nat} (hb : b < 128) : ∀ q j, j + q = n → ∀ l4, am_Sem 1 m_X0_quickest 4 [some (.ref 20), some (.int (nI b)), some (.int (oN (qkl F b j))), some (.int (nI j)), l4] [] h (some (.int (oN (qkl F b n))), h) := by
  have h7 := hM.2.2.1
  intro q
  induction q with
  | zero =>
    intro j hj l4
    have hjn : j = n := by omega
    subst hjn
    refine q_iln dX0_quickest_4 rfl ?_
    refine q_aln dX0_quickest_5 rfl ?_
    refine q_getR dX0_quickest_6 fl_X0_9 (ws_20 hW) rfl (wp_20_0 hW) ?_
    refine q_getI dX0_quickest_9 fl_X0_53 (ws_9 hW) rfl hM.1 ?_
    refine t_ic_ge 69 dX0_quickest_12 rfl (by exact nI_le (by omega) (by omega)) ?_
    refine q_iln dX0_quickest_69 rfl ?_
    refine q_ir dX0_quickest_70 rfl ?_
    rfl
  | succ q ih =>
    intro j hj l4
    have hs := (qkl_sp (F := F) (b := b) j).1
    by_cases hbt : b.testBit j = true
    · cases hq : qkl F b j with
      | none =>
        have e : qkl F b (j + 1) = some j := by simp only [qkl, hbt, hq, if_true]
        have ih2 := ih (j + 1) (by omega)
        rw [e] at ih2
        refine q_iln dX0_quickest_4 rfl ?_
        refine q_aln dX0_quickest_5 rfl ?_
        refine q_getR dX0_quickest_6 fl_X0_9 (ws_20 hW) rfl (wp_20_0 hW) ?_
        refine q_getI dX0_quickest_9 fl_X0_53 (ws_9 hW) rfl hM.1 ?_
        refine f_ic_ge dX0_quickest_12 (tgt := 69) rfl (by exact nI_ge (by omega) (by omega)) ?_
        refine q_iln dX0_quickest_15 rfl ?_
        refine q_iln dX0_quickest_16 rfl ?_
        first | refine q_shr dX0_quickest_17 (by omega) (by omega) ?_ | refine am_x_pu dX0_quickest_17 rfl ?_
        refine q_ic (v := nI 1) dX0_quickest_18 rfl ?_
        first | refine q_and dX0_quickest_19 ?_ | refine am_x_pu dX0_quickest_19 rfl ?_
        refine f_if_eq dX0_quickest_20 (tgt := 27) rfl (by rw [bit_and, if_pos hbt]; exact zf1) ?_
        refine q_ic (v := nI 1) dX0_quickest_23 rfl ?_
        refine am_x_goto (tgt := 28) dX0_quickest_24 rfl ?_
        refine q_is dX0_quickest_28 (by decide) ?_
        refine am_nl (pc' := 30) (l' := [_, _, _, _, _]) rfl rfl ?_
        refine q_il dX0_quickest_30 rfl ?_
        refine f_if_eq dX0_quickest_32 (tgt := 63) rfl (by exact zf1) ?_
        refine q_iln dX0_quickest_35 rfl ?_
        refine q_ic (v := -1) dX0_quickest_36 rfl ?_
        refine t_ic_eq 61 dX0_quickest_37 rfl (by rfl) ?_
        refine q_iln dX0_quickest_61 rfl ?_
        refine q_isn dX0_quickest_62 (by decide) ?_
        refine am_nl (pc' := 63) (l' := [_, _, _, _, _]) rfl rfl ?_
        refine q_inc dX0_quickest_63 rfl (by decide) ?_
        refine am_nl (pc' := 66) (l' := [_, _, _, _, _]) rfl rfl ?_
        refine am_x_goto (tgt := 4) dX0_quickest_66 rfl ?_
        exact ih2 _
      | some w =>
        have hw := hs w hq
        have f1 := (hM.2.2.2.1 1 j (by omega) (by omega)).2
        have f2 := (hM.2.2.2.1 1 w (by omega) (by omega)).2
        by_cases hlt : F 1 j < F 1 w
        · have e : qkl F b (j + 1) = some j := by simp only [qkl, hbt, hq, if_true, hlt]
          have ih2 := ih (j + 1) (by omega)
          rw [e] at ih2
          refine q_iln dX0_quickest_4 rfl ?_
          refine q_aln dX0_quickest_5 rfl ?_
          refine q_getR dX0_quickest_6 fl_X0_9 (ws_20 hW) rfl (wp_20_0 hW) ?_
          refine q_getI dX0_quickest_9 fl_X0_53 (ws_9 hW) rfl hM.1 ?_
          refine f_ic_ge dX0_quickest_12 (tgt := 69) rfl (by exact nI_ge (by omega) (by omega)) ?_
          refine q_iln dX0_quickest_15 rfl ?_
          refine q_iln dX0_quickest_16 rfl ?_
          first | refine q_shr dX0_quickest_17 (by omega) (by omega) ?_ | refine am_x_pu dX0_quickest_17 rfl ?_
          refine q_ic (v := nI 1) dX0_quickest_18 rfl ?_
          first | refine q_and dX0_quickest_19 ?_ | refine am_x_pu dX0_quickest_19 rfl ?_
          refine f_if_eq dX0_quickest_20 (tgt := 27) rfl (by rw [bit_and, if_pos hbt]; exact zf1) ?_
          refine q_ic (v := nI 1) dX0_quickest_23 rfl ?_
          refine am_x_goto (tgt := 28) dX0_quickest_24 rfl ?_
          refine q_is dX0_quickest_28 (by decide) ?_
          refine am_nl (pc' := 30) (l' := [_, _, _, _, _]) rfl rfl ?_
          refine q_il dX0_quickest_30 rfl ?_
          refine f_if_eq dX0_quickest_32 (tgt := 63) rfl (by exact zf1) ?_
          refine q_iln dX0_quickest_35 rfl ?_
          refine q_ic (v := -1) dX0_quickest_36 rfl ?_
          refine f_ic_eq dX0_quickest_37 (tgt := 61) rfl (by exact nI_m1 (by omega)) ?_
          refine q_aln dX0_quickest_40 rfl ?_
          refine q_getR dX0_quickest_41 fl_X0_9 (ws_20 hW) rfl (wp_20_0 hW) ?_
          refine q_ic (v := nI 1) dX0_quickest_44 rfl ?_
          refine q_iln dX0_quickest_45 rfl ?_
          refine q_V2 (N := m_X5_fact) dX0_quickest_46 lk_X0_81 mV_X5_fact (c_fact hW hM (i := 1) (by omega) (by omega)) (by decide) (ws_9 hW) rfl (by decide) (Nat.le_of_ble_eq_true rfl) (Nat.le_of_ble_eq_true rfl) ?_
          refine q_aln dX0_quickest_49 rfl ?_
          refine q_getR dX0_quickest_50 fl_X0_9 (ws_20 hW) rfl (wp_20_0 hW) ?_
          refine q_ic (v := nI 1) dX0_quickest_53 rfl ?_
          refine q_iln dX0_quickest_54 rfl ?_
          refine q_V2 (N := m_X5_fact) dX0_quickest_55 lk_X0_81 mV_X5_fact (c_fact hW hM (i := 1) (j := w) (by omega) (by omega)) (by decide) (ws_9 hW) rfl (by decide) (Nat.le_of_ble_eq_true rfl) (Nat.le_of_ble_eq_true rfl) ?_
          refine f_ic_ge dX0_quickest_58 (tgt := 63) rfl (by exact nI_ge (by omega) (by omega)) ?_
          refine q_iln dX0_quickest_61 rfl ?_
          refine q_isn dX0_quickest_62 (by decide) ?_
          refine am_nl (pc' := 63) (l' := [_, _, _, _, _]) rfl rfl ?_
          refine q_inc dX0_quickest_63 rfl (by decide) ?_
          refine am_nl (pc' := 66) (l' := [_, _, _, _, _]) rfl rfl ?_
          refine am_x_goto (tgt := 4) dX0_quickest_66 rfl ?_
          exact ih2 _
        · have e : qkl F b (j + 1) = some w := by simp only [qkl, hbt, hq, if_true, hlt, if_false]
          have ih2 := ih (j + 1) (by omega)
          rw [e] at ih2
          refine q_iln dX0_quickest_4 rfl ?_
          refine q_aln dX0_quickest_5 rfl ?_
          refine q_getR dX0_quickest_6 fl_X0_9 (ws_20 hW) rfl (wp_20_0 hW) ?_
          refine q_getI dX0_quickest_9 fl_X0_53 (ws_9 hW) rfl hM.1 ?_
          refine f_ic_ge dX0_quickest_12 (tgt := 69) rfl (by exact nI_ge (by omega) (by omega)) ?_
          refine q_iln dX0_quickest_15 rfl ?_
          refine q_iln dX0_quickest_16 rfl ?_
          first | refine q_shr dX0_quickest_17 (by omega) (by omega) ?_ | refine am_x_pu dX0_quickest_17 rfl ?_
          refine q_ic (v := nI 1) dX0_quickest_18 rfl ?_
          first | refine q_and dX0_quickest_19 ?_ | refine am_x_pu dX0_quickest_19 rfl ?_
          refine f_if_eq dX0_quickest_20 (tgt := 27) rfl (by rw [bit_and, if_pos hbt]; exact zf1) ?_
          refine q_ic (v := nI 1) dX0_quickest_23 rfl ?_
          refine am_x_goto (tgt := 28) dX0_quickest_24 rfl ?_
          refine q_is dX0_quickest_28 (by decide) ?_
          refine am_nl (pc' := 30) (l' := [_, _, _, _, _]) rfl rfl ?_
          refine q_il dX0_quickest_30 rfl ?_
          refine f_if_eq dX0_quickest_32 (tgt := 63) rfl (by exact zf1) ?_
          refine q_iln dX0_quickest_35 rfl ?_
          refine q_ic (v := -1) dX0_quickest_36 rfl ?_
          refine f_ic_eq dX0_quickest_37 (tgt := 61) rfl (by exact nI_m1 (by omega)) ?_
          refine q_aln dX0_quickest_40 rfl ?_
          refine q_getR dX0_quickest_41 fl_X0_9 (ws_20 hW) rfl (wp_20_0 hW) ?_
          refine q_ic (v := nI 1) dX0_quickest_44 rfl ?_
          refine q_iln dX0_quickest_45 rfl ?_
          refine q_V2 (N := m_X5_fact) dX0_quickest_46 lk_X0_81 mV_X5_fact (c_fact hW hM (i := 1) (by omega) (by omega)) (by decide) (ws_9 hW) rfl (by decide) (Nat.le_of_ble_eq_true rfl) (Nat.le_of_ble_eq_true rfl) ?_
          refine q_aln dX0_quickest_49 rfl ?_
          refine q_getR dX0_quickest_50 fl_X0_9 (ws_20 hW) rfl (wp_20_0 hW) ?_
          refine q_ic (v := nI 1) dX0_quickest_53 rfl ?_
          refine q_iln dX0_quickest_54 rfl ?_
          refine q_V2 (N := m_X5_fact) dX0_quickest_55 lk_X0_81 mV_X5_fact (c_fact hW hM (i := 1) (j := w) (by omega) (by omega)) (by decide) (ws_9 hW) rfl (by decide) (Nat.le_of_ble_eq_true rfl) (Nat.le_of_ble_eq_true rfl) ?_
          refine t_ic_ge 63 dX0_quickest_58 rfl (by exact nI_le (by omega) (by omega)) ?_
          refine q_inc dX0_quickest_63 rfl (by decide) ?_
          refine am_nl (pc' := 66) (l' := [_, _, _, _, _]) rfl rfl ?_
          refine am_x_goto (tgt := 4) dX0_quickest_66 rfl ?_
          exact ih2 _
    · have e : qkl F b (j + 1) = qkl F b j := by simp only [qkl, hbt]; simp
      have ih2 := ih (j + 1) (by omega)
      rw [e] at ih2
      refine q_iln dX0_quickest_4 rfl ?_
      refine q_aln dX0_quickest_5 rfl ?_
      refine q_getR dX0_quickest_6 fl_X0_9 (ws_20 hW) rfl (wp_20_0 hW) ?_
      refine q_getI dX0_quickest_9 fl_X0_53 (ws_9 hW) rfl hM.1 ?_
      refine f_ic_ge dX0_quickest_12 (tgt := 69) rfl (by exact nI_ge (by omega) (by omega)) ?_
      refine q_iln dX0_quickest_15 rfl ?_
      refine q_iln dX0_quickest_16 rfl ?_
      first | refine q_shr dX0_quickest_17 (by omega) (by omega) ?_ | refine am_x_pu dX0_quickest_17 rfl ?_
      refine q_ic (v := nI 1) dX0_quickest_18 rfl ?_
      first | refine q_and dX0_quickest_19 ?_ | refine am_x_pu dX0_quickest_19 rfl ?_
      refine t_if_eq 27 dX0_quickest_20 rfl (by rw [bit_and, if_neg hbt]; rfl) ?_
      refine q_ic (v := nI 0) dX0_quickest_27 rfl ?_
      refine q_is dX0_quickest_28 (by decide) ?_
      refine am_nl (pc' := 30) (l' := [_, _, _, _, _]) rfl rfl ?_
      refine q_il dX0_quickest_30 rfl ?_
      refine t_if_eq 63 dX0_quickest_32 rfl (by rfl) ?_
      refine q_inc dX0_quickest_63 rfl (by decide) ?_
      refine am_nl (pc' := 66) (l' := [_, _, _, _, _]) rfl rfl ?_
      refine am_x_goto (tgt := 4) dX0_quickest_66 rfl ?_
      exact ih2 _
set_option maxHeartbeats 2000000 in
theorem c_quickest {h : am_H} {n : Nat} {g : Bool} {F : Nat → Nat → Nat} (hW : Wd h) (hM : MB h n g F) {b : Nat} (hb : b < 128) : am_C 1 m_X0_quickest [.ref 20, .int (nI b)] h (some (.int (oN (qkl F b n))), h) := by
  refine q_ic (v := -1) dX0_quickest_0 rfl ?_
  refine q_isn dX0_quickest_1 (by decide) ?_
  refine am_nl (pc' := 2) (l' := [_, _, _, _, _]) rfl rfl ?_
  refine q_ic (v := nI 0) dX0_quickest_2 rfl ?_
  refine q_isn dX0_quickest_3 (by decide) ?_
  refine am_nl (pc' := 4) (l' := [_, _, _, _, _]) rfl rfl ?_
  exact c_quick_lp hW hM hb n 0 (by omega) none
set_option maxHeartbeats 2000000 in
theorem c_rh_lp {h : am_H} {n : Nat} {g : Bool} {F : Nat → Nat → Nat} (hW : Wd h) (hM : MB h n g F) (h0n : 0 < n) {O st0 : Nat} (hO8 : O < 128) (hO : ∀ i, O.testBit i = true → i < n) {l3 : Option Value} : ∀ r st b sc, st + r = st0 → st0 ≤ 7 → b < 128 → (∀ i, b.testBit i = true → i < n) → sc + 1000 * r ≤ 7000 → ∀ l8, am_Sem 2 m_X0_roundHope 128 [some (.ref 20), some (.int (nI (bt (hb F) n))), some (.int (nI O)), l3, some (.int (nI st0)), some (.int (nI b)), some (.int (nI sc)), some (.int (nI st)), l8] [] h (some (.int (nI (sc + gs F n O b r))), h) := by
  have h7 := hM.2.2.1
  intro r
  induction r with
  | zero =>
    intro st b sc hr h70 hb8 hb hsc l8
    have hst : st = st0 := by omega
    subst hst
    rw [show gs F n O b 0 = 0 from rfl, Nat.add_zero]
    refine q_il dX0_roundHope_128 rfl ?_
    refine q_il dX0_roundHope_130 rfl ?_
    refine t_ic_ge 197 dX0_roundHope_132 rfl (by exact nI_le (by omega) (by omega)) ?_
    refine q_il dX0_roundHope_197 rfl ?_
    refine q_ir dX0_roundHope_199 rfl ?_
    rfl
  | succ r ih =>
    intro st b sc hr h70 hb8 hb hsc l8
    by_cases hb0 : b = 0
    · subst hb0
      have f1 := (hM.2.2.2.1 1 0 (by omega) (by omega)).2
      rw [gs_z, show sc + (vx F 0 + gs F n O O r) = sc + (1000 - F 1 0) + gs F n O O r by simp only [vx]; omega]
      refine q_il dX0_roundHope_128 rfl ?_
      refine q_il dX0_roundHope_130 rfl ?_
      refine f_ic_ge dX0_roundHope_132 (tgt := 197) rfl (by exact nI_ge (by omega) (by omega)) ?_
      refine q_il dX0_roundHope_135 rfl ?_
      refine f_if_ne dX0_roundHope_137 (tgt := 144) rfl (by rfl) ?_
      refine q_ic (v := nI 0) dX0_roundHope_140 rfl ?_
      refine am_x_goto (tgt := 150) dX0_roundHope_141 rfl ?_
      refine q_is dX0_roundHope_150 (by decide) ?_
      refine am_nl (pc' := 152) (l' := [_, _, _, _, _, _, _, _, _]) rfl rfl ?_
      refine q_il dX0_roundHope_152 rfl ?_
      refine f_if_ne dX0_roundHope_154 (tgt := 161) rfl (by rfl) ?_
      refine q_iln dX0_roundHope_157 rfl ?_
      refine am_x_goto (tgt := 170) dX0_roundHope_158 rfl ?_
      refine q_is dX0_roundHope_170 (by decide) ?_
      refine am_nl (pc' := 172) (l' := [_, _, _, _, _, _, _, _, _]) rfl rfl ?_
      refine q_il dX0_roundHope_172 rfl ?_
      refine q_sp (v := nI 1000) dX0_roundHope_174 rfl ?_
      refine q_aln dX0_roundHope_177 rfl ?_
      refine q_getR dX0_roundHope_178 fl_X0_9 (ws_20 hW) rfl (wp_20_0 hW) ?_
      refine q_ic (v := nI 1) dX0_roundHope_181 rfl ?_
      refine q_il dX0_roundHope_182 rfl ?_
      refine q_V2 (N := m_X5_fact) dX0_roundHope_184 lk_X0_81 mV_X5_fact (c_fact hW hM (i := 1) (j := 0) (by omega) (by omega)) (by decide) (ws_9 hW) rfl (by decide) (Nat.le_of_ble_eq_true rfl) (Nat.le_of_ble_eq_true rfl) ?_
      first | refine q_sub dX0_roundHope_187 (by omega) ?_ | refine am_x_pu dX0_roundHope_187 rfl ?_
      first | refine q_add dX0_roundHope_188 ?_ | refine am_x_pu dX0_roundHope_188 rfl ?_
      refine q_is dX0_roundHope_189 (by decide) ?_
      refine am_nl (pc' := 191) (l' := [_, _, _, _, _, _, _, _, _]) rfl rfl ?_
      refine q_inc dX0_roundHope_191 rfl (by decide) ?_
      refine am_nl (pc' := 194) (l' := [_, _, _, _, _, _, _, _, _]) rfl rfl ?_
      refine am_x_goto (tgt := 128) dX0_roundHope_194 rfl ?_
      exact ih (st + 1) O _ (by omega) h70 hO8 hO (by omega) _
    · have hbn : ¬ nI b = 0 := fun z => hb0 ((n_0 (by omega)).mp z)
      obtain ⟨hq0, hq1, hq2, hq3⟩ := qk_sp (F := F) hb0 hb
      have f1 := (hM.2.2.2.1 1 (qk F n b) (by omega) (by omega)).2
      have hcq := c_quickest hW hM hb8
      rw [hq0] at hcq
      have hca := clr_and b hb8 (qk F n b) (by omega)
      have hcb : ∀ i, (clr b (qk F n b)).testBit i = true → i < n := fun i hi => by
        rw [clr_t (by omega)] at hi
        simp only [Bool.and_eq_true] at hi
        exact hb i hi.1.1
      rw [gs_y hb0, show sc + (vx F (qk F n b) + gs F n O (clr b (qk F n b)) r) = sc + (1000 - F 1 (qk F n b)) + gs F n O (clr b (qk F n b)) r by simp only [vx]; omega]
      refine q_il dX0_roundHope_128 rfl ?_
      refine q_il dX0_roundHope_130 rfl ?_
      refine f_ic_ge dX0_roundHope_132 (tgt := 197) rfl (by exact nI_ge (by omega) (by omega)) ?_
      refine q_il dX0_roundHope_135 rfl ?_
      refine t_if_ne 144 dX0_roundHope_137 rfl (by exact hbn) ?_
      refine q_aln dX0_roundHope_144 rfl ?_
      refine q_il dX0_roundHope_145 rfl ?_
      refine q_V1 (N := m_X0_quickest) dX0_roundHope_147 lk_X0_167 mV_X0_quickest (hcq) (by decide) (ws_20 hW) rfl (by decide) (Nat.le_of_ble_eq_true rfl) (Nat.le_of_ble_eq_true rfl) ?_
      refine q_is dX0_roundHope_150 (by decide) ?_
      refine am_nl (pc' := 152) (l' := [_, _, _, _, _, _, _, _, _]) rfl rfl ?_
      refine q_il dX0_roundHope_152 rfl ?_
      refine t_if_ne 161 dX0_roundHope_154 rfl (by exact hbn) ?_
      refine q_il (x := nI b) dX0_roundHope_161 rfl ?_
      refine q_ic (v := nI 1) dX0_roundHope_163 rfl ?_
      refine q_il (x := nI (qk F n b)) dX0_roundHope_164 rfl ?_
      first | refine q_shl1 dX0_roundHope_166 (by omega) ?_ | refine am_x_pu dX0_roundHope_166 rfl ?_
      refine q_ic (v := -1) dX0_roundHope_167 rfl ?_
      refine am_x_pu dX0_roundHope_168 rfl ?_
      refine am_x_pu dX0_roundHope_169 rfl ?_
      rw [hca]
      refine q_is dX0_roundHope_170 (by decide) ?_
      refine am_nl (pc' := 172) (l' := [_, _, _, _, _, _, _, _, _]) rfl rfl ?_
      refine q_il dX0_roundHope_172 rfl ?_
      refine q_sp (v := nI 1000) dX0_roundHope_174 rfl ?_
      refine q_aln dX0_roundHope_177 rfl ?_
      refine q_getR dX0_roundHope_178 fl_X0_9 (ws_20 hW) rfl (wp_20_0 hW) ?_
      refine q_ic (v := nI 1) dX0_roundHope_181 rfl ?_
      refine q_il (x := nI (qk F n b)) dX0_roundHope_182 rfl ?_
      refine q_V2 (N := m_X5_fact) dX0_roundHope_184 lk_X0_81 mV_X5_fact (c_fact hW hM (i := 1) (j := qk F n b) (by omega) hq1) (by decide) (ws_9 hW) rfl (by decide) (Nat.le_of_ble_eq_true rfl) (Nat.le_of_ble_eq_true rfl) ?_
      first | refine q_sub dX0_roundHope_187 (by omega) ?_ | refine am_x_pu dX0_roundHope_187 rfl ?_
      first | refine q_add dX0_roundHope_188 ?_ | refine am_x_pu dX0_roundHope_188 rfl ?_
      refine q_is dX0_roundHope_189 (by decide) ?_
      refine am_nl (pc' := 191) (l' := [_, _, _, _, _, _, _, _, _]) rfl rfl ?_
      refine q_inc dX0_roundHope_191 rfl (by decide) ?_
      refine am_nl (pc' := 194) (l' := [_, _, _, _, _, _, _, _, _]) rfl rfl ?_
      refine am_x_goto (tgt := 128) dX0_roundHope_194 rfl ?_
      exact ih (st + 1) (clr b (qk F n b)) _ (by omega) h70 clr_lt hcb (by omega) _
set_option maxHeartbeats 2000000 in
theorem c_rh_h {h : am_H} {n : Nat} {g : Bool} {F : Nat → Nat → Nat} (hW : Wd h) (hM : MB h n g F) {v : Int32} (kk : ∀ j, am_Sem 2 m_X0_roundHope 55 [some (.ref 20), some (.int (nI (bt (hb F) n))), some (.int (nI j)), none, none, none, none, none, none] [] h (some (.int v), h)) : ∀ q j, j + q = n → am_Sem 2 m_X0_roundHope 4 [some (.ref 20), some (.int (nI (bt (hb F) j))), some (.int (nI j)), none, none, none, none, none, none] [] h (some (.int v), h) := by
  have h7 := hM.2.2.1
  intro q
  induction q with
  | zero =>
    intro j hj
    have hjn : j = n := by omega
    subst hjn
    refine q_iln dX0_roundHope_4 rfl ?_
    refine q_aln dX0_roundHope_5 rfl ?_
    refine q_getR dX0_roundHope_6 fl_X0_9 (ws_20 hW) rfl (wp_20_0 hW) ?_
    refine q_getI dX0_roundHope_9 fl_X0_53 (ws_9 hW) rfl hM.1 ?_
    refine t_ic_ge 55 dX0_roundHope_12 rfl (by exact nI_le (by omega) (by omega)) ?_
    exact kk _
  | succ q ih =>
    intro j hj
    have ih2 := ih (j + 1) (by omega)
    have f3 := (hM.2.2.2.1 3 j (by omega) (by omega)).2
    by_cases e1 : F 3 j = 1
    · have hbf : hb F j = false := by unfold hb; simp [e1]
      rw [bt_f0 hbf] at ih2
      refine q_iln dX0_roundHope_4 rfl ?_
      refine q_aln dX0_roundHope_5 rfl ?_
      refine q_getR dX0_roundHope_6 fl_X0_9 (ws_20 hW) rfl (wp_20_0 hW) ?_
      refine q_getI dX0_roundHope_9 fl_X0_53 (ws_9 hW) rfl hM.1 ?_
      refine f_ic_ge dX0_roundHope_12 (tgt := 55) rfl (by exact nI_ge (by omega) (by omega)) ?_
      refine q_iln dX0_roundHope_15 rfl ?_
      refine q_aln dX0_roundHope_16 rfl ?_
      refine q_getR dX0_roundHope_17 fl_X0_9 (ws_20 hW) rfl (wp_20_0 hW) ?_
      refine q_iln dX0_roundHope_20 rfl ?_
      refine q_V1 (N := m_X5_lives) dX0_roundHope_21 lk_X0_145 mV_X5_lives (c_lives hW hM (by omega)) (by decide) (ws_9 hW) rfl (by decide) (Nat.le_of_ble_eq_true rfl) (Nat.le_of_ble_eq_true rfl) ?_
      refine t_if_eq 46 dX0_roundHope_24 rfl (by rw [if_neg (fun z => z e1)]; rfl) ?_
      refine q_ic (v := nI 0) dX0_roundHope_46 rfl ?_
      first | refine q_or dX0_roundHope_47 ?_ | refine am_x_pu dX0_roundHope_47 rfl ?_
      refine q_isn dX0_roundHope_48 (by decide) ?_
      refine am_nl (pc' := 49) (l' := [_, _, _, _, _, _, _, _, _]) rfl rfl ?_
      refine q_inc dX0_roundHope_49 rfl (by decide) ?_
      refine am_nl (pc' := 52) (l' := [_, _, _, _, _, _, _, _, _]) rfl rfl ?_
      refine am_x_goto (tgt := 4) dX0_roundHope_52 rfl ?_
      exact ih2
    · by_cases e3 : F 3 j = 3
      · have hbf : hb F j = false := by unfold hb; simp [e3]
        rw [bt_f0 hbf] at ih2
        refine q_iln dX0_roundHope_4 rfl ?_
        refine q_aln dX0_roundHope_5 rfl ?_
        refine q_getR dX0_roundHope_6 fl_X0_9 (ws_20 hW) rfl (wp_20_0 hW) ?_
        refine q_getI dX0_roundHope_9 fl_X0_53 (ws_9 hW) rfl hM.1 ?_
        refine f_ic_ge dX0_roundHope_12 (tgt := 55) rfl (by exact nI_ge (by omega) (by omega)) ?_
        refine q_iln dX0_roundHope_15 rfl ?_
        refine q_aln dX0_roundHope_16 rfl ?_
        refine q_getR dX0_roundHope_17 fl_X0_9 (ws_20 hW) rfl (wp_20_0 hW) ?_
        refine q_iln dX0_roundHope_20 rfl ?_
        refine q_V1 (N := m_X5_lives) dX0_roundHope_21 lk_X0_145 mV_X5_lives (c_lives hW hM (by omega)) (by decide) (ws_9 hW) rfl (by decide) (Nat.le_of_ble_eq_true rfl) (Nat.le_of_ble_eq_true rfl) ?_
        refine f_if_eq dX0_roundHope_24 (tgt := 46) rfl (by rw [if_pos e1]; exact zf1) ?_
        refine q_aln dX0_roundHope_27 rfl ?_
        refine q_getR dX0_roundHope_28 fl_X0_9 (ws_20 hW) rfl (wp_20_0 hW) ?_
        refine q_ic (v := nI 3) dX0_roundHope_31 rfl ?_
        refine q_iln dX0_roundHope_32 rfl ?_
        refine q_V2 (N := m_X5_fact) dX0_roundHope_33 lk_X0_81 mV_X5_fact (c_fact hW hM (i := 3) (by omega) (by omega)) (by decide) (ws_9 hW) rfl (by decide) (Nat.le_of_ble_eq_true rfl) (Nat.le_of_ble_eq_true rfl) ?_
        refine q_ic (v := nI 3) dX0_roundHope_36 rfl ?_
        refine t_ic_eq 46 dX0_roundHope_37 rfl (by rw [e3]) ?_
        refine q_ic (v := nI 0) dX0_roundHope_46 rfl ?_
        first | refine q_or dX0_roundHope_47 ?_ | refine am_x_pu dX0_roundHope_47 rfl ?_
        refine q_isn dX0_roundHope_48 (by decide) ?_
        refine am_nl (pc' := 49) (l' := [_, _, _, _, _, _, _, _, _]) rfl rfl ?_
        refine q_inc dX0_roundHope_49 rfl (by decide) ?_
        refine am_nl (pc' := 52) (l' := [_, _, _, _, _, _, _, _, _]) rfl rfl ?_
        refine am_x_goto (tgt := 4) dX0_roundHope_52 rfl ?_
        exact ih2
      · have hbt : hb F j = true := by unfold hb; simp [e1, e3]
        rw [bt_t hbt] at ih2
        refine q_iln dX0_roundHope_4 rfl ?_
        refine q_aln dX0_roundHope_5 rfl ?_
        refine q_getR dX0_roundHope_6 fl_X0_9 (ws_20 hW) rfl (wp_20_0 hW) ?_
        refine q_getI dX0_roundHope_9 fl_X0_53 (ws_9 hW) rfl hM.1 ?_
        refine f_ic_ge dX0_roundHope_12 (tgt := 55) rfl (by exact nI_ge (by omega) (by omega)) ?_
        refine q_iln dX0_roundHope_15 rfl ?_
        refine q_aln dX0_roundHope_16 rfl ?_
        refine q_getR dX0_roundHope_17 fl_X0_9 (ws_20 hW) rfl (wp_20_0 hW) ?_
        refine q_iln dX0_roundHope_20 rfl ?_
        refine q_V1 (N := m_X5_lives) dX0_roundHope_21 lk_X0_145 mV_X5_lives (c_lives hW hM (by omega)) (by decide) (ws_9 hW) rfl (by decide) (Nat.le_of_ble_eq_true rfl) (Nat.le_of_ble_eq_true rfl) ?_
        refine f_if_eq dX0_roundHope_24 (tgt := 46) rfl (by rw [if_pos e1]; exact zf1) ?_
        refine q_aln dX0_roundHope_27 rfl ?_
        refine q_getR dX0_roundHope_28 fl_X0_9 (ws_20 hW) rfl (wp_20_0 hW) ?_
        refine q_ic (v := nI 3) dX0_roundHope_31 rfl ?_
        refine q_iln dX0_roundHope_32 rfl ?_
        refine q_V2 (N := m_X5_fact) dX0_roundHope_33 lk_X0_81 mV_X5_fact (c_fact hW hM (i := 3) (by omega) (by omega)) (by decide) (ws_9 hW) rfl (by decide) (Nat.le_of_ble_eq_true rfl) (Nat.le_of_ble_eq_true rfl) ?_
        refine q_ic (v := nI 3) dX0_roundHope_36 rfl ?_
        refine f_ic_eq dX0_roundHope_37 (tgt := 46) rfl (by exact fun z => e3 ((nI_eq (by omega) (by omega)).mp z)) ?_
        refine q_ic (v := nI 1) dX0_roundHope_40 rfl ?_
        refine q_iln dX0_roundHope_41 rfl ?_
        first | refine q_shl1 dX0_roundHope_42 (by omega) ?_ | refine am_x_pu dX0_roundHope_42 rfl ?_
        refine am_x_goto (tgt := 47) dX0_roundHope_43 rfl ?_
        first | refine q_or dX0_roundHope_47 ?_ | refine am_x_pu dX0_roundHope_47 rfl ?_
        refine q_isn dX0_roundHope_48 (by decide) ?_
        refine am_nl (pc' := 49) (l' := [_, _, _, _, _, _, _, _, _]) rfl rfl ?_
        refine q_inc dX0_roundHope_49 rfl (by decide) ?_
        refine am_nl (pc' := 52) (l' := [_, _, _, _, _, _, _, _, _]) rfl rfl ?_
        refine am_x_goto (tgt := 4) dX0_roundHope_52 rfl ?_
        exact ih2
set_option maxHeartbeats 2000000 in
theorem c_roundHope {h : am_H} {n : Nat} {g : Bool} {F : Nat → Nat → Nat} (hW : Wd h) (hM : MB h n g F) (h0n : 0 < n) : am_C 2 m_X0_roundHope [.ref 20] h (some (.int (nI (mrd F n g))), h) := by
  have h7 := hM.2.2.1
  have hH8 : bt (hb F) n < 128 := bt_128 _ h7
  have hO8 : oth F n < 128 := bt_128 _ h7
  have hand : nI (bt (hb F) n) &&& (-2) = nI (oth F n) := by rw [and_m2 _ hH8, oth_and h7]
  have hob : ∀ i, (oth F n).testBit i = true → i < n := fun i hi => (oth_t.mp hi).1
  have hL8 : bt (fun m => decide (F 3 m ≠ 1)) n < 128 := bt_128 _ h7
  refine (?_ : am_Sem 2 m_X0_roundHope 0 _ _ _ _)
  by_cases hO : oth F n = 0
  · have e : mrd F n g = 0 := if_pos (Or.inl hO)
    rw [e]
    refine q_ic (v := nI 0) dX0_roundHope_0 rfl ?_
    refine q_isn dX0_roundHope_1 (by decide) ?_
    refine am_nl (pc' := 2) (l' := [_, _, _, _, _, _, _, _, _]) rfl rfl ?_
    refine q_ic (v := nI 0) dX0_roundHope_2 rfl ?_
    refine q_isn dX0_roundHope_3 (by decide) ?_
    refine am_nl (pc' := 4) (l' := [_, _, _, _, _, _, _, _, _]) rfl rfl ?_
    refine c_rh_h hW hM (fun j => ?_) n 0 (by omega)
    refine q_iln dX0_roundHope_55 rfl ?_
    refine q_bp (v := -2) dX0_roundHope_56 rfl ?_
    refine am_x_pu dX0_roundHope_58 rfl ?_
    rw [hand]
    refine q_isn dX0_roundHope_59 (by decide) ?_
    refine am_nl (pc' := 60) (l' := [_, _, _, _, _, _, _, _, _]) rfl rfl ?_
    refine q_iln dX0_roundHope_60 rfl ?_
    refine t_if_eq 75 dX0_roundHope_61 rfl (by rw [hO]; rfl) ?_
    refine q_ic (v := nI 0) dX0_roundHope_75 rfl ?_
    refine q_ir dX0_roundHope_76 rfl ?_
    rfl
  · have hOn : ¬ nI (oth F n) = 0 := fun z => hO ((n_0 (by omega)).mp z)
    by_cases hy : F 3 0 = 1
    · have e : mrd F n g = 0 := if_pos (Or.inr hy)
      rw [e]
      refine q_ic (v := nI 0) dX0_roundHope_0 rfl ?_
      refine q_isn dX0_roundHope_1 (by decide) ?_
      refine am_nl (pc' := 2) (l' := [_, _, _, _, _, _, _, _, _]) rfl rfl ?_
      refine q_ic (v := nI 0) dX0_roundHope_2 rfl ?_
      refine q_isn dX0_roundHope_3 (by decide) ?_
      refine am_nl (pc' := 4) (l' := [_, _, _, _, _, _, _, _, _]) rfl rfl ?_
      refine c_rh_h hW hM (fun j => ?_) n 0 (by omega)
      refine q_iln dX0_roundHope_55 rfl ?_
      refine q_bp (v := -2) dX0_roundHope_56 rfl ?_
      refine am_x_pu dX0_roundHope_58 rfl ?_
      rw [hand]
      refine q_isn dX0_roundHope_59 (by decide) ?_
      refine am_nl (pc' := 60) (l' := [_, _, _, _, _, _, _, _, _]) rfl rfl ?_
      refine q_iln dX0_roundHope_60 rfl ?_
      refine f_if_eq dX0_roundHope_61 (tgt := 75) rfl (by exact hOn) ?_
      refine q_aln dX0_roundHope_64 rfl ?_
      refine q_getR dX0_roundHope_65 fl_X0_9 (ws_20 hW) rfl (wp_20_0 hW) ?_
      refine q_ic (v := nI 0) dX0_roundHope_68 rfl ?_
      refine q_V1 (N := m_X5_lives) dX0_roundHope_69 lk_X0_145 mV_X5_lives (c_lives hW hM (j := 0) h0n) (by decide) (ws_9 hW) rfl (by decide) (Nat.le_of_ble_eq_true rfl) (Nat.le_of_ble_eq_true rfl) ?_
      refine f_if_ne dX0_roundHope_72 (tgt := 77) rfl (by rw [if_neg (fun z => z hy)]; rfl) ?_
      refine q_ic (v := nI 0) dX0_roundHope_75 rfl ?_
      refine q_ir dX0_roundHope_76 rfl ?_
      rfl
    · have e : mrd F n g = 0 + gs F n (oth F n) (oth F n) (stp F n g) := by
        unfold mrd
        rw [if_neg (fun z => z.elim hO hy), Nat.zero_add]
      rw [e]
      have hs7 := stp_le (F := F) (n := n) (g := g)
      have lp : ∀ l3 l8, am_Sem 2 m_X0_roundHope 128 [some (.ref 20), some (.int (nI (bt (hb F) n))), some (.int (nI (oth F n))), l3, some (.int (nI (stp F n g))), some (.int (nI (oth F n))), some (.int (nI 0)), some (.int (nI 0)), l8] [] h (some (.int (nI (0 + gs F n (oth F n) (oth F n) (stp F n g)))), h) := fun l3 l8 => c_rh_lp hW hM h0n hO8 hob (stp F n g) 0 (oth F n) 0 (by omega) hs7 hO8 hob (by omega) l8
      cases hg : g with
      | false =>
        have hgz : am_i h 9 1 = nI 0 := by rw [hM.2.1, hg]; rfl
        have hst : stp F n false = popc (oth F n) := if_neg (fun z => by have := z.1; cases this)
        rw [hg, hst] at lp
        rw [hst]
        refine q_ic (v := nI 0) dX0_roundHope_0 rfl ?_
        refine q_isn dX0_roundHope_1 (by decide) ?_
        refine am_nl (pc' := 2) (l' := [_, _, _, _, _, _, _, _, _]) rfl rfl ?_
        refine q_ic (v := nI 0) dX0_roundHope_2 rfl ?_
        refine q_isn dX0_roundHope_3 (by decide) ?_
        refine am_nl (pc' := 4) (l' := [_, _, _, _, _, _, _, _, _]) rfl rfl ?_
        refine c_rh_h hW hM (fun j => ?_) n 0 (by omega)
        refine q_iln dX0_roundHope_55 rfl ?_
        refine q_bp (v := -2) dX0_roundHope_56 rfl ?_
        refine am_x_pu dX0_roundHope_58 rfl ?_
        rw [hand]
        refine q_isn dX0_roundHope_59 (by decide) ?_
        refine am_nl (pc' := 60) (l' := [_, _, _, _, _, _, _, _, _]) rfl rfl ?_
        refine q_iln dX0_roundHope_60 rfl ?_
        refine f_if_eq dX0_roundHope_61 (tgt := 75) rfl (by exact hOn) ?_
        refine q_aln dX0_roundHope_64 rfl ?_
        refine q_getR dX0_roundHope_65 fl_X0_9 (ws_20 hW) rfl (wp_20_0 hW) ?_
        refine q_ic (v := nI 0) dX0_roundHope_68 rfl ?_
        refine q_V1 (N := m_X5_lives) dX0_roundHope_69 lk_X0_145 mV_X5_lives (c_lives hW hM (j := 0) h0n) (by decide) (ws_9 hW) rfl (by decide) (Nat.le_of_ble_eq_true rfl) (Nat.le_of_ble_eq_true rfl) ?_
        refine t_if_ne 77 dX0_roundHope_72 rfl (by rw [if_pos hy]; exact zf1) ?_
        refine q_aln dX0_roundHope_77 rfl ?_
        refine q_getR dX0_roundHope_78 fl_X0_9 (ws_20 hW) rfl (wp_20_0 hW) ?_
        refine q_getI dX0_roundHope_81 fl_X0_59 (ws_9 hW) rfl hgz ?_
        refine t_if_eq 102 dX0_roundHope_84 rfl (by rfl) ?_
        refine q_ic (v := nI 0) dX0_roundHope_102 rfl ?_
        refine q_isn dX0_roundHope_103 (by decide) ?_
        refine am_nl (pc' := 104) (l' := [_, _, _, _, _, _, _, _, _]) rfl rfl ?_
        refine q_iln dX0_roundHope_104 rfl ?_
        refine t_if_eq 113 dX0_roundHope_105 rfl (by rfl) ?_
        refine q_iln dX0_roundHope_113 rfl ?_
        refine q_S1 (N := m_J6_bitCount_0f7a4) dX0_roundHope_114 lk_X0_97 mS_J6_bitCount_0f7a4 (c_bitCount hO8) (by decide) (Nat.le_of_ble_eq_true rfl) (Nat.le_of_ble_eq_true rfl) ?_
        refine q_is dX0_roundHope_117 (by decide) ?_
        refine am_nl (pc' := 119) (l' := [_, _, _, _, _, _, _, _, _]) rfl rfl ?_
        refine q_iln dX0_roundHope_119 rfl ?_
        refine q_is dX0_roundHope_120 (by decide) ?_
        refine am_nl (pc' := 122) (l' := [_, _, _, _, _, _, _, _, _]) rfl rfl ?_
        refine q_ic (v := nI 0) dX0_roundHope_122 rfl ?_
        refine q_is dX0_roundHope_123 (by decide) ?_
        refine am_nl (pc' := 125) (l' := [_, _, _, _, _, _, _, _, _]) rfl rfl ?_
        refine q_ic (v := nI 0) dX0_roundHope_125 rfl ?_
        refine q_is dX0_roundHope_126 (by decide) ?_
        refine am_nl (pc' := 128) (l' := [_, _, _, _, _, _, _, _, _]) rfl rfl ?_
        exact lp _ _
      | true =>
        have hgo : am_i h 9 1 = nI 1 := by rw [hM.2.1, hg]; rfl
        by_cases hc : bt (hb F) n = bt (fun m => decide (F 3 m ≠ 1)) n
        · have hst : stp F n true = 7 := if_pos ⟨rfl, hc⟩
          rw [hg, hst] at lp
          rw [hst]
          refine q_ic (v := nI 0) dX0_roundHope_0 rfl ?_
          refine q_isn dX0_roundHope_1 (by decide) ?_
          refine am_nl (pc' := 2) (l' := [_, _, _, _, _, _, _, _, _]) rfl rfl ?_
          refine q_ic (v := nI 0) dX0_roundHope_2 rfl ?_
          refine q_isn dX0_roundHope_3 (by decide) ?_
          refine am_nl (pc' := 4) (l' := [_, _, _, _, _, _, _, _, _]) rfl rfl ?_
          refine c_rh_h hW hM (fun j => ?_) n 0 (by omega)
          refine q_iln dX0_roundHope_55 rfl ?_
          refine q_bp (v := -2) dX0_roundHope_56 rfl ?_
          refine am_x_pu dX0_roundHope_58 rfl ?_
          rw [hand]
          refine q_isn dX0_roundHope_59 (by decide) ?_
          refine am_nl (pc' := 60) (l' := [_, _, _, _, _, _, _, _, _]) rfl rfl ?_
          refine q_iln dX0_roundHope_60 rfl ?_
          refine f_if_eq dX0_roundHope_61 (tgt := 75) rfl (by exact hOn) ?_
          refine q_aln dX0_roundHope_64 rfl ?_
          refine q_getR dX0_roundHope_65 fl_X0_9 (ws_20 hW) rfl (wp_20_0 hW) ?_
          refine q_ic (v := nI 0) dX0_roundHope_68 rfl ?_
          refine q_V1 (N := m_X5_lives) dX0_roundHope_69 lk_X0_145 mV_X5_lives (c_lives hW hM (j := 0) h0n) (by decide) (ws_9 hW) rfl (by decide) (Nat.le_of_ble_eq_true rfl) (Nat.le_of_ble_eq_true rfl) ?_
          refine t_if_ne 77 dX0_roundHope_72 rfl (by rw [if_pos hy]; exact zf1) ?_
          refine q_aln dX0_roundHope_77 rfl ?_
          refine q_getR dX0_roundHope_78 fl_X0_9 (ws_20 hW) rfl (wp_20_0 hW) ?_
          refine q_getI dX0_roundHope_81 fl_X0_59 (ws_9 hW) rfl hgo ?_
          refine f_if_eq dX0_roundHope_84 (tgt := 102) rfl (by exact zf1) ?_
          refine q_iln dX0_roundHope_87 rfl ?_
          refine q_aln dX0_roundHope_88 rfl ?_
          refine q_getR dX0_roundHope_89 fl_X0_9 (ws_20 hW) rfl (wp_20_0 hW) ?_
          refine q_V0 (N := m_X5_living) dX0_roundHope_92 lk_X0_93 mV_X5_living (c_living hW hM) (by decide) (ws_9 hW) rfl (by decide) (Nat.le_of_ble_eq_true rfl) (Nat.le_of_ble_eq_true rfl) ?_
          refine f_ic_ne dX0_roundHope_95 (tgt := 102) rfl (by rw [hc]) ?_
          refine q_ic (v := nI 1) dX0_roundHope_98 rfl ?_
          refine am_x_goto (tgt := 103) dX0_roundHope_99 rfl ?_
          refine q_isn dX0_roundHope_103 (by decide) ?_
          refine am_nl (pc' := 104) (l' := [_, _, _, _, _, _, _, _, _]) rfl rfl ?_
          refine q_iln dX0_roundHope_104 rfl ?_
          refine f_if_eq dX0_roundHope_105 (tgt := 113) rfl (by exact zf1) ?_
          refine q_bp (v := nI 7) dX0_roundHope_108 rfl ?_
          refine am_x_goto (tgt := 117) dX0_roundHope_110 rfl ?_
          refine q_is dX0_roundHope_117 (by decide) ?_
          refine am_nl (pc' := 119) (l' := [_, _, _, _, _, _, _, _, _]) rfl rfl ?_
          refine q_iln dX0_roundHope_119 rfl ?_
          refine q_is dX0_roundHope_120 (by decide) ?_
          refine am_nl (pc' := 122) (l' := [_, _, _, _, _, _, _, _, _]) rfl rfl ?_
          refine q_ic (v := nI 0) dX0_roundHope_122 rfl ?_
          refine q_is dX0_roundHope_123 (by decide) ?_
          refine am_nl (pc' := 125) (l' := [_, _, _, _, _, _, _, _, _]) rfl rfl ?_
          refine q_ic (v := nI 0) dX0_roundHope_125 rfl ?_
          refine q_is dX0_roundHope_126 (by decide) ?_
          refine am_nl (pc' := 128) (l' := [_, _, _, _, _, _, _, _, _]) rfl rfl ?_
          exact lp _ _
        · have hst : stp F n true = popc (oth F n) := if_neg (fun z => hc z.2)
          rw [hg, hst] at lp
          rw [hst]
          refine q_ic (v := nI 0) dX0_roundHope_0 rfl ?_
          refine q_isn dX0_roundHope_1 (by decide) ?_
          refine am_nl (pc' := 2) (l' := [_, _, _, _, _, _, _, _, _]) rfl rfl ?_
          refine q_ic (v := nI 0) dX0_roundHope_2 rfl ?_
          refine q_isn dX0_roundHope_3 (by decide) ?_
          refine am_nl (pc' := 4) (l' := [_, _, _, _, _, _, _, _, _]) rfl rfl ?_
          refine c_rh_h hW hM (fun j => ?_) n 0 (by omega)
          refine q_iln dX0_roundHope_55 rfl ?_
          refine q_bp (v := -2) dX0_roundHope_56 rfl ?_
          refine am_x_pu dX0_roundHope_58 rfl ?_
          rw [hand]
          refine q_isn dX0_roundHope_59 (by decide) ?_
          refine am_nl (pc' := 60) (l' := [_, _, _, _, _, _, _, _, _]) rfl rfl ?_
          refine q_iln dX0_roundHope_60 rfl ?_
          refine f_if_eq dX0_roundHope_61 (tgt := 75) rfl (by exact hOn) ?_
          refine q_aln dX0_roundHope_64 rfl ?_
          refine q_getR dX0_roundHope_65 fl_X0_9 (ws_20 hW) rfl (wp_20_0 hW) ?_
          refine q_ic (v := nI 0) dX0_roundHope_68 rfl ?_
          refine q_V1 (N := m_X5_lives) dX0_roundHope_69 lk_X0_145 mV_X5_lives (c_lives hW hM (j := 0) h0n) (by decide) (ws_9 hW) rfl (by decide) (Nat.le_of_ble_eq_true rfl) (Nat.le_of_ble_eq_true rfl) ?_
          refine t_if_ne 77 dX0_roundHope_72 rfl (by rw [if_pos hy]; exact zf1) ?_
          refine q_aln dX0_roundHope_77 rfl ?_
          refine q_getR dX0_roundHope_78 fl_X0_9 (ws_20 hW) rfl (wp_20_0 hW) ?_
          refine q_getI dX0_roundHope_81 fl_X0_59 (ws_9 hW) rfl hgo ?_
          refine f_if_eq dX0_roundHope_84 (tgt := 102) rfl (by exact zf1) ?_
          refine q_iln dX0_roundHope_87 rfl ?_
          refine q_aln dX0_roundHope_88 rfl ?_
          refine q_getR dX0_roundHope_89 fl_X0_9 (ws_20 hW) rfl (wp_20_0 hW) ?_
          refine q_V0 (N := m_X5_living) dX0_roundHope_92 lk_X0_93 mV_X5_living (c_living hW hM) (by decide) (ws_9 hW) rfl (by decide) (Nat.le_of_ble_eq_true rfl) (Nat.le_of_ble_eq_true rfl) ?_
          refine t_ic_ne 102 dX0_roundHope_95 rfl (by exact fun z => hc ((nI_eq (by omega) (by omega)).mp z)) ?_
          refine q_ic (v := nI 0) dX0_roundHope_102 rfl ?_
          refine q_isn dX0_roundHope_103 (by decide) ?_
          refine am_nl (pc' := 104) (l' := [_, _, _, _, _, _, _, _, _]) rfl rfl ?_
          refine q_iln dX0_roundHope_104 rfl ?_
          refine t_if_eq 113 dX0_roundHope_105 rfl (by rfl) ?_
          refine q_iln dX0_roundHope_113 rfl ?_
          refine q_S1 (N := m_J6_bitCount_0f7a4) dX0_roundHope_114 lk_X0_97 mS_J6_bitCount_0f7a4 (c_bitCount hO8) (by decide) (Nat.le_of_ble_eq_true rfl) (Nat.le_of_ble_eq_true rfl) ?_
          refine q_is dX0_roundHope_117 (by decide) ?_
          refine am_nl (pc' := 119) (l' := [_, _, _, _, _, _, _, _, _]) rfl rfl ?_
          refine q_iln dX0_roundHope_119 rfl ?_
          refine q_is dX0_roundHope_120 (by decide) ?_
          refine am_nl (pc' := 122) (l' := [_, _, _, _, _, _, _, _, _]) rfl rfl ?_
          refine q_ic (v := nI 0) dX0_roundHope_122 rfl ?_
          refine q_is dX0_roundHope_123 (by decide) ?_
          refine am_nl (pc' := 125) (l' := [_, _, _, _, _, _, _, _, _]) rfl rfl ?_
          refine q_ic (v := nI 0) dX0_roundHope_125 rfl ?_
          refine q_is dX0_roundHope_126 (by decide) ?_
          refine am_nl (pc' := 128) (l' := [_, _, _, _, _, _, _, _, _]) rfl rfl ?_
          exact lp _ _
