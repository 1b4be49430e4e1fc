/-! the reference's best -/
/-- those who do not sit yet, as bits -/
def UB (n : Nat) (pre : List Nat) (b : Nat) : Prop := b < 2 ^ n ∧ ∀ m, m < n → b.testBit m = decide (m ∉ pre)
theorem clr_and : ∀ b, b < 128 → ∀ m, m < 7 → nI b &&& (nI (2 ^ m) ^^^ (-1)) = nI (b &&& (127 - 2 ^ m)) := by decide +kernel
theorem clr_bit : ∀ m, m < 7 → ∀ i, i < 7 → (127 - 2 ^ m).testBit i = decide (i ≠ m) := by decide +kernel
theorem UB.lt {n : Nat} {pre : List Nat} {b : Nat} (u : UB n pre b) (h7 : n ≤ 7) : b < 128 := Nat.lt_of_lt_of_le u.1 (Nat.pow_le_pow_right (by omega) h7)
theorem UB.put {n : Nat} {pre : List Nat} {b m : Nat} (u : UB n pre b) (h7 : n ≤ 7) (hm : m < n) : UB n (pre ++ [m]) (b &&& (127 - 2 ^ m)) := by
  refine ⟨Nat.lt_of_le_of_lt Nat.and_le_left u.1, fun i hi => ?_⟩
  rw [Nat.testBit_and, u.2 i hi, clr_bit m (by omega) i (by omega)]
  by_cases e : i ∈ pre
  · simp [e]
  · by_cases e2 : i = m
    · simp [e, e2]
    · simp [e, e2]
theorem UB.zero {n : Nat} {pre : List Nat} {b : Nat} (u : UB n pre b) (h1 : pre.Nodup) (h2 : ∀ x ∈ pre, x < n) (h3 : pre.length = n) : b = 0 := by
  have hall : ∀ m, m < n → m ∈ pre := fun m hm => by
    have p := sl_pm h1 h2 h3
    have := p.2 m hm
    rw [← this.2]
    exact sl_mem (by omega)
  apply Nat.eq_of_testBit_eq
  intro i
  rw [Nat.zero_testBit]
  by_cases hi : i < n
  · rw [u.2 i hi]
    simp [hall i hi]
  · exact Nat.testBit_lt_two_pow (Nat.lt_of_lt_of_le u.1 (Nat.pow_le_pow_right (by omega) (by omega)))
theorem UB.pos {n : Nat} {pre : List Nat} {b : Nat} (u : UB n pre b) (h1 : pre.Nodup) (h2 : ∀ x ∈ pre, x < n) (h3 : pre.length < n) : b ≠ 0 := fun z => by
  have := lvx_ne (k := n - pre.length - 1 + 1) h1 h2 (by omega)
  obtain ⟨l, hl⟩ := List.exists_mem_of_ne_nil _ this
  simp only [lvx] at hl
  obtain ⟨m, _, hm, hn, _⟩ := lvm_mem hl
  have := u.2 m (by omega)
  rw [z, Nat.zero_testBit] at this
  simp [hn] at this
theorem UB.nil {n : Nat} : UB n [] (2 ^ n - 1) := ⟨by have := Nat.two_pow_pos n; omega, fun m hm => by rw [Nat.testBit_two_pow_sub_one]; simp [hm]⟩
/-- the seatings laid -/
def SLs (h : am_H) (Q : List Nat) : Prop := am_i h 50 33 = nI Q.length ∧ Q.length ≤ 5040 ∧ ∀ i, i < Q.length → am_i h 66 i = nI (Q.getD i 0)
theorem SLs.put {h : am_H} {Q : List Nat} (m : SLs h Q) (h1 : Q.length < 5040) (v : Nat) : SLs (am_wI (am_wI h 66 Q.length (nI v)) 50 33 (nI (Q.length + 1))) (Q ++ [v]) := by
  refine ⟨by rw [wI_e0]; simp, by simp; omega, fun i hi => ?_⟩
  simp only [List.length_append, List.length_cons, List.length_nil] at hi
  rw [wI_ne (by decide), wI_eq]
  by_cases e : i = Q.length
  · rw [if_pos e, e]; simp [List.getD_eq_getElem?_getD]
  · rw [if_neg e, m.2.2 i (by omega)]
    simp only [List.getD_eq_getElem?_getD]
    rw [List.getElem?_append_left (by omega)]
theorem SLs.fx {A : List Nat} {B : List (Nat × Nat)} {h h' : am_H} {Q : List Nat} (m : SLs h Q) (a : Fx A B h h') (ok : 50 ∉ A ∧ 66 ∉ A ∧ (50, 33) ∉ B ∧ 66 ∉ B.map Prod.fst) : SLs h' Q := by
  unfold SLs at m ⊢
  rw [a.i ok.1 ok.2.2.1, a.ia ok.2.1 ok.2.2.2]
  exact m
abbrev dgl (n : Nat) (l : List Nat) : Nat := dg (sl l) n
theorem dgl_lt {n : Nat} {l : List Nat} (h7 : n ≤ 7) (h2 : ∀ x ∈ l, x < n) (h3 : l.length = n) : dgl n l < 10000000 := by
  have := dg_lt (S := sl l) (n := n) (fun s hs => by have := h2 _ (sl_mem (l := l) (s := s) (by omega)); omega) n (Nat.le_refl _)
  have h4 : 10 ^ n ≤ 10 ^ 7 := Nat.pow_le_pow_right (by omega) h7
  show dg (sl l) n < 10000000
  omega
set_option maxHeartbeats 2000000 in
theorem r_build {n : Nat} (h7 : n ≤ 7) : ∀ k pre b Q h, pre.Nodup → (∀ x ∈ pre, x < n) → pre.length + k = n → UB n pre b → Wd h → am_i h 50 21 = nI n → SLs h Q → Q.length + (lvx n k pre).length ≤ 5040 → am_D (k + 1) m_X12_build [.ref 50, .int (nI (dg (sl pre) pre.length)), .int (nI b)] h (fun w h2 => w = none ∧ Fx [66] [(50, 33)] h h2 ∧ SLs h2 (Q ++ (lvx n k pre).map (dgl n))) := by
  intro k
  induction k with
  | zero =>
    intro pre b Q h h1 h2 h3 u hW hn hQ hc
    have hb : b = 0 := u.zero h1 h2 (by omega)
    subst hb
    have hpl : pre.length = n := by omega
    have e : Q ++ (lvx n 0 pre).map (dgl n) = Q ++ [dg (sl pre) pre.length] := by simp only [lvx, List.map_cons, List.map_nil, dgl, hpl]
    rw [e]
    simp only [lvx, List.length_cons, List.length_nil] at hc
    have hq1 := hQ.1
    refine Eq_iln dX12_build_0 rfl ?_
    refine Ef_if_ne dX12_build_1 (tgt := 25) rfl (by rfl) ?_
    refine Eq_aln dX12_build_4 rfl ?_
    refine Eq_getR dX12_build_5 fl_X12_60 (ws_50 hW) rfl (wp_50_31 hW) ?_
    refine Eq_aln dX12_build_8 rfl ?_
    refine Eq_getI dX12_build_9 fl_X12_362 (ws_50 hW) rfl hq1 ?_
    refine Eq_iln dX12_build_12 rfl ?_
    refine Eq_ast dX12_build_13 (ws_66 hW) (by omega) (by omega) ?_
    refine Eq_aln dX12_build_14 rfl ?_
    refine Eam_x_pu dX12_build_15 rfl ?_
    refine Eq_getI dX12_build_16 fl_X12_362 (ws_50 hW) rfl hq1 ?_
    refine Eq_ic (v := nI 1) dX12_build_19 rfl ?_
    first | refine Eq_add dX12_build_20 ?_ | refine Eam_x_pu dX12_build_20 rfl ?_
    refine Eam_x_putI dX12_build_21 (fw_X12_362 rfl) (ws_50 hW) (Or.inl rfl) ?_
    refine Eq_vr dX12_build_24 rfl ?_
    exact ⟨rfl, (Fx.wI (Or.inl (by decide))).tr (Fx.wI (Or.inr (by decide))), hQ.put (by omega) _⟩
  | succ k ih =>
    intro pre b Q h h1 h2 h3 u hW hn hQ hc
    have hb0 := u.pos h1 h2 (by omega)
    have hb8 := u.lt h7
    have lp : ∀ q j Q h3, j + q = n → Wd h3 → am_i h3 50 21 = nI n → SLs h3 Q → Fx [66] [(50, 33)] h h3 → Q.length + (lvm (fun m => lvx n k (pre ++ [m])) pre q j).length ≤ 5040 → am_E (k + 1 + 1) m_X12_build 27 [some (.ref 50), some (.int (nI (dg (sl pre) pre.length))), some (.int (nI b)), some (.int (nI j))] [] h3 (fun w h2 => w = none ∧ Fx [66] [(50, 33)] h h2 ∧ SLs h2 (Q ++ (lvm (fun m => lvx n k (pre ++ [m])) pre q j).map (dgl n))) := by
      intro q
      induction q with
      | zero =>
        intro j Q h3 hj hW3 hn3 hQ3 hf3 hc3
        rw [show Q ++ (lvm (fun m => lvx n k (pre ++ [m])) pre 0 j).map (dgl n) = Q by simp [lvm]]
        refine Eq_iln dX12_build_27 rfl ?_
        refine Eq_aln dX12_build_28 rfl ?_
        refine Eq_getI dX12_build_29 fl_X12_252 (ws_50 hW3) rfl hn3 ?_
        refine Et_ic_ge 66 dX12_build_32 rfl (by exact nI_le (by omega) (by omega)) ?_
        refine Eq_vr dX12_build_66 rfl ?_
        exact ⟨rfl, hf3, hQ3⟩
      | succ q iq =>
        intro j Q h3 hj hW3 hn3 hQ3 hf3 hc3
        have ub := u.2 j (by omega)
        by_cases e : j ∈ pre
        · have e2 : lvm (fun m => lvx n k (pre ++ [m])) pre (q + 1) j = lvm (fun m => lvx n k (pre ++ [m])) pre q (j + 1) := by simp [lvm, e]
          rw [e2] at hc3 ⊢
          have hbf : ¬ b.testBit j = true := by rw [ub]; simp [e]
          refine Eq_iln dX12_build_27 rfl ?_
          refine Eq_aln dX12_build_28 rfl ?_
          refine Eq_getI dX12_build_29 fl_X12_252 (ws_50 hW3) rfl hn3 ?_
          refine Ef_ic_ge dX12_build_32 (tgt := 66) rfl (by exact nI_ge (by omega) (by omega)) ?_
          refine Eq_iln dX12_build_35 rfl ?_
          refine Eq_iln dX12_build_36 rfl ?_
          refine Eq_S2 (N := m_X12_has) dX12_build_37 lk_X12_228 mS_X12_has (r_has (by omega) (by omega)) (by omega) (Nat.le_of_ble_eq_true rfl) (Nat.le_of_ble_eq_true rfl) ?_
          refine Et_if_eq 60 dX12_build_40 rfl (by rw [if_neg hbf]; rfl) ?_
          refine Eq_inc dX12_build_60 rfl (by decide) ?_
          refine Eam_nl (pc' := 63) (l' := [_, _, _, _]) rfl rfl ?_
          refine Eam_x_goto (tgt := 27) dX12_build_63 rfl ?_
          exact iq (j + 1) Q h3 (by omega) hW3 hn3 hQ3 hf3 hc3
        · have e2 : lvm (fun m => lvx n k (pre ++ [m])) pre (q + 1) j = lvx n k (pre ++ [j]) ++ lvm (fun m => lvx n k (pre ++ [m])) pre q (j + 1) := by simp [lvm, e]
          rw [e2] at hc3 ⊢
          rw [List.length_append] at hc3
          have hbt : b.testBit j = true := by rw [ub]; simp [e]
          have hnd : (pre ++ [j]).Nodup := by
            rw [List.nodup_append]
            refine ⟨h1, by simp, fun a ha b hb => ?_⟩
            rw [List.mem_singleton.mp hb]
            exact fun z => e (z ▸ ha)
          have hlt : ∀ x ∈ pre ++ [j], x < n := fun x hx => by
            rcases List.mem_append.mp hx with z | z
            · exact h2 x z
            · rw [List.mem_singleton.mp z]; omega
          have hca := clr_and b hb8 j (by omega)
          have hin := ih (pre ++ [j]) (b &&& (127 - 2 ^ j)) Q h3 hnd hlt (by simp only [List.length_append, List.length_cons, List.length_nil]; omega) (u.put h7 (by omega)) hW3 hn3 hQ3 (by omega)
          rw [show dg (sl (pre ++ [j])) (pre ++ [j]).length = 10 * dg (sl pre) pre.length + j by rw [List.length_append]; exact dg_app.trans (by omega)] at hin
          refine Eq_iln dX12_build_27 rfl ?_
          refine Eq_aln dX12_build_28 rfl ?_
          refine Eq_getI dX12_build_29 fl_X12_252 (ws_50 hW3) rfl hn3 ?_
          refine Ef_ic_ge dX12_build_32 (tgt := 66) rfl (by exact nI_ge (by omega) (by omega)) ?_
          refine Eq_iln dX12_build_35 rfl ?_
          refine Eq_iln dX12_build_36 rfl ?_
          refine Eq_S2 (N := m_X12_has) dX12_build_37 lk_X12_228 mS_X12_has (r_has (by omega) (by omega)) (by omega) (Nat.le_of_ble_eq_true rfl) (Nat.le_of_ble_eq_true rfl) ?_
          refine Ef_if_eq dX12_build_40 (tgt := 60) rfl (by rw [if_pos hbt]; exact zf1) ?_
          refine Eq_aln dX12_build_43 rfl ?_
          refine Eq_bp (v := nI 10) dX12_build_44 rfl ?_
          refine Eq_iln dX12_build_46 rfl ?_
          first | refine Eq_mul dX12_build_47 ?_ | refine Eam_x_pu dX12_build_47 rfl ?_
          refine Eq_iln dX12_build_48 rfl ?_
          first | refine Eq_add dX12_build_49 ?_ | refine Eam_x_pu dX12_build_49 rfl ?_
          refine Eq_iln dX12_build_50 rfl ?_
          refine Eq_ic (v := nI 1) dX12_build_51 rfl ?_
          refine Eq_iln dX12_build_52 rfl ?_
          first | refine Eq_shl1 dX12_build_53 (by omega) ?_ | refine Eam_x_pu dX12_build_53 rfl ?_
          refine Eq_ic (v := -1) dX12_build_54 rfl ?_
          refine Eam_x_pu dX12_build_55 rfl ?_
          refine Eam_x_pu dX12_build_56 rfl ?_
          rw [hca]
          refine Eq_W2 (N := m_X12_build) dX12_build_57 lk_X12_365 mV_X12_build (hin) (by omega) (ws_50 hW3) rfl (by decide) (Nat.le_of_ble_eq_true rfl) (Nat.le_of_ble_eq_true rfl) (fun vq hq1 hq2 => ?_)
          obtain ⟨rfl, hf4, hQ4⟩ := hq2
          refine Eq_inc dX12_build_60 rfl (by decide) ?_
          refine Eam_nl (pc' := 63) (l' := [_, _, _, _]) rfl rfl ?_
          refine Eam_x_goto (tgt := 27) dX12_build_63 rfl ?_
          obtain ⟨v5, h5, z1, z2, z3, z4⟩ := iq (j + 1) (Q ++ (lvx n k (pre ++ [j])).map (dgl n)) hq1 (by omega) (hf4.Wd hW3) ((hf4.i (by decide) (by decide)).trans hn3) hQ4 (hf3.tr hf4) (by rw [List.length_append, List.length_map]; omega)
          refine ⟨v5, h5, z1, z2, z3, ?_⟩
          rw [List.map_append, ← List.append_assoc]
          exact z4
    rw [show lvx n (k + 1) pre = lvm (fun m => lvx n k (pre ++ [m])) pre n 0 from rfl] at hc ⊢
    refine Eq_iln dX12_build_0 rfl ?_
    refine Et_if_ne 25 dX12_build_1 rfl (by exact fun z => hb0 ((n_0 (by omega)).mp z)) ?_
    refine Eq_ic (v := nI 0) dX12_build_25 rfl ?_
    refine Eq_isn dX12_build_26 (by decide) ?_
    refine Eam_nl (pc' := 27) (l' := [_, _, _, _]) rfl rfl ?_
    exact lp n 0 Q h (by omega) hW hn hQ Fx.rf hc
set_option maxHeartbeats 2000000 in
theorem r_laySeatings {h : am_H} (hW : Wd h) {n : Nat} (h7 : n ≤ 7) (hn : am_i h 50 21 = nI n) : am_D 9 m_X12_laySeatings [.ref 50] h (fun w h2 => w = none ∧ Fx [66] [(50, 33)] h h2 ∧ SLs h2 ((lvx n n []).map (dgl n))) := by
  have k1 : Fx [66] [(50, 33)] h (am_wI h 50 33 (nI 0)) := Fx.wI (Or.inr (by decide))
  have hl := lvx_len n h7
  have hin := r_build h7 n [] (2 ^ n - 1) [] (am_wI h 50 33 (nI 0)) (by simp) (by simp) (by simp) UB.nil (k1.Wd hW) hn ⟨wI_e0, by simp, fun i hi => by simp at hi⟩ (by simp only [List.length_nil]; omega)
  have hp : 1 ≤ 2 ^ n := Nat.two_pow_pos n
  refine Eq_aln dX12_laySeatings_0 rfl ?_
  refine Eq_ic (v := nI 0) dX12_laySeatings_1 rfl ?_
  refine Eam_x_putI dX12_laySeatings_2 (fw_X12_362 rfl) (ws_50 hW) (Or.inl rfl) ?_
  refine Eq_aln dX12_laySeatings_5 rfl ?_
  refine Eq_ic (v := nI 0) dX12_laySeatings_6 rfl ?_
  refine Eq_ic (v := nI 1) dX12_laySeatings_7 rfl ?_
  refine Eq_aln dX12_laySeatings_8 rfl ?_
  refine Eq_getI dX12_laySeatings_9 fl_X12_252 (ws_50 hW) rfl hn ?_
  first | refine Eq_shl1 dX12_laySeatings_12 (by omega) ?_ | refine Eam_x_pu dX12_laySeatings_12 rfl ?_
  refine Eq_ic (v := nI 1) dX12_laySeatings_13 rfl ?_
  first | refine Eq_sub dX12_laySeatings_14 (by omega) ?_ | refine Eam_x_pu dX12_laySeatings_14 rfl ?_
  refine Eq_W2 (N := m_X12_build) dX12_laySeatings_15 lk_X12_365 mV_X12_build (hin) (by omega) (ws_50 hW) rfl (by decide) (Nat.le_of_ble_eq_true rfl) (Nat.le_of_ble_eq_true rfl) (fun vq hq1 hq2 => ?_)
  obtain ⟨rfl, hf4, hQ4⟩ := hq2
  refine Eq_vr dX12_laySeatings_18 rfl ?_
  exact ⟨rfl, k1.tr hf4, hQ4⟩
/-- steps and minutes of a round -/
def rdm (f : Nat → Option (Nat × Nat × Nat)) : Nat → Nat × Nat
  | 0 => (0, 0)
  | k + 1 => match f (k + 1) with
    | some q => (k + 1, q.2.1)
    | none => rdm f k
theorem rdm_eq {f : Nat → Option (Nat × Nat × Nat)} (hf : ∀ k, f k = none → ∀ j, f (k + j) = none) {k m mi pa : Nat} (h1 : f k = some (m, mi, pa)) (h0 : k = 0 → mi = 0) : ∀ j, f (k + 1) = none ∨ j = 0 → rdm f (k + j) = (k, mi) := by
  intro j
  induction j with
  | zero =>
    intro _
    cases k with
    | zero => simp [rdm, h0 rfl]
    | succ k => show rdm f (k + 1) = _; simp only [rdm, h1]
  | succ j ih =>
    intro h
    have hn : f (k + 1) = none := h.resolve_right (by omega)
    have := hf (k + 1) hn j
    rw [show k + (j + 1) = k + j + 1 by omega]
    simp only [rdm]
    rw [show k + j + 1 = k + 1 + j by omega, this]
    exact ih (Or.inl hn)
def wsh (hm : Option (List (Tks × Tks))) (n : Nat) (g : Bool) (F : Nat → Nat → Nat) (w : Nat) (S T : Nat → Nat) : Int32 := if w = 0 then -(ils hm n g F S n) else if w = 1 then nI (ct (fun m => hrd n g F S T m) n) else nI (1000 * (rdm (rd n g F S T 0) 7).1) - nI (rdm (rd n g F S T 0) 7).2
set_option maxHeartbeats 2000000 in
theorem r_wished {h : am_H} {n : Nat} {g : Bool} {F : Nat → Nat → Nat} {S T : Nat → Nat} (hW : Wd h) (hR : RB h n g F S T) {hold : Option Nat} {hm : Option (List (Tks × Tks))} (hq : RHd h hold hm) (h0 : 0 < n) {w : Nat} (hw : w < 3) : am_D 7 m_X12_wished [.ref 50, .int (nI w)] h (fun v h2 => v = some (.int (wsh hm n g F w S T)) ∧ Fx [59, 60] [(50, 25), (50, 26), (50, 27), (50, 28)] h h2) := by
  rcases (show w = 0 ∨ w = 1 ∨ w = 2 by omega) with rfl | rfl | rfl
  · refine Eq_iln dX12_wished_0 rfl ?_
    refine Ef_if_ne dX12_wished_1 (tgt := 10) rfl (by rfl) ?_
    refine Eq_aln dX12_wished_4 rfl ?_
    refine Eq_W0 (N := m_X12_illOf) dX12_wished_5 lk_X12_359 mV_X12_illOf (r_illOf hW hR hq) (by decide) (ws_50 hW) rfl (by decide) (Nat.le_of_ble_eq_true rfl) (Nat.le_of_ble_eq_true rfl) (fun vq hq1 hq2 => ?_)
    obtain ⟨rfl, hf2⟩ := hq2
    refine Eam_x_pu dX12_wished_8 rfl ?_
    refine Eq_ir dX12_wished_9 rfl ?_
    exact ⟨rfl, hf2.mono (by decide) (by decide)⟩
  · refine Eq_iln dX12_wished_0 rfl ?_
    refine Et_if_ne 10 dX12_wished_1 rfl (by exact zf1) ?_
    refine Eq_iln dX12_wished_10 rfl ?_
    refine Eq_ic (v := nI 1) dX12_wished_11 rfl ?_
    refine Ef_ic_ne dX12_wished_12 (tgt := 20) rfl (by rfl) ?_
    refine Eq_aln dX12_wished_15 rfl ?_
    refine Eq_V0 (N := m_X12_heardMany) dX12_wished_16 lk_X12_326 mV_X12_heardMany (r_heardMany hW hR) (by decide) (ws_50 hW) rfl (by decide) (Nat.le_of_ble_eq_true rfl) (Nat.le_of_ble_eq_true rfl) ?_
    refine Eq_ir dX12_wished_19 rfl ?_
    exact ⟨rfl, Fx.rf⟩
  · refine Eq_iln dX12_wished_0 rfl ?_
    refine Et_if_ne 10 dX12_wished_1 rfl (by decide +kernel) ?_
    refine Eq_iln dX12_wished_10 rfl ?_
    refine Eq_ic (v := nI 1) dX12_wished_11 rfl ?_
    refine Et_ic_ne 20 dX12_wished_12 rfl (by decide +kernel) ?_
    refine Eq_aln dX12_wished_20 rfl ?_
    refine Eq_ic (v := nI 0) dX12_wished_21 rfl ?_
    refine Eq_bp (v := nI 7) dX12_wished_22 rfl ?_
    refine Eq_W2 (N := m_X12_goRound) dX12_wished_24 lk_X12_323 mV_X12_goRound (r_goRound hW hR h0 (st := 7) (by omega)) (by decide) (ws_50 hW) rfl (by decide) (Nat.le_of_ble_eq_true rfl) (Nat.le_of_ble_eq_true rfl) (fun vq hq1 hq2 => ?_)
    obtain ⟨rfl, hf2, k, m, mi, pa, hk, hrd, hend, e1, e2, e3, e4⟩ := hq2
    have hW2 := hf2.Wd hW
    refine Eq_sp (v := nI 1000) dX12_wished_27 rfl ?_
    refine Eq_aln dX12_wished_30 rfl ?_
    refine Eq_getI dX12_wished_31 fl_X12_303 (ws_50 hW2) rfl (by first | exact e1 | exact e2) ?_
    first | refine Eq_mul dX12_wished_34 ?_ | refine Eam_x_pu dX12_wished_34 rfl ?_
    refine Eq_aln dX12_wished_35 rfl ?_
    refine Eq_getI dX12_wished_36 fl_X12_306 (ws_50 hW2) rfl (by first | exact e1 | exact e2) ?_
    refine Eam_x_pu dX12_wished_39 rfl ?_
    refine Eq_ir dX12_wished_40 rfl ?_
    have hrm : rdm (rd n g F S T 0) 7 = (k, mi) := by
      have := rdm_eq (f := rd n g F S T 0) (fun k hk j => rd_none hk j) hrd (fun z => by subst z; cases hrd; rfl) (7 - k) (hend.elim (fun z => Or.inr (by omega)) Or.inl)
      rw [show k + (7 - k) = 7 by omega] at this
      exact this
    refine ⟨?_, hf2.mono (by decide) (by decide)⟩
    show _ = some (Value.int (nI (1000 * (rdm (rd n g F S T 0) 7).1) - nI (rdm (rd n g F S T 0) 7).2))
    rw [hrm]
/-- the best of all seatings -/
def bstv (hm : Option (List (Tks × Tks))) (n : Nat) (g : Bool) (F : Nat → Nat → Nat) (w : Nat) : List Nat → Int := fun l => (wsh hm n g F w (sl l) (fs (sl l) n)).toInt
def bst (hm : Option (List (Tks × Tks))) (n : Nat) (g : Bool) (F : Nat → Nat → Nat) (w : Nat) : Option (Int × List Nat) := jdl (bstv hm n g F w) none (lvx n n [])
/-- what is found, as numbers -/
def bsB (n : Nat) (st : Option (Int × List Nat)) : Int32 := match st with
  | none => -1
  | some b => nI (dgl n b.2)
def bsM (st : Option (Int × List Nat)) : Int32 := match st with
  | none => nI 0
  | some b => zI b.1
/-- the answer -/
def beV (hm : Option (List (Tks × Tks))) (n : Nat) (g : Bool) (F : Nat → Nat → Nat) (x1 x2 : Int32) : Int32 := match rg x1 3, rg x2 2 with
  | some w, some y => if n = 0 then -100000000 else if y = 0 then bsB n (bst hm n g F w) else if w = 0 then -bsM (bst hm n g F w) else bsM (bst hm n g F w)
  | _, _ => -100000000
theorem mem_take {α : Type} {L : List α} {k : Nat} {x : α} (h : x ∈ L.take k) : x ∈ L := List.mem_of_mem_take h
set_option maxHeartbeats 2000000 in
theorem r_best_lp {n : Nat} {g : Bool} {F : Nat → Nat → Nat} {S T : Nat → Nat} {hold : Option Nat} {hm : Option (List (Tks × Tks))} {w y : Nat} (h7 : n ≤ 7) (h0n : 0 < n) (hw3 : w < 3) (hy : y < 2) (hp : Pm n S T) {h0 : am_H} : ∀ q k h, k + q = (lvx n n []).length → ∀ Sx Tx, Wd h → RB h n g F Sx Tx → RHd h hold hm → SLs h ((lvx n n []).map (dgl n)) → Fx [59, 60, 63, 66] [(50, 25), (50, 26), (50, 27), (50, 28), (50, 33)] h0 h → ∀ l7, am_E 10 m_X12_best 47 [some (.ref 50), some (.int (nI w)), some (.int (nI y)), some (.int (nI (dg S n))), some (.int (bsB n (jdl (bstv hm n g F w) none ((lvx n n []).take k)))), some (.int (bsM (jdl (bstv hm n g F w) none ((lvx n n []).take k)))), some (.int (nI k)), l7] [] h (fun v h2 => v = some (.int (if y = 0 then bsB n (bst hm n g F w) else if w = 0 then -bsM (bst hm n g F w) else bsM (bst hm n g F w))) ∧ Fx [59, 60, 63, 66] [(50, 25), (50, 26), (50, 27), (50, 28), (50, 33)] h0 h2 ∧ RB h2 n g F S T) := by
  intro q
  have hlen := lvx_len n h7
  have hS10 : dg S n < 10000000 := by
    have := dg_lt (S := S) (n := n) (fun s hs => by have := (hp.1 s hs).1; omega) n (Nat.le_refl _)
    have h4 : 10 ^ n ≤ 10 ^ 7 := Nat.pow_le_pow_right (by omega) h7
    omega
  induction q with
  | zero =>
    intro k h hk Sx Tx hW hR hq hQ hf l7
    have hQ1 : am_i h 50 33 = nI (lvx n n []).length := by rw [hQ.1, List.length_map]
    rw [List.take_of_length_le (by omega)]
    rcases (show y = 0 ∨ y = 1 by omega) with rfl | rfl
    · rw [if_pos rfl]
      refine Eq_il dX12_best_47 rfl ?_
      refine Eq_aln dX12_best_49 rfl ?_
      refine Eq_getI dX12_best_50 fl_X12_362 (ws_50 hW) rfl hQ1 ?_
      refine Et_ic_ge 106 dX12_best_53 rfl (by exact nI_le (by omega) (by omega)) ?_
      refine Eq_aln dX12_best_106 rfl ?_
      refine Eq_iln dX12_best_107 rfl ?_
      refine Eq_W1 (N := m_X12_write) dX12_best_108 lk_X12_300 mV_X12_write (r_write hW hR (v := dg S n) (by omega) hp (fun s hs => dgs_dg (fun s hs => by have := (hp.1 s hs).1; omega) hs)) (by decide) (ws_50 hW) rfl (by decide) (Nat.le_of_ble_eq_true rfl) (Nat.le_of_ble_eq_true rfl) (fun vq hq1 hq2 => ?_)
      obtain ⟨rfl, hf2, hR2⟩ := hq2
      refine Eq_iln dX12_best_111 rfl ?_
      refine Ef_if_ne dX12_best_112 (tgt := 120) rfl (by rfl) ?_
      refine Eq_il dX12_best_115 rfl ?_
      refine Eam_x_goto (tgt := 132) dX12_best_117 rfl ?_
      refine Eq_ir dX12_best_132 rfl ?_
      exact ⟨rfl, hf.tr (hf2.mono (by decide) (by decide)), hR2⟩
    · rw [if_neg (by decide)]
      by_cases hw0 : w = 0
      · rw [if_pos hw0]
        refine Eq_il dX12_best_47 rfl ?_
        refine Eq_aln dX12_best_49 rfl ?_
        refine Eq_getI dX12_best_50 fl_X12_362 (ws_50 hW) rfl hQ1 ?_
        refine Et_ic_ge 106 dX12_best_53 rfl (by exact nI_le (by omega) (by omega)) ?_
        refine Eq_aln dX12_best_106 rfl ?_
        refine Eq_iln dX12_best_107 rfl ?_
        refine Eq_W1 (N := m_X12_write) dX12_best_108 lk_X12_300 mV_X12_write (r_write hW hR (v := dg S n) (by omega) hp (fun s hs => dgs_dg (fun s hs => by have := (hp.1 s hs).1; omega) hs)) (by decide) (ws_50 hW) rfl (by decide) (Nat.le_of_ble_eq_true rfl) (Nat.le_of_ble_eq_true rfl) (fun vq hq1 hq2 => ?_)
        obtain ⟨rfl, hf2, hR2⟩ := hq2
        refine Eq_iln dX12_best_111 rfl ?_
        refine Et_if_ne 120 dX12_best_112 rfl (by exact zf1) ?_
        refine Eq_iln dX12_best_120 rfl ?_
        refine Ef_if_ne dX12_best_121 (tgt := 130) rfl (by rw [hw0]; rfl) ?_
        refine Eq_il dX12_best_124 rfl ?_
        refine Eam_x_pu dX12_best_126 rfl ?_
        refine Eam_x_goto (tgt := 132) dX12_best_127 rfl ?_
        refine Eq_ir dX12_best_132 rfl ?_
        exact ⟨rfl, hf.tr (hf2.mono (by decide) (by decide)), hR2⟩
      · rw [if_neg hw0]
        refine Eq_il dX12_best_47 rfl ?_
        refine Eq_aln dX12_best_49 rfl ?_
        refine Eq_getI dX12_best_50 fl_X12_362 (ws_50 hW) rfl hQ1 ?_
        refine Et_ic_ge 106 dX12_best_53 rfl (by exact nI_le (by omega) (by omega)) ?_
        refine Eq_aln dX12_best_106 rfl ?_
        refine Eq_iln dX12_best_107 rfl ?_
        refine Eq_W1 (N := m_X12_write) dX12_best_108 lk_X12_300 mV_X12_write (r_write hW hR (v := dg S n) (by omega) hp (fun s hs => dgs_dg (fun s hs => by have := (hp.1 s hs).1; omega) hs)) (by decide) (ws_50 hW) rfl (by decide) (Nat.le_of_ble_eq_true rfl) (Nat.le_of_ble_eq_true rfl) (fun vq hq1 hq2 => ?_)
        obtain ⟨rfl, hf2, hR2⟩ := hq2
        refine Eq_iln dX12_best_111 rfl ?_
        refine Et_if_ne 120 dX12_best_112 rfl (by exact zf1) ?_
        refine Eq_iln dX12_best_120 rfl ?_
        refine Et_if_ne 130 dX12_best_121 rfl (by exact fun z => hw0 ((n_0 (by omega)).mp z)) ?_
        refine Eq_il dX12_best_130 rfl ?_
        refine Eq_ir dX12_best_132 rfl ?_
        exact ⟨rfl, hf.tr (hf2.mono (by decide) (by decide)), hR2⟩
  | succ q ih =>
    intro k h hk Sx Tx hW hR hq hQ hf l7
    have hQ1 : am_i h 50 33 = nI (lvx n n []).length := by rw [hQ.1, List.length_map]
    have hkl : k < (lvx n n []).length := by omega
    have hlm : (lvx n n []).getD k [] ∈ lvx n n [] := by
      have : (lvx n n []).getD k [] = (lvx n n [])[k] := by simp [List.getD_eq_getElem?_getD, hkl]
      rw [this]
      exact List.getElem_mem hkl
    obtain ⟨m1, m2, m3, _⟩ := lvx_mem hlm (by simp) (by simp)
    simp only [List.length_nil, Nat.zero_add] at m3
    have hpm := sl_pm m1 m2 m3
    have hdl := dgl_lt h7 m2 m3
    have hQk : am_i h 66 k = nI (dgl n ((lvx n n []).getD k [])) := by
      rw [hQ.2.2 k (by rw [List.length_map]; exact hkl)]
      simp [List.getD_eq_getElem?_getD, hkl]
    have htk : (lvx n n []).take (k + 1) = (lvx n n []).take k ++ [(lvx n n []).getD k []] := by
      rw [List.take_succ]
      simp [List.getD_eq_getElem?_getD, hkl]
    have hjd : jdl (bstv hm n g F w) none ((lvx n n []).take (k + 1)) = jd (bstv hm n g F w) (jdl (bstv hm n g F w) none ((lvx n n []).take k)) ((lvx n n []).getD k []) := by
      rw [htk, jdl_app]
      rfl
    have hib : ∀ b, jdl (bstv hm n g F w) none ((lvx n n []).take k) = some b → dgl n b.2 < 10000000 ∧ zI b.1 = wsh hm n g F w (sl b.2) (fs (sl b.2) n) := fun b hb => by
      rcases jdl_some hb with ⟨l, hl, e⟩ | e
      · obtain ⟨q1, q2, q3, _⟩ := lvx_mem (mem_take hl) (by simp) (by simp)
        simp only [List.length_nil, Nat.zero_add] at q3
        rw [e]
        exact ⟨dgl_lt h7 q2 q3, zI_self _⟩
      · cases e
    generalize hlx : (lvx n n []).getD k [] = lx at *
    have hvl : zI (bstv hm n g F w lx) = wsh hm n g F w (sl lx) (fs (sl lx) n) := zI_self _
    cases hst : jdl (bstv hm n g F w) none ((lvx n n []).take k) with
    | none =>
      rw [hst, jd_n] at hjd
      refine Eq_il dX12_best_47 rfl ?_
      refine Eq_aln dX12_best_49 rfl ?_
      refine Eq_getI dX12_best_50 fl_X12_362 (ws_50 hW) rfl hQ1 ?_
      refine Ef_ic_ge dX12_best_53 (tgt := 106) rfl (by exact nI_ge (by omega) (by omega)) ?_
      refine Eq_aln dX12_best_56 rfl ?_
      refine Eq_aln dX12_best_57 rfl ?_
      refine Eq_getR dX12_best_58 fl_X12_60 (ws_50 hW) rfl (wp_50_31 hW) ?_
      refine Eq_il dX12_best_61 rfl ?_
      refine Eq_ald dX12_best_63 (ws_66 hW) (by omega) (by omega) (by first | exact hQk | exact (hf3.i (by decide) (by simp)).trans ((hf2.i (by decide) (by simp)).trans hQk)) ?_
      refine Eq_W1 (N := m_X12_write) dX12_best_64 lk_X12_300 mV_X12_write (r_write hW hR (v := dgl n lx) (by omega) hpm (fun s hs => dgs_dg (fun s hs => by have := (hpm.1 s hs).1; omega) hs)) (by decide) (ws_50 hW) rfl (by decide) (Nat.le_of_ble_eq_true rfl) (Nat.le_of_ble_eq_true rfl) (fun vq hq1 hq2 => ?_)
      obtain ⟨rfl, hf2, hR2⟩ := hq2
      have hW2 := hf2.Wd hW
      have hq9 := hq.fx hf2 (by decide)
      refine Eq_aln dX12_best_67 rfl ?_
      refine Eq_iln dX12_best_68 rfl ?_
      refine Eq_W1 (N := m_X12_wished) dX12_best_69 lk_X12_374 mV_X12_wished (r_wished hW2 hR2 hq9 h0n hw3) (by decide) (ws_50 hW2) rfl (by decide) (Nat.le_of_ble_eq_true rfl) (Nat.le_of_ble_eq_true rfl) (fun vq hq1 hq2 => ?_)
      obtain ⟨rfl, hf3⟩ := hq2
      have hW3 := hf3.Wd hW2
      refine Eq_is dX12_best_72 (by decide) ?_
      refine Eam_nl (pc' := 74) (l' := [_, _, _, _, _, _, _, _]) rfl rfl ?_
      refine Eq_il dX12_best_74 rfl ?_
      refine Eq_ic (v := -1) dX12_best_76 rfl ?_
      refine Et_ic_eq 87 dX12_best_77 rfl (by rfl) ?_
      refine Eq_aln dX12_best_87 rfl ?_
      refine Eq_getR dX12_best_88 fl_X12_60 (ws_50 hW3) rfl (wp_50_31 hW3) ?_
      refine Eq_il dX12_best_91 rfl ?_
      refine Eq_ald dX12_best_93 (ws_66 hW3) (by omega) (by omega) (by first | exact hQk | exact (hf3.i (by decide) (by simp)).trans ((hf2.i (by decide) (by simp)).trans hQk)) ?_
      refine Eq_is dX12_best_94 (by decide) ?_
      refine Eam_nl (pc' := 96) (l' := [_, _, _, _, _, _, _, _]) rfl rfl ?_
      refine Eq_il dX12_best_96 rfl ?_
      refine Eq_is dX12_best_98 (by decide) ?_
      refine Eam_nl (pc' := 100) (l' := [_, _, _, _, _, _, _, _]) rfl rfl ?_
      refine Eq_inc dX12_best_100 rfl (by decide) ?_
      refine Eam_nl (pc' := 103) (l' := [_, _, _, _, _, _, _, _]) rfl rfl ?_
      refine Eam_x_goto (tgt := 47) dX12_best_103 rfl ?_
      rw [show nI (dgl n lx) = bsB n (jdl (bstv hm n g F w) none ((lvx n n []).take (k + 1))) by rw [hjd]; rfl, ← hvl, show zI (bstv hm n g F w lx) = bsM (jdl (bstv hm n g F w) none ((lvx n n []).take (k + 1))) by rw [hjd]; rfl]
      exact ih (k + 1) hq1 (by omega) _ _ (hf3.Wd hW2) (hR2.fx hf3 (by decide)) (hq9.fx hf3 (by decide)) ((hQ.fx hf2 (by decide)).fx hf3 (by decide)) (hf.tr ((hf2.mono (by decide) (by decide)).tr (hf3.mono (by decide) (by decide)))) _
    | some b =>
      obtain ⟨hb1, hb2⟩ := hib b hst
      by_cases hlt : b.1 < bstv hm n g F w lx
      · rw [hst, jd_y hlt] at hjd
        have hcm : ¬ wsh hm n g F w (sl lx) (fs (sl lx) n) ≤ zI b.1 := fun z => by
          rw [hb2, Int32.le_iff_toInt_le] at z
          have : b.1 = (wsh hm n g F w (sl b.2) (fs (sl b.2) n)).toInt := by
            rcases jdl_some hst with ⟨l, hl, e⟩ | e
            · rw [e]; rfl
            · cases e
          have h9 : bstv hm n g F w lx = (wsh hm n g F w (sl lx) (fs (sl lx) n)).toInt := rfl
          omega
        refine Eq_il dX12_best_47 rfl ?_
        refine Eq_aln dX12_best_49 rfl ?_
        refine Eq_getI dX12_best_50 fl_X12_362 (ws_50 hW) rfl hQ1 ?_
        refine Ef_ic_ge dX12_best_53 (tgt := 106) rfl (by exact nI_ge (by omega) (by omega)) ?_
        refine Eq_aln dX12_best_56 rfl ?_
        refine Eq_aln dX12_best_57 rfl ?_
        refine Eq_getR dX12_best_58 fl_X12_60 (ws_50 hW) rfl (wp_50_31 hW) ?_
        refine Eq_il dX12_best_61 rfl ?_
        refine Eq_ald dX12_best_63 (ws_66 hW) (by omega) (by omega) (by first | exact hQk | exact (hf3.i (by decide) (by simp)).trans ((hf2.i (by decide) (by simp)).trans hQk)) ?_
        refine Eq_W1 (N := m_X12_write) dX12_best_64 lk_X12_300 mV_X12_write (r_write hW hR (v := dgl n lx) (by omega) hpm (fun s hs => dgs_dg (fun s hs => by have := (hpm.1 s hs).1; omega) hs)) (by decide) (ws_50 hW) rfl (by decide) (Nat.le_of_ble_eq_true rfl) (Nat.le_of_ble_eq_true rfl) (fun vq hq1 hq2 => ?_)
        obtain ⟨rfl, hf2, hR2⟩ := hq2
        have hW2 := hf2.Wd hW
        have hq9 := hq.fx hf2 (by decide)
        refine Eq_aln dX12_best_67 rfl ?_
        refine Eq_iln dX12_best_68 rfl ?_
        refine Eq_W1 (N := m_X12_wished) dX12_best_69 lk_X12_374 mV_X12_wished (r_wished hW2 hR2 hq9 h0n hw3) (by decide) (ws_50 hW2) rfl (by decide) (Nat.le_of_ble_eq_true rfl) (Nat.le_of_ble_eq_true rfl) (fun vq hq1 hq2 => ?_)
        obtain ⟨rfl, hf3⟩ := hq2
        have hW3 := hf3.Wd hW2
        refine Eq_is dX12_best_72 (by decide) ?_
        refine Eam_nl (pc' := 74) (l' := [_, _, _, _, _, _, _, _]) rfl rfl ?_
        refine Eq_il dX12_best_74 rfl ?_
        refine Eq_ic (v := -1) dX12_best_76 rfl ?_
        refine Ef_ic_eq dX12_best_77 (tgt := 87) rfl (by exact nI_m1 (by show dgl n b.2 < 2 ^ 31; omega)) ?_
        refine Eq_il dX12_best_80 rfl ?_
        refine Eq_il dX12_best_82 rfl ?_
        refine Ef_ic_le dX12_best_84 (tgt := 100) rfl (by exact hcm) ?_
        refine Eq_aln dX12_best_87 rfl ?_
        refine Eq_getR dX12_best_88 fl_X12_60 (ws_50 hW3) rfl (wp_50_31 hW3) ?_
        refine Eq_il dX12_best_91 rfl ?_
        refine Eq_ald dX12_best_93 (ws_66 hW3) (by omega) (by omega) (by first | exact hQk | exact (hf3.i (by decide) (by simp)).trans ((hf2.i (by decide) (by simp)).trans hQk)) ?_
        refine Eq_is dX12_best_94 (by decide) ?_
        refine Eam_nl (pc' := 96) (l' := [_, _, _, _, _, _, _, _]) rfl rfl ?_
        refine Eq_il dX12_best_96 rfl ?_
        refine Eq_is dX12_best_98 (by decide) ?_
        refine Eam_nl (pc' := 100) (l' := [_, _, _, _, _, _, _, _]) rfl rfl ?_
        refine Eq_inc dX12_best_100 rfl (by decide) ?_
        refine Eam_nl (pc' := 103) (l' := [_, _, _, _, _, _, _, _]) rfl rfl ?_
        refine Eam_x_goto (tgt := 47) dX12_best_103 rfl ?_
        rw [show nI (dgl n lx) = bsB n (jdl (bstv hm n g F w) none ((lvx n n []).take (k + 1))) by rw [hjd]; rfl, ← hvl, show zI (bstv hm n g F w lx) = bsM (jdl (bstv hm n g F w) none ((lvx n n []).take (k + 1))) by rw [hjd]; rfl]
        exact ih (k + 1) hq1 (by omega) _ _ (hf3.Wd hW2) (hR2.fx hf3 (by decide)) (hq9.fx hf3 (by decide)) ((hQ.fx hf2 (by decide)).fx hf3 (by decide)) (hf.tr ((hf2.mono (by decide) (by decide)).tr (hf3.mono (by decide) (by decide)))) _
      · rw [hst, jd_o hlt] at hjd
        have hcm : wsh hm n g F w (sl lx) (fs (sl lx) n) ≤ zI b.1 := by
          rw [hb2, Int32.le_iff_toInt_le]
          have : b.1 = (wsh hm n g F w (sl b.2) (fs (sl b.2) n)).toInt := by
            rcases jdl_some hst with ⟨l, hl, e⟩ | e
            · rw [e]; rfl
            · cases e
          have h9 : bstv hm n g F w lx = (wsh hm n g F w (sl lx) (fs (sl lx) n)).toInt := rfl
          omega
        rw [← hjd]
        refine Eq_il dX12_best_47 rfl ?_
        refine Eq_aln dX12_best_49 rfl ?_
        refine Eq_getI dX12_best_50 fl_X12_362 (ws_50 hW) rfl hQ1 ?_
        refine Ef_ic_ge dX12_best_53 (tgt := 106) rfl (by exact nI_ge (by omega) (by omega)) ?_
        refine Eq_aln dX12_best_56 rfl ?_
        refine Eq_aln dX12_best_57 rfl ?_
        refine Eq_getR dX12_best_58 fl_X12_60 (ws_50 hW) rfl (wp_50_31 hW) ?_
        refine Eq_il dX12_best_61 rfl ?_
        refine Eq_ald dX12_best_63 (ws_66 hW) (by omega) (by omega) hQk ?_
        refine Eq_W1 (N := m_X12_write) dX12_best_64 lk_X12_300 mV_X12_write (r_write hW hR (v := dgl n lx) (by omega) hpm (fun s hs => dgs_dg (fun s hs => by have := (hpm.1 s hs).1; omega) hs)) (by decide) (ws_50 hW) rfl (by decide) (Nat.le_of_ble_eq_true rfl) (Nat.le_of_ble_eq_true rfl) (fun vq hq1 hq2 => ?_)
        obtain ⟨rfl, hf2, hR2⟩ := hq2
        have hW2 := hf2.Wd hW
        have hq9 := hq.fx hf2 (by decide)
        refine Eq_aln dX12_best_67 rfl ?_
        refine Eq_iln dX12_best_68 rfl ?_
        refine Eq_W1 (N := m_X12_wished) dX12_best_69 lk_X12_374 mV_X12_wished (r_wished hW2 hR2 hq9 h0n hw3) (by decide) (ws_50 hW2) rfl (by decide) (Nat.le_of_ble_eq_true rfl) (Nat.le_of_ble_eq_true rfl) (fun vq hq1 hq2 => ?_)
        obtain ⟨rfl, hf3⟩ := hq2
        have hW3 := hf3.Wd hW2
        refine Eq_is dX12_best_72 (by decide) ?_
        refine Eam_nl (pc' := 74) (l' := [_, _, _, _, _, _, _, _]) rfl rfl ?_
        refine Eq_il dX12_best_74 rfl ?_
        refine Eq_ic (v := -1) dX12_best_76 rfl ?_
        refine Ef_ic_eq dX12_best_77 (tgt := 87) rfl (by rw [hjd]; exact nI_m1 (by show dgl n b.2 < 2 ^ 31; omega)) ?_
        refine Eq_il dX12_best_80 rfl ?_
        refine Eq_il dX12_best_82 rfl ?_
        refine Et_ic_le 100 dX12_best_84 rfl (by rw [hjd]; exact hcm) ?_
        refine Eq_inc dX12_best_100 rfl (by decide) ?_
        refine Eam_nl (pc' := 103) (l' := [_, _, _, _, _, _, _, _]) rfl rfl ?_
        refine Eam_x_goto (tgt := 47) dX12_best_103 rfl ?_
        exact ih (k + 1) hq1 (by omega) _ _ (hf3.Wd hW2) (hR2.fx hf3 (by decide)) (hq9.fx hf3 (by decide)) ((hQ.fx hf2 (by decide)).fx hf3 (by decide)) (hf.tr ((hf2.mono (by decide) (by decide)).tr (hf3.mono (by decide) (by decide)))) _
set_option maxHeartbeats 2000000 in
theorem r_best {h : am_H} {n : Nat} {g : Bool} {F : Nat → Nat → Nat} {S T : Nat → Nat} (hW : Wd h) (hR : RB h n g F S T) {hold : Option Nat} {hm : Option (List (Tks × Tks))} (hq : RHd h hold hm) {x1 x2 : Int32} : am_D 10 m_X12_best [.ref 50, .int x1, .int x2] h (fun v h2 => v = some (.int (beV hm n g F x1 x2)) ∧ Fx [59, 60, 63, 66] [(50, 25), (50, 26), (50, 27), (50, 28), (50, 33)] h h2 ∧ RB h2 n g F S T) := by
  have h7 := hR.2.2.1
  by_cases h0 : n = 0
  · have hv : beV hm n g F x1 x2 = -100000000 := by
      unfold beV
      split
      · rw [if_pos h0]
      · rfl
    rw [hv]
    refine Eq_aln dX12_best_0 rfl ?_
    refine Eq_getI dX12_best_1 fl_X12_252 (ws_50 hW) rfl hR.1 ?_
    refine Et_if_eq 25 dX12_best_4 rfl (by rw [h0]; rfl) ?_
    refine Eam_x_ldcw dX12_best_25 kc_X12_358 ?_
    refine Eq_ir dX12_best_28 rfl ?_
    exact ⟨rfl, Fx.rf, hR⟩
  · have hn0 : ¬ nI n = 0 := fun z => h0 ((n_0 (by omega)).mp z)
    cases hr1 : rg x1 3 with
    | none =>
      have hv : beV hm n g F x1 x2 = -100000000 := by unfold beV; rw [hr1]
      rw [hv]
      refine Eq_aln dX12_best_0 rfl ?_
      refine Eq_getI dX12_best_1 fl_X12_252 (ws_50 hW) rfl hR.1 ?_
      refine Ef_if_eq dX12_best_4 (tgt := 25) rfl (by exact hn0) ?_
      refine Eq_iln dX12_best_7 rfl ?_
      refine Eq_ic (v := nI 0) dX12_best_8 rfl ?_
      refine Eq_ic (v := nI 2) dX12_best_9 rfl ?_
      refine Eq_S3 (N := m_X12_in) dX12_best_10 lk_X12_215 mS_X12_in ((by have z := r_inr (h := h) (x := x1) (k := 2) (by omega); exact z)) (by decide) (Nat.le_of_ble_eq_true rfl) (Nat.le_of_ble_eq_true rfl) ?_
      refine Et_if_eq 25 dX12_best_13 rfl (by rw [isr_n hr1]; rfl) ?_
      refine Eam_x_ldcw dX12_best_25 kc_X12_358 ?_
      refine Eq_ir dX12_best_28 rfl ?_
      exact ⟨rfl, Fx.rf, hR⟩
    | some w =>
      obtain ⟨e1, hw⟩ := rg_some (by omega) hr1
      cases hr2 : rg x2 2 with
      | none =>
        have hv : beV hm n g F x1 x2 = -100000000 := by unfold beV; rw [hr1, hr2]
        rw [hv]
        refine Eq_aln dX12_best_0 rfl ?_
        refine Eq_getI dX12_best_1 fl_X12_252 (ws_50 hW) rfl hR.1 ?_
        refine Ef_if_eq dX12_best_4 (tgt := 25) rfl (by exact hn0) ?_
        refine Eq_iln dX12_best_7 rfl ?_
        refine Eq_ic (v := nI 0) dX12_best_8 rfl ?_
        refine Eq_ic (v := nI 2) dX12_best_9 rfl ?_
        refine Eq_S3 (N := m_X12_in) dX12_best_10 lk_X12_215 mS_X12_in ((by have z := r_inr (h := h) (x := x1) (k := 2) (by omega); exact z)) (by decide) (Nat.le_of_ble_eq_true rfl) (Nat.le_of_ble_eq_true rfl) ?_
        refine Ef_if_eq dX12_best_13 (tgt := 25) rfl (by rw [isr_s hr1]; exact zf1) ?_
        refine Eq_iln dX12_best_16 rfl ?_
        refine Eq_ic (v := nI 0) dX12_best_17 rfl ?_
        refine Eq_ic (v := nI 1) dX12_best_18 rfl ?_
        refine Eq_S3 (N := m_X12_in) dX12_best_19 lk_X12_215 mS_X12_in ((by have z := r_inr (h := h) (x := x2) (k := 1) (by omega); exact z)) (by decide) (Nat.le_of_ble_eq_true rfl) (Nat.le_of_ble_eq_true rfl) ?_
        refine Ef_if_ne dX12_best_22 (tgt := 29) rfl (by rw [isr_n hr2]; rfl) ?_
        refine Eam_x_ldcw dX12_best_25 kc_X12_358 ?_
        refine Eq_ir dX12_best_28 rfl ?_
        exact ⟨rfl, Fx.rf, hR⟩
      | some y =>
        obtain ⟨e2, hy⟩ := rg_some (by omega) hr2
        have hv : beV hm n g F x1 x2 = if y = 0 then bsB n (bst hm n g F w) else if w = 0 then -bsM (bst hm n g F w) else bsM (bst hm n g F w) := by
          unfold beV
          rw [hr1, hr2]
          exact if_neg h0
        rw [hv]
        subst e1
        subst e2
        refine Eq_aln dX12_best_0 rfl ?_
        refine Eq_getI dX12_best_1 fl_X12_252 (ws_50 hW) rfl hR.1 ?_
        refine Ef_if_eq dX12_best_4 (tgt := 25) rfl (by exact hn0) ?_
        refine Eq_iln dX12_best_7 rfl ?_
        refine Eq_ic (v := nI 0) dX12_best_8 rfl ?_
        refine Eq_ic (v := nI 2) dX12_best_9 rfl ?_
        refine Eq_S3 (N := m_X12_in) dX12_best_10 lk_X12_215 mS_X12_in ((by have z := r_inr (h := h) (x := nI w) (k := 2) (by omega); exact z)) (by decide) (Nat.le_of_ble_eq_true rfl) (Nat.le_of_ble_eq_true rfl) ?_
        refine Ef_if_eq dX12_best_13 (tgt := 25) rfl (by rw [isr_s hr1]; exact zf1) ?_
        refine Eq_iln dX12_best_16 rfl ?_
        refine Eq_ic (v := nI 0) dX12_best_17 rfl ?_
        refine Eq_ic (v := nI 1) dX12_best_18 rfl ?_
        refine Eq_S3 (N := m_X12_in) dX12_best_19 lk_X12_215 mS_X12_in ((by have z := r_inr (h := h) (x := nI y) (k := 1) (by omega); exact z)) (by decide) (Nat.le_of_ble_eq_true rfl) (Nat.le_of_ble_eq_true rfl) ?_
        refine Et_if_ne 29 dX12_best_22 rfl (by rw [isr_s hr2]; exact zf1) ?_
        refine Eq_aln dX12_best_29 rfl ?_
        refine Eq_V0 (N := m_X12_digits) dX12_best_30 lk_X12_368 mV_X12_digits (r_digits hW hR) (by decide) (ws_50 hW) rfl (by decide) (Nat.le_of_ble_eq_true rfl) (Nat.le_of_ble_eq_true rfl) ?_
        refine Eq_isn dX12_best_33 (by decide) ?_
        refine Eam_nl (pc' := 34) (l' := [_, _, _, _, _, _, _, _]) rfl rfl ?_
        refine Eq_aln dX12_best_34 rfl ?_
        refine Eq_W0 (N := m_X12_laySeatings) dX12_best_35 lk_X12_371 mV_X12_laySeatings (r_laySeatings hW h7 hR.1) (by decide) (ws_50 hW) rfl (by decide) (Nat.le_of_ble_eq_true rfl) (Nat.le_of_ble_eq_true rfl) (fun vq hq1 hq2 => ?_)
        obtain ⟨rfl, hf2, hQ2⟩ := hq2
        have hW2 := hf2.Wd hW
        refine Eq_ic (v := -1) dX12_best_38 rfl ?_
        refine Eq_is dX12_best_39 (by decide) ?_
        refine Eam_nl (pc' := 41) (l' := [_, _, _, _, _, _, _, _]) rfl rfl ?_
        refine Eq_ic (v := nI 0) dX12_best_41 rfl ?_
        refine Eq_is dX12_best_42 (by decide) ?_
        refine Eam_nl (pc' := 44) (l' := [_, _, _, _, _, _, _, _]) rfl rfl ?_
        refine Eq_ic (v := nI 0) dX12_best_44 rfl ?_
        refine Eq_is dX12_best_45 (by decide) ?_
        refine Eam_nl (pc' := 47) (l' := [_, _, _, _, _, _, _, _]) rfl rfl ?_
        exact (by have z := r_best_lp (hold := hold) (hm := hm) h7 (by omega) hw hy hR.pm (h0 := h) (lvx n n []).length 0 hq1 (by omega) S T hW2 (hR.fx hf2 (by decide)) (hq.fx hf2 (by decide)) hQ2 (hf2.mono (by decide) (by decide)) none; exact z)
