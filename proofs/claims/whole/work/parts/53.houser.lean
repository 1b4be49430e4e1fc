/-! the reference reads a house -/
theorem rsgn256 {h : am_H} {tl a : Nat} {tp : Nat → Nat} (hA : RA h tl tp a) (b : Nat) : ∀ c, sgn tl tp b = some c → c < 256 := fun c hc => by
  have q := sgn_lt hc
  rw [← q.2]
  exact (hA.1.2.2 b q.1).2
theorem ct_bit {s i : Nat} (h : ¬ s.testBit i = true) : ∀ n, ct (fun j => (s ||| 2 ^ i).testBit j) n = ct (fun j => s.testBit j) n + (if i < n then 1 else 0)
  | 0 => rfl
  | n + 1 => by
    have ih := ct_bit h n
    by_cases e : i = n
    · subst e
      have h1 : (fun j => (s ||| 2 ^ i).testBit j) i = true := by simp [Nat.testBit_or, Nat.testBit_two_pow_self]
      rw [ct_t h1, ct_f (p := fun j => s.testBit j) h, ih, if_neg (by omega), if_pos (by omega)]
    · have h1 : (fun j => (s ||| 2 ^ i).testBit j) n = (fun j => s.testBit j) n := by
        simp only [Nat.testBit_or]
        rw [Nat.testBit_two_pow_of_ne e, Bool.or_false]
      by_cases e2 : (fun j => s.testBit j) n = true
      · rw [ct_t (h1.trans e2), ct_t e2, ih]
        by_cases e3 : i < n
        · rw [if_pos e3, if_pos (by omega)]
        · rw [if_neg e3, if_neg (by omega)]
      · rw [ct_f (fun z => e2 (h1.symm.trans z)), ct_f e2, ih]
        by_cases e3 : i < n
        · rw [if_pos e3, if_pos (by omega)]
        · rw [if_neg e3, if_neg (by omega)]
theorem popc_or {s i : Nat} (h : ¬ s.testBit i = true) (hi : i < 7) : popc (s ||| 2 ^ i) = popc s + 1 := by
  unfold popc
  rw [ct_bit h, if_pos hi]
theorem itm_59 {x : Option Nat} {i : Nat} (h : itm x = some i) : x ≠ some 59 := fun z => by rw [z] at h; simp [itm] at h
/-- what the reference has read -/
def RD (h : am_H) (N : Nat) (g : Bool) (F : Nat → Nat → Nat) : Prop := am_i h 50 18 = nI N ∧ am_i h 50 19 = nI (if g = true then 1 else 0) ∧ N ≤ 7 ∧ ∀ i m, i < 7 → m < N → am_i h 61 (7 * m + i) = nI (F i m)
theorem RD.fx {A : List Nat} {B : List (Nat × Nat)} {h h' : am_H} {n : Nat} {g : Bool} {F : Nat → Nat → Nat} (m : RD h n g F) (a : Fx A B h h') (ok : 50 ∉ A ∧ 61 ∉ A ∧ (50, 18) ∉ B ∧ (50, 19) ∉ B ∧ 61 ∉ B.map Prod.fst) : RD h' n g F := by
  unfold RD at m ⊢
  rw [a.i ok.1 ok.2.2.1, a.i ok.1 ok.2.2.2.1, a.ia ok.2.1 ok.2.2.2.2]
  exact m
set_option maxHeartbeats 2000000 in
theorem r_here {h : am_H} (hW : Wd h) {tl : Nat} {tp : Nat → Nat} {a : Nat} (hA : RA h tl tp a)  : am_C 0 m_X12_here [.ref 50] h (some (.int (oN (sgn tl tp a))), h) := by
  obtain ⟨⟨hp0, hp1, hp2⟩, ha2, hatl⟩ := id hA
  by_cases hl : a < tl
  · rw [sgn_s hl]
    refine q_aln dX12_here_0 rfl ?_
    refine q_getI dX12_here_1 fl_X12_110 (ws_50 hW) rfl (by first | exact ha2 | exact hp0) ?_
    refine q_aln dX12_here_4 rfl ?_
    refine q_getI dX12_here_5 fl_X12_107 (ws_50 hW) rfl (by first | exact ha2 | exact hp0) ?_
    refine f_ic_ge dX12_here_8 (tgt := 23) rfl (by exact nI_ge (by omega) (by omega)) ?_
    refine q_aln dX12_here_11 rfl ?_
    refine q_getR dX12_here_12 fl_X12_9 (ws_50 hW) rfl (wp_50_1 hW) ?_
    refine q_aln dX12_here_15 rfl ?_
    refine q_getI dX12_here_16 fl_X12_110 (ws_50 hW) rfl (by first | exact ha2 | exact hp0) ?_
    refine q_ald dX12_here_19 (ws_51 hW) (by omega) (by omega) (hp2 _ (by omega)).1 ?_
    refine am_x_goto (tgt := 24) dX12_here_20 rfl ?_
    refine q_ir dX12_here_24 rfl ?_
    rfl
  · rw [sgn_n hl]
    refine q_aln dX12_here_0 rfl ?_
    refine q_getI dX12_here_1 fl_X12_110 (ws_50 hW) rfl (by first | exact ha2 | exact hp0) ?_
    refine q_aln dX12_here_4 rfl ?_
    refine q_getI dX12_here_5 fl_X12_107 (ws_50 hW) rfl (by first | exact ha2 | exact hp0) ?_
    refine t_ic_ge 23 dX12_here_8 rfl (by exact nI_le (by omega) (by omega)) ?_
    refine q_ic (v := -1) dX12_here_23 rfl ?_
    refine q_ir dX12_here_24 rfl ?_
    rfl
set_option maxHeartbeats 2000000 in
theorem r_look_lp {tl : Nat} {tp : Nat → Nat} : ∀ k a, tl ≤ a + k → ∀ h0, Wd h0 → RA h0 tl tp a → am_E 1 m_X12_look 0 [some (.ref 50)] [] h0 (fun v h2 => v = some (.int (oN (sgn tl tp (nx tl tp a)))) ∧ Fx [] [(50, 3)] h0 h2 ∧ RA h2 tl tp (nx tl tp a)) := by
  intro k
  induction k with
  | zero =>
    intro a hk h hW hA
    have h2 := rsgn256 hA a
    obtain ⟨⟨hp0, hp1, hp2⟩, ha2, hatl⟩ := id hA
    have e : ¬ sgn tl tp a = some 32 := by rw [sgn_n (by omega)]; exact fun z => nomatch z
    rw [nx_o (by omega)]
    refine Eq_aln dX12_look_0 rfl ?_
    refine Eq_V0 (N := m_X12_here) dX12_look_1 lk_X12_113 mV_X12_here (r_here hW hA) (by decide) (ws_50 hW) rfl (by decide) (Nat.le_of_ble_eq_true rfl) (Nat.le_of_ble_eq_true rfl) ?_
    refine Eq_bp (v := nI 32) dX12_look_4 rfl ?_
    refine Et_ic_ne 22 dX12_look_6 rfl (by exact fun z => e ((oNlt (fun k hk => by have := h2 k hk; omega) 32 (by omega)).mp z)) ?_
    refine Eq_aln dX12_look_22 rfl ?_
    refine Eq_V0 (N := m_X12_here) dX12_look_23 lk_X12_113 mV_X12_here (r_here hW hA) (by decide) (ws_50 hW) rfl (by decide) (Nat.le_of_ble_eq_true rfl) (Nat.le_of_ble_eq_true rfl) ?_
    refine Eq_ir dX12_look_26 rfl ?_
    exact ⟨rfl, Fx.rf, hA⟩
  | succ k ih =>
    intro a hk h hW hA
    have h2 := rsgn256 hA a
    obtain ⟨⟨hp0, hp1, hp2⟩, ha2, hatl⟩ := id hA
    by_cases e : sgn tl tp a = some 32
    · have hl := sgn_lt e
      rw [nx_b hl.1 hl.2]
      refine Eq_aln dX12_look_0 rfl ?_
      refine Eq_V0 (N := m_X12_here) dX12_look_1 lk_X12_113 mV_X12_here (r_here hW hA) (by decide) (ws_50 hW) rfl (by decide) (Nat.le_of_ble_eq_true rfl) (Nat.le_of_ble_eq_true rfl) ?_
      refine Eq_bp (v := nI 32) dX12_look_4 rfl ?_
      refine Ef_ic_ne dX12_look_6 (tgt := 22) rfl (by rw [e]; rfl) ?_
      refine Eq_aln dX12_look_9 rfl ?_
      refine Eam_x_pu dX12_look_10 rfl ?_
      refine Eq_getI dX12_look_11 fl_X12_110 (ws_50 hW) rfl (by first | exact ha2 | exact hp0) ?_
      refine Eq_ic (v := nI 1) dX12_look_14 rfl ?_
      first | refine Eq_add dX12_look_15 ?_ | refine Eam_x_pu dX12_look_15 rfl ?_
      refine Eam_x_putI dX12_look_16 (fw_X12_110 rfl) (ws_50 hW) (Or.inl rfl) ?_
      refine Eam_x_goto (tgt := 0) dX12_look_19 rfl ?_
      have k1 : Fx [] [(50, 3)] h (am_wI h 50 3 (nI (a + 1))) := Fx.wI (Or.inr (by decide))
      obtain ⟨v2, h2, z1, z2, z3, z4⟩ := ih (a + 1) (by omega) _ (k1.Wd hW) (hA.mv (by omega))
      exact ⟨v2, h2, z1, z2, k1.tr z3, z4⟩
    · rw [nx_o (fun z => e (by rw [sgn_s z.1, z.2]))]
      refine Eq_aln dX12_look_0 rfl ?_
      refine Eq_V0 (N := m_X12_here) dX12_look_1 lk_X12_113 mV_X12_here (r_here hW hA) (by decide) (ws_50 hW) rfl (by decide) (Nat.le_of_ble_eq_true rfl) (Nat.le_of_ble_eq_true rfl) ?_
      refine Eq_bp (v := nI 32) dX12_look_4 rfl ?_
      refine Et_ic_ne 22 dX12_look_6 rfl (by exact fun z => e ((oNlt (fun k hk => by have := h2 k hk; omega) 32 (by omega)).mp z)) ?_
      refine Eq_aln dX12_look_22 rfl ?_
      refine Eq_V0 (N := m_X12_here) dX12_look_23 lk_X12_113 mV_X12_here (r_here hW hA) (by decide) (ws_50 hW) rfl (by decide) (Nat.le_of_ble_eq_true rfl) (Nat.le_of_ble_eq_true rfl) ?_
      refine Eq_ir dX12_look_26 rfl ?_
      exact ⟨rfl, Fx.rf, hA⟩
set_option maxHeartbeats 2000000 in
theorem r_look {h : am_H} (hW : Wd h) {tl : Nat} {tp : Nat → Nat} {a : Nat} (hA : RA h tl tp a)  : am_D 1 m_X12_look [.ref 50] h (fun v h2 => v = some (.int (oN (sgn tl tp (nx tl tp a)))) ∧ Fx [] [(50, 3)] h h2 ∧ RA h2 tl tp (nx tl tp a)) := by
  exact r_look_lp (tl - a) a (by omega) h hW hA
set_option maxHeartbeats 2000000 in
theorem r_bad {h : am_H} (hW : Wd h) {tl : Nat} {tp : Nat → Nat} {a : Nat} (hA : RA h tl tp a) (hw : am_i h 50 4 = -1) : am_C 0 m_X12_bad [.ref 50] h (none, am_wI h 50 4 (nI a)) := by
  obtain ⟨⟨hp0, hp1, hp2⟩, ha2, hatl⟩ := id hA
  refine q_aln dX12_bad_0 rfl ?_
  refine q_aln dX12_bad_1 rfl ?_
  refine q_getI dX12_bad_2 fl_X12_117 (ws_50 hW) rfl (by first | exact hw | exact ha2) ?_
  refine q_ic (v := -1) dX12_bad_5 rfl ?_
  refine f_ic_ne dX12_bad_6 (tgt := 16) rfl (by rfl) ?_
  refine q_aln dX12_bad_9 rfl ?_
  refine q_getI dX12_bad_10 fl_X12_110 (ws_50 hW) rfl (by first | exact hw | exact ha2) ?_
  refine am_x_goto (tgt := 20) dX12_bad_13 rfl ?_
  refine am_x_putI dX12_bad_20 (fw_X12_117 rfl) (ws_50 hW) (Or.inl rfl) ?_
  refine q_vr dX12_bad_23 rfl ?_
  rfl
set_option maxHeartbeats 2000000 in
theorem r_isDigit {h : am_H} {x : Option Nat} (hx : ∀ c, x = some c → c < 256) : am_C 0 m_X12_isDigit [.int (oN x)] h (some (.int (nI (if isDg x = true then 1 else 0))), h) := by
  cases x with
  | none =>
    refine q_iln dX12_isDigit_0 rfl ?_
    refine q_bp (v := nI 48) dX12_isDigit_1 rfl ?_
    refine t_ic_lt 16 dX12_isDigit_3 rfl (by decide +kernel) ?_
    refine q_ic (v := nI 0) dX12_isDigit_16 rfl ?_
    first | refine q_zrn dX12_isDigit_17 rfl (by first | omega | exact b2_le) ?_ | refine q_zr dX12_isDigit_17 rfl (by first | exact Or.inl rfl | exact Or.inr rfl | assumption) ?_
    rfl
  | some c =>
    have hc := hx c rfl
    show am_C 0 m_X12_isDigit [.int (nI c)] h _
    refine q_iln dX12_isDigit_0 rfl ?_
    refine q_bp (v := nI 48) dX12_isDigit_1 rfl ?_
    first | refine n_ic_lt 16 dX12_isDigit_3 rfl (by omega) (by omega) (fun c3 => ?_) (fun c3 => ?_) | refine b_ic_lt 16 dX12_isDigit_3 rfl (fun c3 => ?_) (fun c3 => ?_)
    · first
      | (exfalso; omega)
      | (refine q_ic (v := nI 0) dX12_isDigit_16 rfl ?_
         first | refine q_zrn dX12_isDigit_17 rfl (by first | omega | exact b2_le) ?_ | refine q_zr dX12_isDigit_17 rfl (by first | exact Or.inl rfl | exact Or.inr rfl | assumption) ?_
         (apply o_nI; first | rw [if_pos (isDg_iff.mpr (by omega))] | rw [if_neg (fun z => by have := isDg_iff.mp z; omega)]))
    · first
      | (exfalso; omega)
      | (refine q_iln dX12_isDigit_6 rfl ?_
         refine q_bp (v := nI 57) dX12_isDigit_7 rfl ?_
         first | refine n_ic_gt 16 dX12_isDigit_9 rfl (by omega) (by omega) (fun c9 => ?_) (fun c9 => ?_) | refine b_ic_gt 16 dX12_isDigit_9 rfl (fun c9 => ?_) (fun c9 => ?_)
         · first
           | (exfalso; omega)
           | (refine q_ic (v := nI 0) dX12_isDigit_16 rfl ?_
              first | refine q_zrn dX12_isDigit_17 rfl (by first | omega | exact b2_le) ?_ | refine q_zr dX12_isDigit_17 rfl (by first | exact Or.inl rfl | exact Or.inr rfl | assumption) ?_
              (apply o_nI; first | rw [if_pos (isDg_iff.mpr (by omega))] | rw [if_neg (fun z => by have := isDg_iff.mp z; omega)]))
         · first
           | (exfalso; omega)
           | (refine q_ic (v := nI 1) dX12_isDigit_12 rfl ?_
              refine am_x_goto (tgt := 17) dX12_isDigit_13 rfl ?_
              first | refine q_zrn dX12_isDigit_17 rfl (by first | omega | exact b2_le) ?_ | refine q_zr dX12_isDigit_17 rfl (by first | exact Or.inl rfl | exact Or.inr rfl | assumption) ?_
              (apply o_nI; first | rw [if_pos (isDg_iff.mpr (by omega))] | rw [if_neg (fun z => by have := isDg_iff.mp z; omega)])))
set_option maxHeartbeats 2000000 in
theorem r_highest_0 {h : am_H} : am_C 0 m_X12_highest [.int (nI 0)] h (some (.int (nI 1)), h) := by
  refine q_iln dX12_highest_0 rfl ?_
  refine f_if_ne dX12_highest_1 (tgt := 8) rfl (by rfl) ?_
  refine q_ic (v := nI 1) dX12_highest_4 rfl ?_
  refine am_x_goto (tgt := 44) dX12_highest_5 rfl ?_
  refine q_ir dX12_highest_44 rfl ?_
  rfl
set_option maxHeartbeats 2000000 in
theorem r_usual_0 {h : am_H} : am_C 0 m_X12_usual [.int (nI 0)] h (some (.int (nI 1)), h) := by
  refine q_iln dX12_usual_0 rfl ?_
  refine t_if_eq 9 dX12_usual_1 rfl (by rfl) ?_
  refine q_ic (v := nI 1) dX12_usual_9 rfl ?_
  refine am_x_goto (tgt := 44) dX12_usual_10 rfl ?_
  refine q_ir dX12_usual_44 rfl ?_
  rfl
set_option maxHeartbeats 2000000 in
theorem r_highest_1 {h : am_H} : am_C 0 m_X12_highest [.int (nI 1)] h (some (.int (nI 20)), h) := by
  refine q_iln dX12_highest_0 rfl ?_
  refine t_if_ne 8 dX12_highest_1 rfl (by decide +kernel) ?_
  refine q_iln dX12_highest_8 rfl ?_
  refine q_ic (v := nI 3) dX12_highest_9 rfl ?_
  refine t_ic_ne 17 dX12_highest_10 rfl (by decide +kernel) ?_
  refine q_iln dX12_highest_17 rfl ?_
  refine q_ic (v := nI 4) dX12_highest_18 rfl ?_
  refine t_ic_ne 27 dX12_highest_19 rfl (by decide +kernel) ?_
  refine q_iln dX12_highest_27 rfl ?_
  refine q_ic (v := nI 1) dX12_highest_28 rfl ?_
  refine t_ic_eq 37 dX12_highest_29 rfl (by rfl) ?_
  refine q_bp (v := nI 20) dX12_highest_37 rfl ?_
  refine am_x_goto (tgt := 44) dX12_highest_39 rfl ?_
  refine q_ir dX12_highest_44 rfl ?_
  rfl
set_option maxHeartbeats 2000000 in
theorem r_usual_1 {h : am_H} : am_C 0 m_X12_usual [.int (nI 1)] h (some (.int (nI 1)), h) := by
  refine q_iln dX12_usual_0 rfl ?_
  refine f_if_eq dX12_usual_1 (tgt := 9) rfl (by decide +kernel) ?_
  refine q_iln dX12_usual_4 rfl ?_
  refine q_ic (v := nI 1) dX12_usual_5 rfl ?_
  refine f_ic_ne dX12_usual_6 (tgt := 13) rfl (by rfl) ?_
  refine q_ic (v := nI 1) dX12_usual_9 rfl ?_
  refine am_x_goto (tgt := 44) dX12_usual_10 rfl ?_
  refine q_ir dX12_usual_44 rfl ?_
  rfl
set_option maxHeartbeats 2000000 in
theorem r_highest_2 {h : am_H} : am_C 0 m_X12_highest [.int (nI 2)] h (some (.int (nI 99)), h) := by
  refine q_iln dX12_highest_0 rfl ?_
  refine t_if_ne 8 dX12_highest_1 rfl (by decide +kernel) ?_
  refine q_iln dX12_highest_8 rfl ?_
  refine q_ic (v := nI 3) dX12_highest_9 rfl ?_
  refine t_ic_ne 17 dX12_highest_10 rfl (by decide +kernel) ?_
  refine q_iln dX12_highest_17 rfl ?_
  refine q_ic (v := nI 4) dX12_highest_18 rfl ?_
  refine t_ic_ne 27 dX12_highest_19 rfl (by decide +kernel) ?_
  refine q_iln dX12_highest_27 rfl ?_
  refine q_ic (v := nI 1) dX12_highest_28 rfl ?_
  refine f_ic_eq dX12_highest_29 (tgt := 37) rfl (by decide +kernel) ?_
  refine q_iln dX12_highest_32 rfl ?_
  refine q_ic (v := nI 5) dX12_highest_33 rfl ?_
  refine t_ic_ne 42 dX12_highest_34 rfl (by decide +kernel) ?_
  refine q_bp (v := nI 99) dX12_highest_42 rfl ?_
  refine q_ir dX12_highest_44 rfl ?_
  rfl
set_option maxHeartbeats 2000000 in
theorem r_usual_2 {h : am_H} : am_C 0 m_X12_usual [.int (nI 2)] h (some (.int (nI 0)), h) := by
  refine q_iln dX12_usual_0 rfl ?_
  refine f_if_eq dX12_usual_1 (tgt := 9) rfl (by decide +kernel) ?_
  refine q_iln dX12_usual_4 rfl ?_
  refine q_ic (v := nI 1) dX12_usual_5 rfl ?_
  refine t_ic_ne 13 dX12_usual_6 rfl (by decide +kernel) ?_
  refine q_iln dX12_usual_13 rfl ?_
  refine q_ic (v := nI 4) dX12_usual_14 rfl ?_
  refine t_ic_ne 23 dX12_usual_15 rfl (by decide +kernel) ?_
  refine q_iln dX12_usual_23 rfl ?_
  refine q_ic (v := nI 5) dX12_usual_24 rfl ?_
  refine t_ic_ne 32 dX12_usual_25 rfl (by decide +kernel) ?_
  refine q_iln dX12_usual_32 rfl ?_
  refine q_bp (v := nI 6) dX12_usual_33 rfl ?_
  refine t_ic_ne 43 dX12_usual_35 rfl (by decide +kernel) ?_
  refine q_ic (v := nI 0) dX12_usual_43 rfl ?_
  refine q_ir dX12_usual_44 rfl ?_
  rfl
set_option maxHeartbeats 2000000 in
theorem r_highest_3 {h : am_H} : am_C 0 m_X12_highest [.int (nI 3)] h (some (.int (nI 3)), h) := by
  refine q_iln dX12_highest_0 rfl ?_
  refine t_if_ne 8 dX12_highest_1 rfl (by decide +kernel) ?_
  refine q_iln dX12_highest_8 rfl ?_
  refine q_ic (v := nI 3) dX12_highest_9 rfl ?_
  refine f_ic_ne dX12_highest_10 (tgt := 17) rfl (by rfl) ?_
  refine q_ic (v := nI 3) dX12_highest_13 rfl ?_
  refine am_x_goto (tgt := 44) dX12_highest_14 rfl ?_
  refine q_ir dX12_highest_44 rfl ?_
  rfl
set_option maxHeartbeats 2000000 in
theorem r_usual_3 {h : am_H} : am_C 0 m_X12_usual [.int (nI 3)] h (some (.int (nI 0)), h) := by
  refine q_iln dX12_usual_0 rfl ?_
  refine f_if_eq dX12_usual_1 (tgt := 9) rfl (by decide +kernel) ?_
  refine q_iln dX12_usual_4 rfl ?_
  refine q_ic (v := nI 1) dX12_usual_5 rfl ?_
  refine t_ic_ne 13 dX12_usual_6 rfl (by decide +kernel) ?_
  refine q_iln dX12_usual_13 rfl ?_
  refine q_ic (v := nI 4) dX12_usual_14 rfl ?_
  refine t_ic_ne 23 dX12_usual_15 rfl (by decide +kernel) ?_
  refine q_iln dX12_usual_23 rfl ?_
  refine q_ic (v := nI 5) dX12_usual_24 rfl ?_
  refine t_ic_ne 32 dX12_usual_25 rfl (by decide +kernel) ?_
  refine q_iln dX12_usual_32 rfl ?_
  refine q_bp (v := nI 6) dX12_usual_33 rfl ?_
  refine t_ic_ne 43 dX12_usual_35 rfl (by decide +kernel) ?_
  refine q_ic (v := nI 0) dX12_usual_43 rfl ?_
  refine q_ir dX12_usual_44 rfl ?_
  rfl
set_option maxHeartbeats 2000000 in
theorem r_highest_4 {h : am_H} : am_C 0 m_X12_highest [.int (nI 4)] h (some (.int (nI 7)), h) := by
  refine q_iln dX12_highest_0 rfl ?_
  refine t_if_ne 8 dX12_highest_1 rfl (by decide +kernel) ?_
  refine q_iln dX12_highest_8 rfl ?_
  refine q_ic (v := nI 3) dX12_highest_9 rfl ?_
  refine t_ic_ne 17 dX12_highest_10 rfl (by decide +kernel) ?_
  refine q_iln dX12_highest_17 rfl ?_
  refine q_ic (v := nI 4) dX12_highest_18 rfl ?_
  refine f_ic_ne dX12_highest_19 (tgt := 27) rfl (by rfl) ?_
  refine q_bp (v := nI 7) dX12_highest_22 rfl ?_
  refine am_x_goto (tgt := 44) dX12_highest_24 rfl ?_
  refine q_ir dX12_highest_44 rfl ?_
  rfl
set_option maxHeartbeats 2000000 in
theorem r_usual_4 {h : am_H} : am_C 0 m_X12_usual [.int (nI 4)] h (some (.int (nI 7)), h) := by
  refine q_iln dX12_usual_0 rfl ?_
  refine f_if_eq dX12_usual_1 (tgt := 9) rfl (by decide +kernel) ?_
  refine q_iln dX12_usual_4 rfl ?_
  refine q_ic (v := nI 1) dX12_usual_5 rfl ?_
  refine t_ic_ne 13 dX12_usual_6 rfl (by decide +kernel) ?_
  refine q_iln dX12_usual_13 rfl ?_
  refine q_ic (v := nI 4) dX12_usual_14 rfl ?_
  refine f_ic_ne dX12_usual_15 (tgt := 23) rfl (by rfl) ?_
  refine q_bp (v := nI 7) dX12_usual_18 rfl ?_
  refine am_x_goto (tgt := 44) dX12_usual_20 rfl ?_
  refine q_ir dX12_usual_44 rfl ?_
  rfl
set_option maxHeartbeats 2000000 in
theorem r_highest_5 {h : am_H} : am_C 0 m_X12_highest [.int (nI 5)] h (some (.int (nI 20)), h) := by
  refine q_iln dX12_highest_0 rfl ?_
  refine t_if_ne 8 dX12_highest_1 rfl (by decide +kernel) ?_
  refine q_iln dX12_highest_8 rfl ?_
  refine q_ic (v := nI 3) dX12_highest_9 rfl ?_
  refine t_ic_ne 17 dX12_highest_10 rfl (by decide +kernel) ?_
  refine q_iln dX12_highest_17 rfl ?_
  refine q_ic (v := nI 4) dX12_highest_18 rfl ?_
  refine t_ic_ne 27 dX12_highest_19 rfl (by decide +kernel) ?_
  refine q_iln dX12_highest_27 rfl ?_
  refine q_ic (v := nI 1) dX12_highest_28 rfl ?_
  refine f_ic_eq dX12_highest_29 (tgt := 37) rfl (by decide +kernel) ?_
  refine q_iln dX12_highest_32 rfl ?_
  refine q_ic (v := nI 5) dX12_highest_33 rfl ?_
  refine f_ic_ne dX12_highest_34 (tgt := 42) rfl (by rfl) ?_
  refine q_bp (v := nI 20) dX12_highest_37 rfl ?_
  refine am_x_goto (tgt := 44) dX12_highest_39 rfl ?_
  refine q_ir dX12_highest_44 rfl ?_
  rfl
set_option maxHeartbeats 2000000 in
theorem r_usual_5 {h : am_H} : am_C 0 m_X12_usual [.int (nI 5)] h (some (.int (nI 3)), h) := by
  refine q_iln dX12_usual_0 rfl ?_
  refine f_if_eq dX12_usual_1 (tgt := 9) rfl (by decide +kernel) ?_
  refine q_iln dX12_usual_4 rfl ?_
  refine q_ic (v := nI 1) dX12_usual_5 rfl ?_
  refine t_ic_ne 13 dX12_usual_6 rfl (by decide +kernel) ?_
  refine q_iln dX12_usual_13 rfl ?_
  refine q_ic (v := nI 4) dX12_usual_14 rfl ?_
  refine t_ic_ne 23 dX12_usual_15 rfl (by decide +kernel) ?_
  refine q_iln dX12_usual_23 rfl ?_
  refine q_ic (v := nI 5) dX12_usual_24 rfl ?_
  refine f_ic_ne dX12_usual_25 (tgt := 32) rfl (by rfl) ?_
  refine q_ic (v := nI 3) dX12_usual_28 rfl ?_
  refine am_x_goto (tgt := 44) dX12_usual_29 rfl ?_
  refine q_ir dX12_usual_44 rfl ?_
  rfl
set_option maxHeartbeats 2000000 in
theorem r_highest_6 {h : am_H} : am_C 0 m_X12_highest [.int (nI 6)] h (some (.int (nI 99)), h) := by
  refine q_iln dX12_highest_0 rfl ?_
  refine t_if_ne 8 dX12_highest_1 rfl (by decide +kernel) ?_
  refine q_iln dX12_highest_8 rfl ?_
  refine q_ic (v := nI 3) dX12_highest_9 rfl ?_
  refine t_ic_ne 17 dX12_highest_10 rfl (by decide +kernel) ?_
  refine q_iln dX12_highest_17 rfl ?_
  refine q_ic (v := nI 4) dX12_highest_18 rfl ?_
  refine t_ic_ne 27 dX12_highest_19 rfl (by decide +kernel) ?_
  refine q_iln dX12_highest_27 rfl ?_
  refine q_ic (v := nI 1) dX12_highest_28 rfl ?_
  refine f_ic_eq dX12_highest_29 (tgt := 37) rfl (by decide +kernel) ?_
  refine q_iln dX12_highest_32 rfl ?_
  refine q_ic (v := nI 5) dX12_highest_33 rfl ?_
  refine t_ic_ne 42 dX12_highest_34 rfl (by decide +kernel) ?_
  refine q_bp (v := nI 99) dX12_highest_42 rfl ?_
  refine q_ir dX12_highest_44 rfl ?_
  rfl
set_option maxHeartbeats 2000000 in
theorem r_usual_6 {h : am_H} : am_C 0 m_X12_usual [.int (nI 6)] h (some (.int (nI 10)), h) := by
  refine q_iln dX12_usual_0 rfl ?_
  refine f_if_eq dX12_usual_1 (tgt := 9) rfl (by decide +kernel) ?_
  refine q_iln dX12_usual_4 rfl ?_
  refine q_ic (v := nI 1) dX12_usual_5 rfl ?_
  refine t_ic_ne 13 dX12_usual_6 rfl (by decide +kernel) ?_
  refine q_iln dX12_usual_13 rfl ?_
  refine q_ic (v := nI 4) dX12_usual_14 rfl ?_
  refine t_ic_ne 23 dX12_usual_15 rfl (by decide +kernel) ?_
  refine q_iln dX12_usual_23 rfl ?_
  refine q_ic (v := nI 5) dX12_usual_24 rfl ?_
  refine t_ic_ne 32 dX12_usual_25 rfl (by decide +kernel) ?_
  refine q_iln dX12_usual_32 rfl ?_
  refine q_bp (v := nI 6) dX12_usual_33 rfl ?_
  refine f_ic_ne dX12_usual_35 (tgt := 43) rfl (by rfl) ?_
  refine q_bp (v := nI 10) dX12_usual_38 rfl ?_
  refine am_x_goto (tgt := 44) dX12_usual_40 rfl ?_
  refine q_ir dX12_usual_44 rfl ?_
  rfl
set_option maxHeartbeats 2000000 in
theorem r_itemOf_0 {h : am_H} : am_C 0 m_X12_itemOf [.int (nI 118)] h (some (.int (nI 0)), h) := by
  refine q_iln dX12_itemOf_0 rfl ?_
  refine q_bp (v := nI 118) dX12_itemOf_1 rfl ?_
  refine f_ic_ne dX12_itemOf_3 (tgt := 10) rfl (by rfl) ?_
  refine q_ic (v := nI 0) dX12_itemOf_6 rfl ?_
  refine am_x_goto (tgt := 72) dX12_itemOf_7 rfl ?_
  refine q_ir dX12_itemOf_72 rfl ?_
  rfl
set_option maxHeartbeats 2000000 in
theorem r_itemOf_1 {h : am_H} : am_C 0 m_X12_itemOf [.int (nI 100)] h (some (.int (nI 1)), h) := by
  refine q_iln dX12_itemOf_0 rfl ?_
  refine q_bp (v := nI 118) dX12_itemOf_1 rfl ?_
  refine t_ic_ne 10 dX12_itemOf_3 rfl (by decide +kernel) ?_
  refine q_iln dX12_itemOf_10 rfl ?_
  refine q_bp (v := nI 100) dX12_itemOf_11 rfl ?_
  refine f_ic_ne dX12_itemOf_13 (tgt := 20) rfl (by rfl) ?_
  refine q_ic (v := nI 1) dX12_itemOf_16 rfl ?_
  refine am_x_goto (tgt := 72) dX12_itemOf_17 rfl ?_
  refine q_ir dX12_itemOf_72 rfl ?_
  rfl
set_option maxHeartbeats 2000000 in
theorem r_itemOf_2 {h : am_H} : am_C 0 m_X12_itemOf [.int (nI 101)] h (some (.int (nI 2)), h) := by
  refine q_iln dX12_itemOf_0 rfl ?_
  refine q_bp (v := nI 118) dX12_itemOf_1 rfl ?_
  refine t_ic_ne 10 dX12_itemOf_3 rfl (by decide +kernel) ?_
  refine q_iln dX12_itemOf_10 rfl ?_
  refine q_bp (v := nI 100) dX12_itemOf_11 rfl ?_
  refine t_ic_ne 20 dX12_itemOf_13 rfl (by decide +kernel) ?_
  refine q_iln dX12_itemOf_20 rfl ?_
  refine q_bp (v := nI 101) dX12_itemOf_21 rfl ?_
  refine f_ic_ne dX12_itemOf_23 (tgt := 30) rfl (by rfl) ?_
  refine q_ic (v := nI 2) dX12_itemOf_26 rfl ?_
  refine am_x_goto (tgt := 72) dX12_itemOf_27 rfl ?_
  refine q_ir dX12_itemOf_72 rfl ?_
  rfl
set_option maxHeartbeats 2000000 in
theorem r_itemOf_3 {h : am_H} : am_C 0 m_X12_itemOf [.int (nI 107)] h (some (.int (nI 3)), h) := by
  refine q_iln dX12_itemOf_0 rfl ?_
  refine q_bp (v := nI 118) dX12_itemOf_1 rfl ?_
  refine t_ic_ne 10 dX12_itemOf_3 rfl (by decide +kernel) ?_
  refine q_iln dX12_itemOf_10 rfl ?_
  refine q_bp (v := nI 100) dX12_itemOf_11 rfl ?_
  refine t_ic_ne 20 dX12_itemOf_13 rfl (by decide +kernel) ?_
  refine q_iln dX12_itemOf_20 rfl ?_
  refine q_bp (v := nI 101) dX12_itemOf_21 rfl ?_
  refine t_ic_ne 30 dX12_itemOf_23 rfl (by decide +kernel) ?_
  refine q_iln dX12_itemOf_30 rfl ?_
  refine q_bp (v := nI 107) dX12_itemOf_31 rfl ?_
  refine f_ic_ne dX12_itemOf_33 (tgt := 40) rfl (by rfl) ?_
  refine q_ic (v := nI 3) dX12_itemOf_36 rfl ?_
  refine am_x_goto (tgt := 72) dX12_itemOf_37 rfl ?_
  refine q_ir dX12_itemOf_72 rfl ?_
  rfl
set_option maxHeartbeats 2000000 in
theorem r_itemOf_4 {h : am_H} : am_C 0 m_X12_itemOf [.int (nI 110)] h (some (.int (nI 4)), h) := by
  refine q_iln dX12_itemOf_0 rfl ?_
  refine q_bp (v := nI 118) dX12_itemOf_1 rfl ?_
  refine t_ic_ne 10 dX12_itemOf_3 rfl (by decide +kernel) ?_
  refine q_iln dX12_itemOf_10 rfl ?_
  refine q_bp (v := nI 100) dX12_itemOf_11 rfl ?_
  refine t_ic_ne 20 dX12_itemOf_13 rfl (by decide +kernel) ?_
  refine q_iln dX12_itemOf_20 rfl ?_
  refine q_bp (v := nI 101) dX12_itemOf_21 rfl ?_
  refine t_ic_ne 30 dX12_itemOf_23 rfl (by decide +kernel) ?_
  refine q_iln dX12_itemOf_30 rfl ?_
  refine q_bp (v := nI 107) dX12_itemOf_31 rfl ?_
  refine t_ic_ne 40 dX12_itemOf_33 rfl (by decide +kernel) ?_
  refine q_iln dX12_itemOf_40 rfl ?_
  refine q_bp (v := nI 110) dX12_itemOf_41 rfl ?_
  refine f_ic_ne dX12_itemOf_43 (tgt := 50) rfl (by rfl) ?_
  refine q_ic (v := nI 4) dX12_itemOf_46 rfl ?_
  refine am_x_goto (tgt := 72) dX12_itemOf_47 rfl ?_
  refine q_ir dX12_itemOf_72 rfl ?_
  rfl
set_option maxHeartbeats 2000000 in
theorem r_itemOf_5 {h : am_H} : am_C 0 m_X12_itemOf [.int (nI 121)] h (some (.int (nI 5)), h) := by
  refine q_iln dX12_itemOf_0 rfl ?_
  refine q_bp (v := nI 118) dX12_itemOf_1 rfl ?_
  refine t_ic_ne 10 dX12_itemOf_3 rfl (by decide +kernel) ?_
  refine q_iln dX12_itemOf_10 rfl ?_
  refine q_bp (v := nI 100) dX12_itemOf_11 rfl ?_
  refine t_ic_ne 20 dX12_itemOf_13 rfl (by decide +kernel) ?_
  refine q_iln dX12_itemOf_20 rfl ?_
  refine q_bp (v := nI 101) dX12_itemOf_21 rfl ?_
  refine t_ic_ne 30 dX12_itemOf_23 rfl (by decide +kernel) ?_
  refine q_iln dX12_itemOf_30 rfl ?_
  refine q_bp (v := nI 107) dX12_itemOf_31 rfl ?_
  refine t_ic_ne 40 dX12_itemOf_33 rfl (by decide +kernel) ?_
  refine q_iln dX12_itemOf_40 rfl ?_
  refine q_bp (v := nI 110) dX12_itemOf_41 rfl ?_
  refine t_ic_ne 50 dX12_itemOf_43 rfl (by decide +kernel) ?_
  refine q_iln dX12_itemOf_50 rfl ?_
  refine q_bp (v := nI 121) dX12_itemOf_51 rfl ?_
  refine f_ic_ne dX12_itemOf_53 (tgt := 60) rfl (by rfl) ?_
  refine q_ic (v := nI 5) dX12_itemOf_56 rfl ?_
  refine am_x_goto (tgt := 72) dX12_itemOf_57 rfl ?_
  refine q_ir dX12_itemOf_72 rfl ?_
  rfl
set_option maxHeartbeats 2000000 in
theorem r_itemOf_6 {h : am_H} : am_C 0 m_X12_itemOf [.int (nI 98)] h (some (.int (nI 6)), h) := by
  refine q_iln dX12_itemOf_0 rfl ?_
  refine q_bp (v := nI 118) dX12_itemOf_1 rfl ?_
  refine t_ic_ne 10 dX12_itemOf_3 rfl (by decide +kernel) ?_
  refine q_iln dX12_itemOf_10 rfl ?_
  refine q_bp (v := nI 100) dX12_itemOf_11 rfl ?_
  refine t_ic_ne 20 dX12_itemOf_13 rfl (by decide +kernel) ?_
  refine q_iln dX12_itemOf_20 rfl ?_
  refine q_bp (v := nI 101) dX12_itemOf_21 rfl ?_
  refine t_ic_ne 30 dX12_itemOf_23 rfl (by decide +kernel) ?_
  refine q_iln dX12_itemOf_30 rfl ?_
  refine q_bp (v := nI 107) dX12_itemOf_31 rfl ?_
  refine t_ic_ne 40 dX12_itemOf_33 rfl (by decide +kernel) ?_
  refine q_iln dX12_itemOf_40 rfl ?_
  refine q_bp (v := nI 110) dX12_itemOf_41 rfl ?_
  refine t_ic_ne 50 dX12_itemOf_43 rfl (by decide +kernel) ?_
  refine q_iln dX12_itemOf_50 rfl ?_
  refine q_bp (v := nI 121) dX12_itemOf_51 rfl ?_
  refine t_ic_ne 60 dX12_itemOf_53 rfl (by decide +kernel) ?_
  refine q_iln dX12_itemOf_60 rfl ?_
  refine q_bp (v := nI 98) dX12_itemOf_61 rfl ?_
  refine f_ic_ne dX12_itemOf_63 (tgt := 71) rfl (by rfl) ?_
  refine q_bp (v := nI 6) dX12_itemOf_66 rfl ?_
  refine am_x_goto (tgt := 72) dX12_itemOf_68 rfl ?_
  refine q_ir dX12_itemOf_72 rfl ?_
  rfl
set_option maxHeartbeats 2000000 in
theorem r_highest {h : am_H} {i : Nat} (hi : i < 7) : am_C 0 m_X12_highest [.int (nI i)] h (some (.int (nI (most i))), h) := by
  rcases (show i = 0 ∨ i = 1 ∨ i = 2 ∨ i = 3 ∨ i = 4 ∨ i = 5 ∨ i = 6 by omega) with rfl | rfl | rfl | rfl | rfl | rfl | rfl
  · exact r_highest_0
  · exact r_highest_1
  · exact r_highest_2
  · exact r_highest_3
  · exact r_highest_4
  · exact r_highest_5
  · exact r_highest_6
set_option maxHeartbeats 2000000 in
theorem r_usual {h : am_H} {i : Nat} (hi : i < 7) : am_C 0 m_X12_usual [.int (nI i)] h (some (.int (nI (usu i))), h) := by
  rcases (show i = 0 ∨ i = 1 ∨ i = 2 ∨ i = 3 ∨ i = 4 ∨ i = 5 ∨ i = 6 by omega) with rfl | rfl | rfl | rfl | rfl | rfl | rfl
  · exact r_usual_0
  · exact r_usual_1
  · exact r_usual_2
  · exact r_usual_3
  · exact r_usual_4
  · exact r_usual_5
  · exact r_usual_6
set_option maxHeartbeats 2000000 in
theorem r_itemOf {h : am_H} {x : Option Nat} (hx : ∀ c, x = some c → c < 256) : am_C 0 m_X12_itemOf [.int (oN x)] h (some (.int (oN (itm x))), h) := by
  cases hq : itm x with
  | some i =>
    have hi := (itm_lt hq).1
    have he : x = some (lt7 i) := by
      cases x with
      | none => cases hq
      | some c =>
        simp only [itm] at hq
        repeat' split at hq
        all_goals cases hq
        all_goals (simp_all [lt7])
    rw [he]
    show am_C 0 m_X12_itemOf [.int (nI (lt7 i))] h (some (.int (nI i)), h)
    rcases (show i = 0 ∨ i = 1 ∨ i = 2 ∨ i = 3 ∨ i = 4 ∨ i = 5 ∨ i = 6 by omega) with rfl | rfl | rfl | rfl | rfl | rfl | rfl
    · exact r_itemOf_0
    · exact r_itemOf_1
    · exact r_itemOf_2
    · exact r_itemOf_3
    · exact r_itemOf_4
    · exact r_itemOf_5
    · exact r_itemOf_6
  | none =>
    have hn : ∀ i, i < 7 → x ≠ some (lt7 i) := fun i hi z => by rw [z, itm_7 hi] at hq; cases hq
    refine q_iln dX12_itemOf_0 rfl ?_
    refine q_bp (v := nI 118) dX12_itemOf_1 rfl ?_
    refine t_ic_ne 10 dX12_itemOf_3 rfl (by exact fun z => hn 0 (by omega) ((oNlt (fun k hk => by have := hx k hk; omega) _ (by decide)).mp z)) ?_
    refine q_iln dX12_itemOf_10 rfl ?_
    refine q_bp (v := nI 100) dX12_itemOf_11 rfl ?_
    refine t_ic_ne 20 dX12_itemOf_13 rfl (by exact fun z => hn 1 (by omega) ((oNlt (fun k hk => by have := hx k hk; omega) _ (by decide)).mp z)) ?_
    refine q_iln dX12_itemOf_20 rfl ?_
    refine q_bp (v := nI 101) dX12_itemOf_21 rfl ?_
    refine t_ic_ne 30 dX12_itemOf_23 rfl (by exact fun z => hn 2 (by omega) ((oNlt (fun k hk => by have := hx k hk; omega) _ (by decide)).mp z)) ?_
    refine q_iln dX12_itemOf_30 rfl ?_
    refine q_bp (v := nI 107) dX12_itemOf_31 rfl ?_
    refine t_ic_ne 40 dX12_itemOf_33 rfl (by exact fun z => hn 3 (by omega) ((oNlt (fun k hk => by have := hx k hk; omega) _ (by decide)).mp z)) ?_
    refine q_iln dX12_itemOf_40 rfl ?_
    refine q_bp (v := nI 110) dX12_itemOf_41 rfl ?_
    refine t_ic_ne 50 dX12_itemOf_43 rfl (by exact fun z => hn 4 (by omega) ((oNlt (fun k hk => by have := hx k hk; omega) _ (by decide)).mp z)) ?_
    refine q_iln dX12_itemOf_50 rfl ?_
    refine q_bp (v := nI 121) dX12_itemOf_51 rfl ?_
    refine t_ic_ne 60 dX12_itemOf_53 rfl (by exact fun z => hn 5 (by omega) ((oNlt (fun k hk => by have := hx k hk; omega) _ (by decide)).mp z)) ?_
    refine q_iln dX12_itemOf_60 rfl ?_
    refine q_bp (v := nI 98) dX12_itemOf_61 rfl ?_
    refine t_ic_ne 71 dX12_itemOf_63 rfl (by exact fun z => hn 6 (by omega) ((oNlt (fun k hk => by have := hx k hk; omega) _ (by decide)).mp z)) ?_
    refine q_ic (v := -1) dX12_itemOf_71 rfl ?_
    refine q_ir dX12_itemOf_72 rfl ?_
    rfl
set_option maxHeartbeats 2000000 in
theorem r_in {h : am_H} {v b : Nat} (hv : v < 2 ^ 31) (hb : b < 2 ^ 31) : am_C 0 m_X12_in [.int (nI v), .int (nI 0), .int (nI b)] h (some (.int (nI (if v ≤ b then 1 else 0))), h) := by
  refine q_iln dX12_in_0 rfl ?_
  refine q_iln dX12_in_1 rfl ?_
  first | refine n_ic_lt 14 dX12_in_2 rfl (by omega) (by omega) (fun c2 => ?_) (fun c2 => ?_) | refine b_ic_lt 14 dX12_in_2 rfl (fun c2 => ?_) (fun c2 => ?_)
  · first
    | (exfalso; omega)
    | (refine q_ic (v := nI 0) dX12_in_14 rfl ?_
       first | refine q_zrn dX12_in_15 rfl (by first | omega | exact b2_le) ?_ | refine q_zr dX12_in_15 rfl (by first | exact Or.inl rfl | exact Or.inr rfl | assumption) ?_
       (apply o_nI; first | rw [if_pos (by omega)] | rw [if_neg (by omega)]))
  · first
    | (exfalso; omega)
    | (refine q_iln dX12_in_5 rfl ?_
       refine q_iln dX12_in_6 rfl ?_
       first | refine n_ic_gt 14 dX12_in_7 rfl (by omega) (by omega) (fun c7 => ?_) (fun c7 => ?_) | refine b_ic_gt 14 dX12_in_7 rfl (fun c7 => ?_) (fun c7 => ?_)
       · first
         | (exfalso; omega)
         | (refine q_ic (v := nI 0) dX12_in_14 rfl ?_
            first | refine q_zrn dX12_in_15 rfl (by first | omega | exact b2_le) ?_ | refine q_zr dX12_in_15 rfl (by first | exact Or.inl rfl | exact Or.inr rfl | assumption) ?_
            (apply o_nI; first | rw [if_pos (by omega)] | rw [if_neg (by omega)]))
       · first
         | (exfalso; omega)
         | (refine q_ic (v := nI 1) dX12_in_10 rfl ?_
            refine am_x_goto (tgt := 15) dX12_in_11 rfl ?_
            first | refine q_zrn dX12_in_15 rfl (by first | omega | exact b2_le) ?_ | refine q_zr dX12_in_15 rfl (by first | exact Or.inl rfl | exact Or.inr rfl | assumption) ?_
            (apply o_nI; first | rw [if_pos (by omega)] | rw [if_neg (by omega)])))
set_option maxHeartbeats 2000000 in
theorem r_number {h : am_H} (hW : Wd h) {tl : Nat} {tp : Nat → Nat} {a : Nat} (hA : RA h tl tp a) {i : Nat} (hi : i < 7) (hw : am_i h 50 4 = -1) : am_D 2 m_X12_number [.ref 50, .int (nI 0), .int (nI (most i))] h (fun w h2 => Fx [] [(50, 3), (50, 4)] h h2 ∧ match (vlu tl tp i a).2 with
    | none => (∃ x, w = some (.int x)) ∧ am_i h2 50 4 = nI (vlu tl tp i a).1 ∧ ∃ b, RA h2 tl tp b
    | some v => w = some (.int (nI v)) ∧ am_i h2 50 4 = -1 ∧ RA h2 tl tp (vlu tl tp i a).1) := by
  have h2 := rsgn256 hA (nx tl tp a)
  have h3 := rsgn256 hA (nx tl tp a + 1)
  have h4 := rsgn256 hA (nx tl tp a + 1 + 1)
  have hm9 := most99 i
  have hp1 := hA.1.2.1
  by_cases hd : isDg (sgn tl tp (nx tl tp a)) = true
  · have hl := isDg_at hd
    by_cases hd2 : isDg (sgn tl tp (nx tl tp a + 1)) = true
    · have hl2 := isDg_at hd2
      have hn : ndg tl tp 2 (nx tl tp a) 0 = (nx tl tp a + 1 + 1, 10 * (tp (nx tl tp a) - 48) + tp (nx tl tp a + 1) - 48) := by
        rw [ndg_y hd, ndg_y hd2]
        show (_, _) = (_, _)
        congr 1
        omega
      by_cases hd3 : isDg (sgn tl tp (nx tl tp a + 1 + 1)) = true
      · have hq : num tl tp 2 a = (nx tl tp a + 1 + 1, none) := by
          unfold num
          rw [if_pos hd, hn, if_pos hd3]
        simp only [vlu_n (i := i) (show (num tl tp 2 a).2 = none by rw [hq]), hq]
        refine Eq_aln dX12_number_0 rfl ?_
        refine Eq_W0 (N := m_X12_look) dX12_number_1 lk_X12_129 mV_X12_look (r_look hW hA) (by decide) (ws_50 hW) rfl (by decide) (Nat.le_of_ble_eq_true rfl) (Nat.le_of_ble_eq_true rfl) (fun vq hq1 hq2 => ?_)
        obtain ⟨rfl, hf1, hA1⟩ := hq2
        have hW1 := hf1.Wd hW
        have hw1 : am_i hq1 50 4 = -1 := (hf1.i (by decide) (by decide)).trans hw
        have k1 : Fx [] [(50, 3)] hq1 (am_wI hq1 50 3 (nI (nx tl tp a + 1))) := Fx.wI (Or.inr (by decide))
        have hWk := k1.Wd hW1
        have hAk := hA1.mv (b := nx tl tp a + 1) (by omega)
        have hwk : am_i (am_wI hq1 50 3 (nI (nx tl tp a + 1))) 50 4 = -1 := hw1
        have k2 : Fx [] [(50, 3)] (am_wI hq1 50 3 (nI (nx tl tp a + 1))) (am_wI (am_wI hq1 50 3 (nI (nx tl tp a + 1))) 50 3 (nI (nx tl tp a + 1 + 1))) := Fx.wI (Or.inr (by decide))
        have hWm := k2.Wd hWk
        have hAm := hAk.mv (b := nx tl tp a + 1 + 1) (by omega)
        have hwm : am_i (am_wI (am_wI hq1 50 3 (nI (nx tl tp a + 1))) 50 3 (nI (nx tl tp a + 1 + 1))) 50 4 = -1 := hw1
        refine Eq_S1 (N := m_X12_isDigit) dX12_number_4 lk_X12_132 mS_X12_isDigit (r_isDigit h2) (by decide) (Nat.le_of_ble_eq_true rfl) (Nat.le_of_ble_eq_true rfl) ?_
        refine Et_if_ne 16 dX12_number_7 rfl (by rw [if_pos hd]; exact zf1) ?_
        refine Eq_aln dX12_number_16 rfl ?_
        refine Eq_V0 (N := m_X12_here) dX12_number_17 lk_X12_113 mV_X12_here ((by have z := r_here hW1 hA1; rw [sgn_s hl.1] at z; exact z)) (by decide) (ws_50 hW1) rfl (by decide) (Nat.le_of_ble_eq_true rfl) (Nat.le_of_ble_eq_true rfl) ?_
        refine Eq_bp (v := nI 48) dX12_number_20 rfl ?_
        first | refine Eq_sub dX12_number_22 (by omega) ?_ | refine Eam_x_pu dX12_number_22 rfl ?_
        refine Eq_isn dX12_number_23 (by decide) ?_
        refine Eam_nl (pc' := 24) (l' := [_, _, _, _]) rfl rfl ?_
        refine Eq_aln dX12_number_24 rfl ?_
        refine Eam_x_pu dX12_number_25 rfl ?_
        refine Eq_getI dX12_number_26 fl_X12_110 (ws_50 hW1) rfl (by first | exact hA1.2.1 | exact hAk.2.1 | exact hAm.2.1) ?_
        refine Eq_ic (v := nI 1) dX12_number_29 rfl ?_
        first | refine Eq_add dX12_number_30 ?_ | refine Eam_x_pu dX12_number_30 rfl ?_
        refine Eam_x_putI dX12_number_31 (fw_X12_110 rfl) (ws_50 hW1) (Or.inl rfl) ?_
        refine Eq_aln dX12_number_34 rfl ?_
        refine Eq_V0 (N := m_X12_here) dX12_number_35 lk_X12_113 mV_X12_here (r_here hWk hAk) (by decide) (ws_50 hW1) rfl (by decide) (Nat.le_of_ble_eq_true rfl) (Nat.le_of_ble_eq_true rfl) ?_
        refine Eq_S1 (N := m_X12_isDigit) dX12_number_38 lk_X12_132 mS_X12_isDigit (r_isDigit h3) (by decide) (Nat.le_of_ble_eq_true rfl) (Nat.le_of_ble_eq_true rfl) ?_
        refine Ef_if_eq dX12_number_41 (tgt := 67) rfl (by rw [if_pos hd2]; exact zf1) ?_
        refine Eq_bp (v := nI 10) dX12_number_44 rfl ?_
        refine Eq_iln dX12_number_46 rfl ?_
        first | refine Eq_mul dX12_number_47 ?_ | refine Eam_x_pu dX12_number_47 rfl ?_
        refine Eq_aln dX12_number_48 rfl ?_
        refine Eq_V0 (N := m_X12_here) dX12_number_49 lk_X12_113 mV_X12_here ((by have z := r_here hWk hAk; rw [sgn_s hl2.1] at z; exact z)) (by decide) (ws_50 hW1) rfl (by decide) (Nat.le_of_ble_eq_true rfl) (Nat.le_of_ble_eq_true rfl) ?_
        first | refine Eq_add dX12_number_52 ?_ | refine Eam_x_pu dX12_number_52 rfl ?_
        refine Eq_bp (v := nI 48) dX12_number_53 rfl ?_
        first | refine Eq_sub dX12_number_55 (by omega) ?_ | refine Eam_x_pu dX12_number_55 rfl ?_
        refine Eq_isn dX12_number_56 (by decide) ?_
        refine Eam_nl (pc' := 57) (l' := [_, _, _, _]) rfl rfl ?_
        refine Eq_aln dX12_number_57 rfl ?_
        refine Eam_x_pu dX12_number_58 rfl ?_
        refine Eq_getI dX12_number_59 fl_X12_110 (ws_50 hW1) rfl (by first | exact hA1.2.1 | exact hAk.2.1 | exact hAm.2.1) ?_
        refine Eq_ic (v := nI 1) dX12_number_62 rfl ?_
        first | refine Eq_add dX12_number_63 ?_ | refine Eam_x_pu dX12_number_63 rfl ?_
        refine Eam_x_putI dX12_number_64 (fw_X12_110 rfl) (ws_50 hW1) (Or.inl rfl) ?_
        refine Eq_aln dX12_number_67 rfl ?_
        refine Eq_V0 (N := m_X12_here) dX12_number_68 lk_X12_113 mV_X12_here (r_here hWm hAm) (by decide) (ws_50 hW1) rfl (by decide) (Nat.le_of_ble_eq_true rfl) (Nat.le_of_ble_eq_true rfl) ?_
        refine Eq_S1 (N := m_X12_isDigit) dX12_number_71 lk_X12_132 mS_X12_isDigit (r_isDigit h4) (by decide) (Nat.le_of_ble_eq_true rfl) (Nat.le_of_ble_eq_true rfl) ?_
        refine Ef_if_eq dX12_number_74 (tgt := 84) rfl (by rw [if_pos hd3]; exact zf1) ?_
        refine Eq_aln dX12_number_77 rfl ?_
        refine Eq_V0 (N := m_X12_bad) dX12_number_78 lk_X12_126 mV_X12_bad (r_bad hWm hAm hwm) (by decide) (ws_50 hW1) rfl (by decide) (Nat.le_of_ble_eq_true rfl) (Nat.le_of_ble_eq_true rfl) ?_
        refine Eam_x_goto (tgt := 107) dX12_number_81 rfl ?_
        refine Eq_iln dX12_number_107 rfl ?_
        refine Eq_ir dX12_number_108 rfl ?_
        exact ⟨(hf1.mono (by decide) (by decide)).tr ((Fx.wI (Or.inr (by decide))).tr ((Fx.wI (Or.inr (by decide))).tr (Fx.wI (Or.inr (by decide))))), ⟨_, rfl⟩, wI_e0, ⟨_, hAm.fx (Fx.wI (A := []) (B := [(50, 4)]) (Or.inr (by decide))) (by decide)⟩⟩
      · have hq : num tl tp 2 a = (nx tl tp a + 1 + 1, some (10 * (tp (nx tl tp a) - 48) + tp (nx tl tp a + 1) - 48)) := by
          unfold num
          rw [if_pos hd, hn, if_neg hd3]
        have hq2 : (num tl tp 2 a).2 = some (10 * (tp (nx tl tp a) - 48) + tp (nx tl tp a + 1) - 48) := by rw [hq]
        by_cases hv : 10 * (tp (nx tl tp a) - 48) + tp (nx tl tp a + 1) - 48 ≤ most i
        · simp only [vlu_y (i := i) hq2 hv, hq]
          refine Eq_aln dX12_number_0 rfl ?_
          refine Eq_W0 (N := m_X12_look) dX12_number_1 lk_X12_129 mV_X12_look (r_look hW hA) (by decide) (ws_50 hW) rfl (by decide) (Nat.le_of_ble_eq_true rfl) (Nat.le_of_ble_eq_true rfl) (fun vq hq1 hq2 => ?_)
          obtain ⟨rfl, hf1, hA1⟩ := hq2
          have hW1 := hf1.Wd hW
          have hw1 : am_i hq1 50 4 = -1 := (hf1.i (by decide) (by decide)).trans hw
          have k1 : Fx [] [(50, 3)] hq1 (am_wI hq1 50 3 (nI (nx tl tp a + 1))) := Fx.wI (Or.inr (by decide))
          have hWk := k1.Wd hW1
          have hAk := hA1.mv (b := nx tl tp a + 1) (by omega)
          have hwk : am_i (am_wI hq1 50 3 (nI (nx tl tp a + 1))) 50 4 = -1 := hw1
          have k2 : Fx [] [(50, 3)] (am_wI hq1 50 3 (nI (nx tl tp a + 1))) (am_wI (am_wI hq1 50 3 (nI (nx tl tp a + 1))) 50 3 (nI (nx tl tp a + 1 + 1))) := Fx.wI (Or.inr (by decide))
          have hWm := k2.Wd hWk
          have hAm := hAk.mv (b := nx tl tp a + 1 + 1) (by omega)
          have hwm : am_i (am_wI (am_wI hq1 50 3 (nI (nx tl tp a + 1))) 50 3 (nI (nx tl tp a + 1 + 1))) 50 4 = -1 := hw1
          refine Eq_S1 (N := m_X12_isDigit) dX12_number_4 lk_X12_132 mS_X12_isDigit (r_isDigit h2) (by decide) (Nat.le_of_ble_eq_true rfl) (Nat.le_of_ble_eq_true rfl) ?_
          refine Et_if_ne 16 dX12_number_7 rfl (by rw [if_pos hd]; exact zf1) ?_
          refine Eq_aln dX12_number_16 rfl ?_
          refine Eq_V0 (N := m_X12_here) dX12_number_17 lk_X12_113 mV_X12_here ((by have z := r_here hW1 hA1; rw [sgn_s hl.1] at z; exact z)) (by decide) (ws_50 hW1) rfl (by decide) (Nat.le_of_ble_eq_true rfl) (Nat.le_of_ble_eq_true rfl) ?_
          refine Eq_bp (v := nI 48) dX12_number_20 rfl ?_
          first | refine Eq_sub dX12_number_22 (by omega) ?_ | refine Eam_x_pu dX12_number_22 rfl ?_
          refine Eq_isn dX12_number_23 (by decide) ?_
          refine Eam_nl (pc' := 24) (l' := [_, _, _, _]) rfl rfl ?_
          refine Eq_aln dX12_number_24 rfl ?_
          refine Eam_x_pu dX12_number_25 rfl ?_
          refine Eq_getI dX12_number_26 fl_X12_110 (ws_50 hW1) rfl (by first | exact hA1.2.1 | exact hAk.2.1 | exact hAm.2.1) ?_
          refine Eq_ic (v := nI 1) dX12_number_29 rfl ?_
          first | refine Eq_add dX12_number_30 ?_ | refine Eam_x_pu dX12_number_30 rfl ?_
          refine Eam_x_putI dX12_number_31 (fw_X12_110 rfl) (ws_50 hW1) (Or.inl rfl) ?_
          refine Eq_aln dX12_number_34 rfl ?_
          refine Eq_V0 (N := m_X12_here) dX12_number_35 lk_X12_113 mV_X12_here (r_here hWk hAk) (by decide) (ws_50 hW1) rfl (by decide) (Nat.le_of_ble_eq_true rfl) (Nat.le_of_ble_eq_true rfl) ?_
          refine Eq_S1 (N := m_X12_isDigit) dX12_number_38 lk_X12_132 mS_X12_isDigit (r_isDigit h3) (by decide) (Nat.le_of_ble_eq_true rfl) (Nat.le_of_ble_eq_true rfl) ?_
          refine Ef_if_eq dX12_number_41 (tgt := 67) rfl (by rw [if_pos hd2]; exact zf1) ?_
          refine Eq_bp (v := nI 10) dX12_number_44 rfl ?_
          refine Eq_iln dX12_number_46 rfl ?_
          first | refine Eq_mul dX12_number_47 ?_ | refine Eam_x_pu dX12_number_47 rfl ?_
          refine Eq_aln dX12_number_48 rfl ?_
          refine Eq_V0 (N := m_X12_here) dX12_number_49 lk_X12_113 mV_X12_here ((by have z := r_here hWk hAk; rw [sgn_s hl2.1] at z; exact z)) (by decide) (ws_50 hW1) rfl (by decide) (Nat.le_of_ble_eq_true rfl) (Nat.le_of_ble_eq_true rfl) ?_
          first | refine Eq_add dX12_number_52 ?_ | refine Eam_x_pu dX12_number_52 rfl ?_
          refine Eq_bp (v := nI 48) dX12_number_53 rfl ?_
          first | refine Eq_sub dX12_number_55 (by omega) ?_ | refine Eam_x_pu dX12_number_55 rfl ?_
          refine Eq_isn dX12_number_56 (by decide) ?_
          refine Eam_nl (pc' := 57) (l' := [_, _, _, _]) rfl rfl ?_
          refine Eq_aln dX12_number_57 rfl ?_
          refine Eam_x_pu dX12_number_58 rfl ?_
          refine Eq_getI dX12_number_59 fl_X12_110 (ws_50 hW1) rfl (by first | exact hA1.2.1 | exact hAk.2.1 | exact hAm.2.1) ?_
          refine Eq_ic (v := nI 1) dX12_number_62 rfl ?_
          first | refine Eq_add dX12_number_63 ?_ | refine Eam_x_pu dX12_number_63 rfl ?_
          refine Eam_x_putI dX12_number_64 (fw_X12_110 rfl) (ws_50 hW1) (Or.inl rfl) ?_
          refine Eq_aln dX12_number_67 rfl ?_
          refine Eq_V0 (N := m_X12_here) dX12_number_68 lk_X12_113 mV_X12_here (r_here hWm hAm) (by decide) (ws_50 hW1) rfl (by decide) (Nat.le_of_ble_eq_true rfl) (Nat.le_of_ble_eq_true rfl) ?_
          refine Eq_S1 (N := m_X12_isDigit) dX12_number_71 lk_X12_132 mS_X12_isDigit (r_isDigit h4) (by decide) (Nat.le_of_ble_eq_true rfl) (Nat.le_of_ble_eq_true rfl) ?_
          refine Et_if_eq 84 dX12_number_74 rfl (by rw [if_neg hd3]; rfl) ?_
          refine Eq_iln dX12_number_84 rfl ?_
          refine Eq_iln dX12_number_85 rfl ?_
          refine Eq_iln dX12_number_86 rfl ?_
          refine Eq_S3 (N := m_X12_in) dX12_number_87 lk_X12_215 mS_X12_in (r_in (by omega) (by omega)) (by decide) (Nat.le_of_ble_eq_true rfl) (Nat.le_of_ble_eq_true rfl) ?_
          refine Et_if_ne 107 dX12_number_90 rfl (by rw [if_pos hv]; exact zf1) ?_
          refine Eq_iln dX12_number_107 rfl ?_
          refine Eq_ir dX12_number_108 rfl ?_
          exact ⟨(hf1.mono (by decide) (by decide)).tr ((Fx.wI (Or.inr (by decide))).tr (Fx.wI (Or.inr (by decide)))), rfl, hwm, hAm⟩
        · simp only [vlu_o (i := i) hq2 hv, hq]
          refine Eq_aln dX12_number_0 rfl ?_
          refine Eq_W0 (N := m_X12_look) dX12_number_1 lk_X12_129 mV_X12_look (r_look hW hA) (by decide) (ws_50 hW) rfl (by decide) (Nat.le_of_ble_eq_true rfl) (Nat.le_of_ble_eq_true rfl) (fun vq hq1 hq2 => ?_)
          obtain ⟨rfl, hf1, hA1⟩ := hq2
          have hW1 := hf1.Wd hW
          have hw1 : am_i hq1 50 4 = -1 := (hf1.i (by decide) (by decide)).trans hw
          have k1 : Fx [] [(50, 3)] hq1 (am_wI hq1 50 3 (nI (nx tl tp a + 1))) := Fx.wI (Or.inr (by decide))
          have hWk := k1.Wd hW1
          have hAk := hA1.mv (b := nx tl tp a + 1) (by omega)
          have hwk : am_i (am_wI hq1 50 3 (nI (nx tl tp a + 1))) 50 4 = -1 := hw1
          have k2 : Fx [] [(50, 3)] (am_wI hq1 50 3 (nI (nx tl tp a + 1))) (am_wI (am_wI hq1 50 3 (nI (nx tl tp a + 1))) 50 3 (nI (nx tl tp a + 1 + 1))) := Fx.wI (Or.inr (by decide))
          have hWm := k2.Wd hWk
          have hAm := hAk.mv (b := nx tl tp a + 1 + 1) (by omega)
          have hwm : am_i (am_wI (am_wI hq1 50 3 (nI (nx tl tp a + 1))) 50 3 (nI (nx tl tp a + 1 + 1))) 50 4 = -1 := hw1
          refine Eq_S1 (N := m_X12_isDigit) dX12_number_4 lk_X12_132 mS_X12_isDigit (r_isDigit h2) (by decide) (Nat.le_of_ble_eq_true rfl) (Nat.le_of_ble_eq_true rfl) ?_
          refine Et_if_ne 16 dX12_number_7 rfl (by rw [if_pos hd]; exact zf1) ?_
          refine Eq_aln dX12_number_16 rfl ?_
          refine Eq_V0 (N := m_X12_here) dX12_number_17 lk_X12_113 mV_X12_here ((by have z := r_here hW1 hA1; rw [sgn_s hl.1] at z; exact z)) (by decide) (ws_50 hW1) rfl (by decide) (Nat.le_of_ble_eq_true rfl) (Nat.le_of_ble_eq_true rfl) ?_
          refine Eq_bp (v := nI 48) dX12_number_20 rfl ?_
          first | refine Eq_sub dX12_number_22 (by omega) ?_ | refine Eam_x_pu dX12_number_22 rfl ?_
          refine Eq_isn dX12_number_23 (by decide) ?_
          refine Eam_nl (pc' := 24) (l' := [_, _, _, _]) rfl rfl ?_
          refine Eq_aln dX12_number_24 rfl ?_
          refine Eam_x_pu dX12_number_25 rfl ?_
          refine Eq_getI dX12_number_26 fl_X12_110 (ws_50 hW1) rfl (by first | exact hA1.2.1 | exact hAk.2.1 | exact hAm.2.1) ?_
          refine Eq_ic (v := nI 1) dX12_number_29 rfl ?_
          first | refine Eq_add dX12_number_30 ?_ | refine Eam_x_pu dX12_number_30 rfl ?_
          refine Eam_x_putI dX12_number_31 (fw_X12_110 rfl) (ws_50 hW1) (Or.inl rfl) ?_
          refine Eq_aln dX12_number_34 rfl ?_
          refine Eq_V0 (N := m_X12_here) dX12_number_35 lk_X12_113 mV_X12_here (r_here hWk hAk) (by decide) (ws_50 hW1) rfl (by decide) (Nat.le_of_ble_eq_true rfl) (Nat.le_of_ble_eq_true rfl) ?_
          refine Eq_S1 (N := m_X12_isDigit) dX12_number_38 lk_X12_132 mS_X12_isDigit (r_isDigit h3) (by decide) (Nat.le_of_ble_eq_true rfl) (Nat.le_of_ble_eq_true rfl) ?_
          refine Ef_if_eq dX12_number_41 (tgt := 67) rfl (by rw [if_pos hd2]; exact zf1) ?_
          refine Eq_bp (v := nI 10) dX12_number_44 rfl ?_
          refine Eq_iln dX12_number_46 rfl ?_
          first | refine Eq_mul dX12_number_47 ?_ | refine Eam_x_pu dX12_number_47 rfl ?_
          refine Eq_aln dX12_number_48 rfl ?_
          refine Eq_V0 (N := m_X12_here) dX12_number_49 lk_X12_113 mV_X12_here ((by have z := r_here hWk hAk; rw [sgn_s hl2.1] at z; exact z)) (by decide) (ws_50 hW1) rfl (by decide) (Nat.le_of_ble_eq_true rfl) (Nat.le_of_ble_eq_true rfl) ?_
          first | refine Eq_add dX12_number_52 ?_ | refine Eam_x_pu dX12_number_52 rfl ?_
          refine Eq_bp (v := nI 48) dX12_number_53 rfl ?_
          first | refine Eq_sub dX12_number_55 (by omega) ?_ | refine Eam_x_pu dX12_number_55 rfl ?_
          refine Eq_isn dX12_number_56 (by decide) ?_
          refine Eam_nl (pc' := 57) (l' := [_, _, _, _]) rfl rfl ?_
          refine Eq_aln dX12_number_57 rfl ?_
          refine Eam_x_pu dX12_number_58 rfl ?_
          refine Eq_getI dX12_number_59 fl_X12_110 (ws_50 hW1) rfl (by first | exact hA1.2.1 | exact hAk.2.1 | exact hAm.2.1) ?_
          refine Eq_ic (v := nI 1) dX12_number_62 rfl ?_
          first | refine Eq_add dX12_number_63 ?_ | refine Eam_x_pu dX12_number_63 rfl ?_
          refine Eam_x_putI dX12_number_64 (fw_X12_110 rfl) (ws_50 hW1) (Or.inl rfl) ?_
          refine Eq_aln dX12_number_67 rfl ?_
          refine Eq_V0 (N := m_X12_here) dX12_number_68 lk_X12_113 mV_X12_here (r_here hWm hAm) (by decide) (ws_50 hW1) rfl (by decide) (Nat.le_of_ble_eq_true rfl) (Nat.le_of_ble_eq_true rfl) ?_
          refine Eq_S1 (N := m_X12_isDigit) dX12_number_71 lk_X12_132 mS_X12_isDigit (r_isDigit h4) (by decide) (Nat.le_of_ble_eq_true rfl) (Nat.le_of_ble_eq_true rfl) ?_
          refine Et_if_eq 84 dX12_number_74 rfl (by rw [if_neg hd3]; rfl) ?_
          refine Eq_iln dX12_number_84 rfl ?_
          refine Eq_iln dX12_number_85 rfl ?_
          refine Eq_iln dX12_number_86 rfl ?_
          refine Eq_S3 (N := m_X12_in) dX12_number_87 lk_X12_215 mS_X12_in (r_in (by omega) (by omega)) (by decide) (Nat.le_of_ble_eq_true rfl) (Nat.le_of_ble_eq_true rfl) ?_
          refine Ef_if_ne dX12_number_90 (tgt := 107) rfl (by rw [if_neg hv]; rfl) ?_
          refine Eq_aln dX12_number_93 rfl ?_
          refine Eam_x_pu dX12_number_94 rfl ?_
          refine Eq_getI dX12_number_95 fl_X12_110 (ws_50 hW1) rfl (by first | exact hA1.2.1 | exact hAk.2.1 | exact hAm.2.1) ?_
          refine Eq_ic (v := nI 1) dX12_number_98 rfl ?_
          first | refine Eq_sub dX12_number_99 (by omega) ?_ | refine Eam_x_pu dX12_number_99 rfl ?_
          refine Eam_x_putI dX12_number_100 (fw_X12_110 rfl) (ws_50 hW1) (Or.inl rfl) ?_
          refine Eq_aln dX12_number_103 rfl ?_
          refine Eq_V0 (N := m_X12_bad) dX12_number_104 lk_X12_126 mV_X12_bad (r_bad (Fx.Wd (Fx.wI (A := []) (B := [(50, 3)]) (Or.inr (by decide))) hWm) (hAm.mv (b := nx tl tp a + 1 + 1 - 1) (by omega)) hwm) (by decide) (ws_50 hW1) rfl (by decide) (Nat.le_of_ble_eq_true rfl) (Nat.le_of_ble_eq_true rfl) ?_
          refine Eq_iln dX12_number_107 rfl ?_
          refine Eq_ir dX12_number_108 rfl ?_
          exact ⟨(hf1.mono (by decide) (by decide)).tr ((Fx.wI (Or.inr (by decide))).tr ((Fx.wI (Or.inr (by decide))).tr ((Fx.wI (Or.inr (by decide))).tr (Fx.wI (Or.inr (by decide)))))), ⟨_, rfl⟩, wI_e0, ⟨_, (hAm.mv (b := nx tl tp a + 1 + 1 - 1) (by omega)).fx (Fx.wI (A := []) (B := [(50, 4)]) (Or.inr (by decide))) (by decide)⟩⟩
    · have hn : ndg tl tp 2 (nx tl tp a) 0 = (nx tl tp a + 1, tp (nx tl tp a) - 48) := by
        rw [ndg_y hd, ndg_n hd2]
        show (_, _) = (_, _)
        congr 1
        omega
      have hq : num tl tp 2 a = (nx tl tp a + 1, some (tp (nx tl tp a) - 48)) := by
        unfold num
        rw [if_pos hd, hn, if_neg hd2]
      have hq2 : (num tl tp 2 a).2 = some (tp (nx tl tp a) - 48) := by rw [hq]
      by_cases hv : tp (nx tl tp a) - 48 ≤ most i
      · simp only [vlu_y (i := i) hq2 hv, hq]
        refine Eq_aln dX12_number_0 rfl ?_
        refine Eq_W0 (N := m_X12_look) dX12_number_1 lk_X12_129 mV_X12_look (r_look hW hA) (by decide) (ws_50 hW) rfl (by decide) (Nat.le_of_ble_eq_true rfl) (Nat.le_of_ble_eq_true rfl) (fun vq hq1 hq2 => ?_)
        obtain ⟨rfl, hf1, hA1⟩ := hq2
        have hW1 := hf1.Wd hW
        have hw1 : am_i hq1 50 4 = -1 := (hf1.i (by decide) (by decide)).trans hw
        have k1 : Fx [] [(50, 3)] hq1 (am_wI hq1 50 3 (nI (nx tl tp a + 1))) := Fx.wI (Or.inr (by decide))
        have hWk := k1.Wd hW1
        have hAk := hA1.mv (b := nx tl tp a + 1) (by omega)
        have hwk : am_i (am_wI hq1 50 3 (nI (nx tl tp a + 1))) 50 4 = -1 := hw1
        refine Eq_S1 (N := m_X12_isDigit) dX12_number_4 lk_X12_132 mS_X12_isDigit (r_isDigit h2) (by decide) (Nat.le_of_ble_eq_true rfl) (Nat.le_of_ble_eq_true rfl) ?_
        refine Et_if_ne 16 dX12_number_7 rfl (by rw [if_pos hd]; exact zf1) ?_
        refine Eq_aln dX12_number_16 rfl ?_
        refine Eq_V0 (N := m_X12_here) dX12_number_17 lk_X12_113 mV_X12_here ((by have z := r_here hW1 hA1; rw [sgn_s hl.1] at z; exact z)) (by decide) (ws_50 hW1) rfl (by decide) (Nat.le_of_ble_eq_true rfl) (Nat.le_of_ble_eq_true rfl) ?_
        refine Eq_bp (v := nI 48) dX12_number_20 rfl ?_
        first | refine Eq_sub dX12_number_22 (by omega) ?_ | refine Eam_x_pu dX12_number_22 rfl ?_
        refine Eq_isn dX12_number_23 (by decide) ?_
        refine Eam_nl (pc' := 24) (l' := [_, _, _, _]) rfl rfl ?_
        refine Eq_aln dX12_number_24 rfl ?_
        refine Eam_x_pu dX12_number_25 rfl ?_
        refine Eq_getI dX12_number_26 fl_X12_110 (ws_50 hW1) rfl (by first | exact hA1.2.1 | exact hAk.2.1 | exact hAm.2.1) ?_
        refine Eq_ic (v := nI 1) dX12_number_29 rfl ?_
        first | refine Eq_add dX12_number_30 ?_ | refine Eam_x_pu dX12_number_30 rfl ?_
        refine Eam_x_putI dX12_number_31 (fw_X12_110 rfl) (ws_50 hW1) (Or.inl rfl) ?_
        refine Eq_aln dX12_number_34 rfl ?_
        refine Eq_V0 (N := m_X12_here) dX12_number_35 lk_X12_113 mV_X12_here (r_here hWk hAk) (by decide) (ws_50 hW1) rfl (by decide) (Nat.le_of_ble_eq_true rfl) (Nat.le_of_ble_eq_true rfl) ?_
        refine Eq_S1 (N := m_X12_isDigit) dX12_number_38 lk_X12_132 mS_X12_isDigit (r_isDigit h3) (by decide) (Nat.le_of_ble_eq_true rfl) (Nat.le_of_ble_eq_true rfl) ?_
        refine Et_if_eq 67 dX12_number_41 rfl (by rw [if_neg hd2]; rfl) ?_
        refine Eq_aln dX12_number_67 rfl ?_
        refine Eq_V0 (N := m_X12_here) dX12_number_68 lk_X12_113 mV_X12_here (r_here hWk hAk) (by decide) (ws_50 hW1) rfl (by decide) (Nat.le_of_ble_eq_true rfl) (Nat.le_of_ble_eq_true rfl) ?_
        refine Eq_S1 (N := m_X12_isDigit) dX12_number_71 lk_X12_132 mS_X12_isDigit (r_isDigit h3) (by decide) (Nat.le_of_ble_eq_true rfl) (Nat.le_of_ble_eq_true rfl) ?_
        refine Et_if_eq 84 dX12_number_74 rfl (by rw [if_neg hd2]; rfl) ?_
        refine Eq_iln dX12_number_84 rfl ?_
        refine Eq_iln dX12_number_85 rfl ?_
        refine Eq_iln dX12_number_86 rfl ?_
        refine Eq_S3 (N := m_X12_in) dX12_number_87 lk_X12_215 mS_X12_in (r_in (by omega) (by omega)) (by decide) (Nat.le_of_ble_eq_true rfl) (Nat.le_of_ble_eq_true rfl) ?_
        refine Et_if_ne 107 dX12_number_90 rfl (by rw [if_pos hv]; exact zf1) ?_
        refine Eq_iln dX12_number_107 rfl ?_
        refine Eq_ir dX12_number_108 rfl ?_
        exact ⟨(hf1.mono (by decide) (by decide)).tr (Fx.wI (Or.inr (by decide))), rfl, hwk, hAk⟩
      · simp only [vlu_o (i := i) hq2 hv, hq]
        refine Eq_aln dX12_number_0 rfl ?_
        refine Eq_W0 (N := m_X12_look) dX12_number_1 lk_X12_129 mV_X12_look (r_look hW hA) (by decide) (ws_50 hW) rfl (by decide) (Nat.le_of_ble_eq_true rfl) (Nat.le_of_ble_eq_true rfl) (fun vq hq1 hq2 => ?_)
        obtain ⟨rfl, hf1, hA1⟩ := hq2
        have hW1 := hf1.Wd hW
        have hw1 : am_i hq1 50 4 = -1 := (hf1.i (by decide) (by decide)).trans hw
        have k1 : Fx [] [(50, 3)] hq1 (am_wI hq1 50 3 (nI (nx tl tp a + 1))) := Fx.wI (Or.inr (by decide))
        have hWk := k1.Wd hW1
        have hAk := hA1.mv (b := nx tl tp a + 1) (by omega)
        have hwk : am_i (am_wI hq1 50 3 (nI (nx tl tp a + 1))) 50 4 = -1 := hw1
        refine Eq_S1 (N := m_X12_isDigit) dX12_number_4 lk_X12_132 mS_X12_isDigit (r_isDigit h2) (by decide) (Nat.le_of_ble_eq_true rfl) (Nat.le_of_ble_eq_true rfl) ?_
        refine Et_if_ne 16 dX12_number_7 rfl (by rw [if_pos hd]; exact zf1) ?_
        refine Eq_aln dX12_number_16 rfl ?_
        refine Eq_V0 (N := m_X12_here) dX12_number_17 lk_X12_113 mV_X12_here ((by have z := r_here hW1 hA1; rw [sgn_s hl.1] at z; exact z)) (by decide) (ws_50 hW1) rfl (by decide) (Nat.le_of_ble_eq_true rfl) (Nat.le_of_ble_eq_true rfl) ?_
        refine Eq_bp (v := nI 48) dX12_number_20 rfl ?_
        first | refine Eq_sub dX12_number_22 (by omega) ?_ | refine Eam_x_pu dX12_number_22 rfl ?_
        refine Eq_isn dX12_number_23 (by decide) ?_
        refine Eam_nl (pc' := 24) (l' := [_, _, _, _]) rfl rfl ?_
        refine Eq_aln dX12_number_24 rfl ?_
        refine Eam_x_pu dX12_number_25 rfl ?_
        refine Eq_getI dX12_number_26 fl_X12_110 (ws_50 hW1) rfl (by first | exact hA1.2.1 | exact hAk.2.1 | exact hAm.2.1) ?_
        refine Eq_ic (v := nI 1) dX12_number_29 rfl ?_
        first | refine Eq_add dX12_number_30 ?_ | refine Eam_x_pu dX12_number_30 rfl ?_
        refine Eam_x_putI dX12_number_31 (fw_X12_110 rfl) (ws_50 hW1) (Or.inl rfl) ?_
        refine Eq_aln dX12_number_34 rfl ?_
        refine Eq_V0 (N := m_X12_here) dX12_number_35 lk_X12_113 mV_X12_here (r_here hWk hAk) (by decide) (ws_50 hW1) rfl (by decide) (Nat.le_of_ble_eq_true rfl) (Nat.le_of_ble_eq_true rfl) ?_
        refine Eq_S1 (N := m_X12_isDigit) dX12_number_38 lk_X12_132 mS_X12_isDigit (r_isDigit h3) (by decide) (Nat.le_of_ble_eq_true rfl) (Nat.le_of_ble_eq_true rfl) ?_
        refine Et_if_eq 67 dX12_number_41 rfl (by rw [if_neg hd2]; rfl) ?_
        refine Eq_aln dX12_number_67 rfl ?_
        refine Eq_V0 (N := m_X12_here) dX12_number_68 lk_X12_113 mV_X12_here (r_here hWk hAk) (by decide) (ws_50 hW1) rfl (by decide) (Nat.le_of_ble_eq_true rfl) (Nat.le_of_ble_eq_true rfl) ?_
        refine Eq_S1 (N := m_X12_isDigit) dX12_number_71 lk_X12_132 mS_X12_isDigit (r_isDigit h3) (by decide) (Nat.le_of_ble_eq_true rfl) (Nat.le_of_ble_eq_true rfl) ?_
        refine Et_if_eq 84 dX12_number_74 rfl (by rw [if_neg hd2]; rfl) ?_
        refine Eq_iln dX12_number_84 rfl ?_
        refine Eq_iln dX12_number_85 rfl ?_
        refine Eq_iln dX12_number_86 rfl ?_
        refine Eq_S3 (N := m_X12_in) dX12_number_87 lk_X12_215 mS_X12_in (r_in (by omega) (by omega)) (by decide) (Nat.le_of_ble_eq_true rfl) (Nat.le_of_ble_eq_true rfl) ?_
        refine Ef_if_ne dX12_number_90 (tgt := 107) rfl (by rw [if_neg hv]; rfl) ?_
        refine Eq_aln dX12_number_93 rfl ?_
        refine Eam_x_pu dX12_number_94 rfl ?_
        refine Eq_getI dX12_number_95 fl_X12_110 (ws_50 hW1) rfl (by first | exact hA1.2.1 | exact hAk.2.1 | exact hAm.2.1) ?_
        refine Eq_ic (v := nI 1) dX12_number_98 rfl ?_
        first | refine Eq_sub dX12_number_99 (by omega) ?_ | refine Eam_x_pu dX12_number_99 rfl ?_
        refine Eam_x_putI dX12_number_100 (fw_X12_110 rfl) (ws_50 hW1) (Or.inl rfl) ?_
        refine Eq_aln dX12_number_103 rfl ?_
        refine Eq_V0 (N := m_X12_bad) dX12_number_104 lk_X12_126 mV_X12_bad (r_bad (Fx.Wd (Fx.wI (A := []) (B := [(50, 3)]) (Or.inr (by decide))) hWk) (hAk.mv (b := nx tl tp a + 1 - 1) (by omega)) hwk) (by decide) (ws_50 hW1) rfl (by decide) (Nat.le_of_ble_eq_true rfl) (Nat.le_of_ble_eq_true rfl) ?_
        refine Eq_iln dX12_number_107 rfl ?_
        refine Eq_ir dX12_number_108 rfl ?_
        exact ⟨(hf1.mono (by decide) (by decide)).tr ((Fx.wI (Or.inr (by decide))).tr ((Fx.wI (Or.inr (by decide))).tr (Fx.wI (Or.inr (by decide))))), ⟨_, rfl⟩, wI_e0, ⟨_, (hAk.mv (b := nx tl tp a + 1 - 1) (by omega)).fx (Fx.wI (A := []) (B := [(50, 4)]) (Or.inr (by decide))) (by decide)⟩⟩
  · have hq : num tl tp 2 a = (nx tl tp a, none) := by
      unfold num
      rw [if_neg hd]
    simp only [vlu_n (i := i) (show (num tl tp 2 a).2 = none by rw [hq]), hq]
    refine Eq_aln dX12_number_0 rfl ?_
    refine Eq_W0 (N := m_X12_look) dX12_number_1 lk_X12_129 mV_X12_look (r_look hW hA) (by decide) (ws_50 hW) rfl (by decide) (Nat.le_of_ble_eq_true rfl) (Nat.le_of_ble_eq_true rfl) (fun vq hq1 hq2 => ?_)
    obtain ⟨rfl, hf1, hA1⟩ := hq2
    have hW1 := hf1.Wd hW
    have hw1 : am_i hq1 50 4 = -1 := (hf1.i (by decide) (by decide)).trans hw
    refine Eq_S1 (N := m_X12_isDigit) dX12_number_4 lk_X12_132 mS_X12_isDigit (r_isDigit h2) (by decide) (Nat.le_of_ble_eq_true rfl) (Nat.le_of_ble_eq_true rfl) ?_
    refine Ef_if_ne dX12_number_7 (tgt := 16) rfl (by rw [if_neg hd]; rfl) ?_
    refine Eq_aln dX12_number_10 rfl ?_
    refine Eq_V0 (N := m_X12_bad) dX12_number_11 lk_X12_126 mV_X12_bad (r_bad hW1 hA1 hw1) (by decide) (ws_50 hW1) rfl (by decide) (Nat.le_of_ble_eq_true rfl) (Nat.le_of_ble_eq_true rfl) ?_
    refine Eq_iln dX12_number_14 rfl ?_
    refine Eq_ir dX12_number_15 rfl ?_
    exact ⟨(hf1.mono (by decide) (by decide)).tr (Fx.wI (Or.inr (by decide))), ⟨_, rfl⟩, wI_e0, ⟨_, hA1.fx (Fx.wI (A := []) (B := [(50, 4)]) (Or.inr (by decide))) (by decide)⟩⟩
/-- a member begun -/
def RC (h : am_H) (N : Nat) (g : Bool) (F : Nat → Nat → Nat) (G : Nat → Nat) : Prop := RD h N g F ∧ N < 7 ∧ ∀ i, i < 7 → am_i h 61 (7 * N + i) = nI (G i)
theorem RC.fx {A : List Nat} {B : List (Nat × Nat)} {h h' : am_H} {n : Nat} {g : Bool} {F : Nat → Nat → Nat} {G : Nat → Nat} (m : RC h n g F G) (a : Fx A B h h') (ok : 50 ∉ A ∧ 61 ∉ A ∧ (50, 18) ∉ B ∧ (50, 19) ∉ B ∧ 61 ∉ B.map Prod.fst) : RC h' n g F G := ⟨m.1.fx a ok, m.2.1, by rw [a.ia ok.2.1 ok.2.2.2.2]; exact m.2.2⟩
theorem RC.put {h : am_H} {N i : Nat} {g : Bool} {F : Nat → Nat → Nat} {G : Nat → Nat} (m : RC h N g F G) (v : Nat) (hi : i < 7) : RC (am_wI h 61 (7 * N + i) (nI v)) N g F (up1 G i v) := by
  have hN := m.2.1
  refine ⟨⟨m.1.1, m.1.2.1, m.1.2.2.1, fun q k hq hk => ?_⟩, m.2.1, fun q hq => ?_⟩
  · rw [wI_eq, if_neg (by omega)]; exact m.1.2.2.2 q k hq hk
  · rw [wI_eq]
    by_cases e : q = i
    · rw [if_pos (by omega), e, up1_eq]
    · rw [if_neg (by omega), up1_ne e]; exact m.2.2 q hq
theorem RC.done {h : am_H} {N : Nat} {g : Bool} {F : Nat → Nat → Nat} {G : Nat → Nat} (m : RC h N g F G) : RD (am_wI h 50 18 (nI (N + 1))) (N + 1) g (col F N G) := by
  have hN := m.2.1
  refine ⟨wI_e0, m.1.2.1, by omega, fun q k hq hk => ?_⟩
  show am_i h 61 (7 * k + q) = nI (if k = N then G q else F q k)
  by_cases e : k = N
  · rw [if_pos e, e]; exact m.2.2 q hq
  · rw [if_neg e]; exact m.1.2.2.2 q k hq (by omega)
/-- how a member's text ends -/
def MTQ (tl : Nat) (tp : Nat → Nat) (r : Nat × Option (Nat → Nat)) (N : Nat) (g : Bool) (F : Nat → Nat → Nat) (h2 : am_H) : Prop := match r.2 with
  | none => (am_i h2 50 4 = nI r.1 ∧ ∃ b, RA h2 tl tp b) ∨ (am_i h2 50 4 = -1 ∧ RA h2 tl tp r.1 ∧ nx tl tp r.1 = r.1 ∧ ∃ c, sgn tl tp r.1 = some c ∧ c ≠ 59)
  | some G => am_i h2 50 4 = -1 ∧ RA h2 tl tp r.1 ∧ RD h2 (N + 1) g (col F N G)
set_option maxHeartbeats 2000000 in
theorem r_usual_lp {N : Nat} {g : Bool} {F : Nat → Nat → Nat} {P : Option Value → am_H → Prop} {h0 : am_H} {l3 : Option Value} (kk : ∀ h, Fx [61] [] h0 h → RC h N g F usu → am_E 3 m_X12_memberText 44 [some (.ref 50), some (.int (nI (7 * N))), some (.int (nI 7)), l3] [] h P) : ∀ k j, j + k = 7 → ∀ h, Wd h → Fx [61] [] h0 h → RD h N g F → N < 7 → (∀ i, i < j → am_i h 61 (7 * N + i) = nI (usu i)) → am_E 3 m_X12_memberText 20 [some (.ref 50), some (.int (nI (7 * N))), some (.int (nI j)), l3] [] h P := by
  intro k
  induction k with
  | zero =>
    intro j hj h hW hf hD hN hc
    have hj7 : j = 7 := by omega
    subst hj7
    refine Eq_iln dX12_memberText_20 rfl ?_
    refine Eq_bp (v := nI 7) dX12_memberText_21 rfl ?_
    refine Et_ic_ge 44 dX12_memberText_23 rfl (by exact nI_le (by omega) (by omega)) ?_
    exact kk h hf ⟨hD, hN, hc⟩
  | succ k ih =>
    intro j hj h hW hf hD hN hc
    have k1 : Fx [61] [] h (am_wI h 61 (7 * N + j) (nI (usu j))) := Fx.wI (Or.inl (by decide))
    have k2 := ih (j + 1) (by omega) _ (k1.Wd hW) (hf.tr k1) ⟨hD.1, hD.2.1, hD.2.2.1, fun q m hq hm => by rw [wI_eq, if_neg (by omega)]; exact hD.2.2.2 q m hq hm⟩ hN (fun i hi => by
      rw [wI_eq]
      by_cases e : i = j
      · rw [if_pos (by omega), e]
      · rw [if_neg (by omega)]; exact hc i (by omega))
    refine Eq_iln dX12_memberText_20 rfl ?_
    refine Eq_bp (v := nI 7) dX12_memberText_21 rfl ?_
    refine Ef_ic_ge dX12_memberText_23 (tgt := 44) rfl (by exact nI_ge (by omega) (by omega)) ?_
    refine Eq_aln dX12_memberText_26 rfl ?_
    refine Eq_getR dX12_memberText_27 fl_X12_40 (ws_50 hW) rfl (wp_50_17 hW) ?_
    refine Eq_iln dX12_memberText_30 rfl ?_
    refine Eq_iln dX12_memberText_31 rfl ?_
    first | refine Eq_add dX12_memberText_32 ?_ | refine Eam_x_pu dX12_memberText_32 rfl ?_
    refine Eq_iln dX12_memberText_33 rfl ?_
    refine Eq_S1 (N := m_X12_usual) dX12_memberText_34 lk_X12_222 mS_X12_usual (r_usual (by omega)) (by decide) (Nat.le_of_ble_eq_true rfl) (Nat.le_of_ble_eq_true rfl) ?_
    refine Eq_ast dX12_memberText_37 (ws_61 hW) (by omega) (by omega) ?_
    refine Eq_inc dX12_memberText_38 rfl (by decide) ?_
    refine Eam_nl (pc' := 41) (l' := [_, _, _, _]) rfl rfl ?_
    refine Eam_x_goto (tgt := 20) dX12_memberText_41 rfl ?_
    exact k2
set_option maxHeartbeats 2000000 in
theorem r_items_bad {h : am_H} {P : Option Value → am_H → Prop} {l1 l2 l3 : Option Value} {p N tl : Nat} (hW : Wd h) (hw : am_i h 50 4 = nI p) (hN : am_i h 50 18 = nI N) (hl : p ≤ tl) (ht : tl ≤ 160) (hP : P none (am_wI h 50 18 (nI (N + 1)))) : am_E 3 m_X12_memberText 54 [some (.ref 50), l1, l2, l3] [] h P := by
  refine Eq_aln dX12_memberText_54 rfl ?_
  refine Eq_getI dX12_memberText_55 fl_X12_117 (ws_50 hW) rfl (by first | exact hw | exact hN) ?_
  refine Eq_ic (v := -1) dX12_memberText_58 rfl ?_
  refine Et_ic_ne 131 dX12_memberText_59 rfl (by exact nI_m1 (by omega)) ?_
  refine Eq_aln dX12_memberText_131 rfl ?_
  refine Eam_x_pu dX12_memberText_132 rfl ?_
  refine Eq_getI dX12_memberText_133 fl_X12_219 (ws_50 hW) rfl (by first | exact hw | exact hN) ?_
  refine Eq_ic (v := nI 1) dX12_memberText_136 rfl ?_
  first | refine Eq_add dX12_memberText_137 ?_ | refine Eam_x_pu dX12_memberText_137 rfl ?_
  refine Eam_x_putI dX12_memberText_138 (fw_X12_219 rfl) (ws_50 hW) (Or.inl rfl) ?_
  refine Eq_vr dX12_memberText_141 rfl ?_
  exact hP
set_option maxHeartbeats 2000000 in
theorem r_items_lp {tl : Nat} {tp : Nat → Nat} {N : Nat} {g : Bool} {F : Nat → Nat → Nat} : ∀ k seen a G, k + popc seen = 8 → seen < 128 → ∀ h, Wd h → RA h tl tp (nx tl tp a) → RC h N g F G → am_i h 50 4 = -1 → am_E 3 m_X12_memberText 54 [some (.ref 50), some (.int (nI (7 * N))), some (.int (nI seen)), some (.int (oN (itm (sgn tl tp (nx tl tp a)))))] [] h (fun v h2 => v = none ∧ Fx [61] [(50, 3), (50, 4), (50, 18), (50, 19)] h h2 ∧ MTQ tl tp (its tl tp k seen a G) N g F h2) := by
  intro k
  induction k with
  | zero => intro seen a G hk; have := popc_le seen; omega
  | succ k ih =>
    intro seen a G hk hs h hW hA hC hw
    have h2 := rsgn256 hA (nx tl tp a)
    have hN := hC.2.1
    have hp1 := hA.1.2.1
    cases hi : itm (sgn tl tp (nx tl tp a)) with
    | none =>
      simp only [its_n hi, MTQ]
      refine Eq_aln dX12_memberText_54 rfl ?_
      refine Eq_getI dX12_memberText_55 fl_X12_117 (ws_50 hW) rfl (by first | exact hw | exact hA.2.1 | exact hC.1.1) ?_
      refine Eq_ic (v := -1) dX12_memberText_58 rfl ?_
      refine Ef_ic_ne dX12_memberText_59 (tgt := 131) rfl (by rfl) ?_
      refine Eq_iln dX12_memberText_62 rfl ?_
      refine Eq_ic (v := -1) dX12_memberText_63 rfl ?_
      refine Et_ic_eq 131 dX12_memberText_64 rfl (by rfl) ?_
      refine Eq_aln dX12_memberText_131 rfl ?_
      refine Eam_x_pu dX12_memberText_132 rfl ?_
      refine Eq_getI dX12_memberText_133 fl_X12_219 (ws_50 hW) rfl (by first | exact hw | exact hA.2.1 | exact hC.1.1) ?_
      refine Eq_ic (v := nI 1) dX12_memberText_136 rfl ?_
      first | refine Eq_add dX12_memberText_137 ?_ | refine Eam_x_pu dX12_memberText_137 rfl ?_
      refine Eam_x_putI dX12_memberText_138 (fw_X12_219 rfl) (ws_50 hW) (Or.inl rfl) ?_
      refine Eq_vr dX12_memberText_141 rfl ?_
      exact ⟨rfl, Fx.wI (Or.inr (by decide)), hw, hA.fx (Fx.wI (A := []) (B := [(50, 18)]) (Or.inr (by decide))) (by decide), hC.done⟩
    | some i =>
      have hi7 := (itm_lt hi).1
      obtain ⟨c, hc⟩ : ∃ c, sgn tl tp (nx tl tp a) = some c := by
        cases hq : sgn tl tp (nx tl tp a) with
        | none => exact absurd hq (itm_lt hi).2
        | some c => exact ⟨c, rfl⟩
      have hxl := (sgn_lt hc).1
      by_cases hb : seen.testBit i = true
      · simp only [its_r hi hb, MTQ]
        refine Eq_aln dX12_memberText_54 rfl ?_
        refine Eq_getI dX12_memberText_55 fl_X12_117 (ws_50 hW) rfl (by first | exact hw | exact hA.2.1 | exact hC.1.1) ?_
        refine Eq_ic (v := -1) dX12_memberText_58 rfl ?_
        refine Ef_ic_ne dX12_memberText_59 (tgt := 131) rfl (by rfl) ?_
        refine Eq_iln dX12_memberText_62 rfl ?_
        refine Eq_ic (v := -1) dX12_memberText_63 rfl ?_
        refine Ef_ic_eq dX12_memberText_64 (tgt := 131) rfl (by exact nI_m1 (by omega)) ?_
        refine Eq_iln dX12_memberText_67 rfl ?_
        refine Eq_iln dX12_memberText_68 rfl ?_
        refine Eq_S2 (N := m_X12_has) dX12_memberText_69 lk_X12_228 mS_X12_has (r_has (by omega) (by omega)) (by decide) (Nat.le_of_ble_eq_true rfl) (Nat.le_of_ble_eq_true rfl) ?_
        refine Et_if_ne 131 dX12_memberText_72 rfl (by rw [if_pos hb]; exact zf1) ?_
        refine Eq_aln dX12_memberText_131 rfl ?_
        refine Eam_x_pu dX12_memberText_132 rfl ?_
        refine Eq_getI dX12_memberText_133 fl_X12_219 (ws_50 hW) rfl (by first | exact hw | exact hA.2.1 | exact hC.1.1) ?_
        refine Eq_ic (v := nI 1) dX12_memberText_136 rfl ?_
        first | refine Eq_add dX12_memberText_137 ?_ | refine Eam_x_pu dX12_memberText_137 rfl ?_
        refine Eam_x_putI dX12_memberText_138 (fw_X12_219 rfl) (ws_50 hW) (Or.inl rfl) ?_
        refine Eq_vr dX12_memberText_141 rfl ?_
        exact ⟨rfl, Fx.wI (Or.inr (by decide)), Or.inr ⟨hw, hA.fx (Fx.wI (A := []) (B := [(50, 18)]) (Or.inr (by decide))) (by decide), nx_nx, c, hc, fun z => itm_59 hi (by rw [hc, z])⟩⟩
      · have hs2 : seen ||| 2 ^ i < 128 := Nat.or_lt_two_pow (n := 7) hs (Nat.pow_lt_pow_right (by omega) hi7)
        have k1 : Fx [] [(50, 3)] h (am_wI h 50 3 (nI (nx tl tp a + 1))) := Fx.wI (Or.inr (by decide))
        have hWk := k1.Wd hW
        have hAk := hA.mv (b := nx tl tp a + 1) (by omega)
        have hCk := hC.fx k1 (by decide)
        have hwk : am_i (am_wI h 50 3 (nI (nx tl tp a + 1))) 50 4 = -1 := hw
        cases hv : (vlu tl tp i (nx tl tp a + 1)).2 with
        | none =>
          simp only [its_f hi hb hv, MTQ]
          have hvl := (vlu_le (tp := tp) (i := i) (a := nx tl tp a + 1) (tl := tl) (by omega)).1
          refine Eq_aln dX12_memberText_54 rfl ?_
          refine Eq_getI dX12_memberText_55 fl_X12_117 (ws_50 hW) rfl (by first | exact hw2 | exact hw | exact hA.2.1 | exact hC2.1.1) ?_
          refine Eq_ic (v := -1) dX12_memberText_58 rfl ?_
          refine Ef_ic_ne dX12_memberText_59 (tgt := 131) rfl (by rfl) ?_
          refine Eq_iln dX12_memberText_62 rfl ?_
          refine Eq_ic (v := -1) dX12_memberText_63 rfl ?_
          refine Ef_ic_eq dX12_memberText_64 (tgt := 131) rfl (by exact nI_m1 (by omega)) ?_
          refine Eq_iln dX12_memberText_67 rfl ?_
          refine Eq_iln dX12_memberText_68 rfl ?_
          refine Eq_S2 (N := m_X12_has) dX12_memberText_69 lk_X12_228 mS_X12_has (r_has (by omega) (by omega)) (by decide) (Nat.le_of_ble_eq_true rfl) (Nat.le_of_ble_eq_true rfl) ?_
          refine Ef_if_ne dX12_memberText_72 (tgt := 131) rfl (by rw [if_neg hb]; rfl) ?_
          refine Eq_iln dX12_memberText_75 rfl ?_
          refine Eq_ic (v := nI 1) dX12_memberText_76 rfl ?_
          refine Eq_iln dX12_memberText_77 rfl ?_
          first | refine Eq_shl1 dX12_memberText_78 (by omega) ?_ | refine Eam_x_pu dX12_memberText_78 rfl ?_
          first | refine Eq_or dX12_memberText_79 ?_ | refine Eam_x_pu dX12_memberText_79 rfl ?_
          refine Eq_isn dX12_memberText_80 (by decide) ?_
          refine Eam_nl (pc' := 81) (l' := [_, _, _, _]) rfl rfl ?_
          refine Eq_aln dX12_memberText_81 rfl ?_
          refine Eam_x_pu dX12_memberText_82 rfl ?_
          refine Eq_getI dX12_memberText_83 fl_X12_110 (ws_50 hW) rfl (by first | exact hw2 | exact hw | exact hA.2.1 | exact hC2.1.1) ?_
          refine Eq_ic (v := nI 1) dX12_memberText_86 rfl ?_
          first | refine Eq_add dX12_memberText_87 ?_ | refine Eam_x_pu dX12_memberText_87 rfl ?_
          refine Eam_x_putI dX12_memberText_88 (fw_X12_110 rfl) (ws_50 hW) (Or.inl rfl) ?_
          refine Eq_aln dX12_memberText_91 rfl ?_
          refine Eq_getR dX12_memberText_92 fl_X12_40 (ws_50 hW) rfl (wp_50_17 hW) ?_
          refine Eq_iln dX12_memberText_95 rfl ?_
          refine Eq_iln dX12_memberText_96 rfl ?_
          first | refine Eq_add dX12_memberText_97 ?_ | refine Eam_x_pu dX12_memberText_97 rfl ?_
          refine Eq_aln dX12_memberText_98 rfl ?_
          refine Eq_ic (v := nI 0) dX12_memberText_99 rfl ?_
          refine Eq_iln dX12_memberText_100 rfl ?_
          refine Eq_S1 (N := m_X12_highest) dX12_memberText_101 lk_X12_232 mS_X12_highest (r_highest hi7) (by decide) (Nat.le_of_ble_eq_true rfl) (Nat.le_of_ble_eq_true rfl) ?_
          refine Eq_W2 (N := m_X12_number) dX12_memberText_104 lk_X12_235 mV_X12_number (r_number hWk hAk hi7 hwk) (by decide) (ws_50 hW) rfl (by decide) (Nat.le_of_ble_eq_true rfl) (Nat.le_of_ble_eq_true rfl) (fun vq hq1 hq2 => ?_)
          obtain ⟨hf2, hq3⟩ := hq2
          rw [hv] at hq3
          obtain ⟨⟨x, rfl⟩, hw2, b, hA2⟩ := hq3
          have hW2 := hf2.Wd hWk
          have hC2 := hCk.fx hf2 (by decide)
          have kx : Fx [61] [] hq1 (am_wI hq1 61 (7 * N + i) x) := Fx.wI (Or.inl (by decide))
          refine Eq_ast dX12_memberText_107 (ws_61 hW2) (by omega) (by omega) ?_
          refine Eq_aln dX12_memberText_108 rfl ?_
          refine Eq_getI dX12_memberText_109 fl_X12_117 (ws_50 hW2) rfl (by first | exact hw2 | exact hw | exact hA.2.1 | exact hC2.1.1) ?_
          refine Eq_ic (v := -1) dX12_memberText_112 rfl ?_
          refine Et_ic_ne 126 dX12_memberText_113 rfl (by exact nI_m1 (by have := (vlu_le (tp := tp) (i := i) (a := nx tl tp a + 1) (tl := tl) (by omega)).1; omega)) ?_
          refine Eq_ic (v := -1) dX12_memberText_126 rfl ?_
          refine Eq_isn dX12_memberText_127 (by decide) ?_
          refine Eam_nl (pc' := 128) (l' := [_, _, _, _]) rfl rfl ?_
          refine Eam_x_goto (tgt := 54) dX12_memberText_128 rfl ?_
          refine r_items_bad (hf2.Wd hWk |> kx.Wd) hw2 (hC2.1.1) hvl hp1 ⟨rfl, (k1.mono (by decide) (by decide)).tr ((hf2.mono (by decide) (by decide)).tr ((kx.mono (by decide) (by decide)).tr (Fx.wI (Or.inr (by decide))))), Or.inl ⟨hw2, b, (hA2.fx kx (by decide)).fx (Fx.wI (A := []) (B := [(50, 18)]) (Or.inr (by decide))) (by decide)⟩⟩
        | some v =>
          simp only [its_y hi hb hv]
          have hvl := (vlu_le (tp := tp) (i := i) (a := nx tl tp a + 1) (tl := tl) (by omega)).1
          refine Eq_aln dX12_memberText_54 rfl ?_
          refine Eq_getI dX12_memberText_55 fl_X12_117 (ws_50 hW) rfl (by first | exact hw2 | exact hw | exact hA.2.1) ?_
          refine Eq_ic (v := -1) dX12_memberText_58 rfl ?_
          refine Ef_ic_ne dX12_memberText_59 (tgt := 131) rfl (by rfl) ?_
          refine Eq_iln dX12_memberText_62 rfl ?_
          refine Eq_ic (v := -1) dX12_memberText_63 rfl ?_
          refine Ef_ic_eq dX12_memberText_64 (tgt := 131) rfl (by exact nI_m1 (by omega)) ?_
          refine Eq_iln dX12_memberText_67 rfl ?_
          refine Eq_iln dX12_memberText_68 rfl ?_
          refine Eq_S2 (N := m_X12_has) dX12_memberText_69 lk_X12_228 mS_X12_has (r_has (by omega) (by omega)) (by decide) (Nat.le_of_ble_eq_true rfl) (Nat.le_of_ble_eq_true rfl) ?_
          refine Ef_if_ne dX12_memberText_72 (tgt := 131) rfl (by rw [if_neg hb]; rfl) ?_
          refine Eq_iln dX12_memberText_75 rfl ?_
          refine Eq_ic (v := nI 1) dX12_memberText_76 rfl ?_
          refine Eq_iln dX12_memberText_77 rfl ?_
          first | refine Eq_shl1 dX12_memberText_78 (by omega) ?_ | refine Eam_x_pu dX12_memberText_78 rfl ?_
          first | refine Eq_or dX12_memberText_79 ?_ | refine Eam_x_pu dX12_memberText_79 rfl ?_
          refine Eq_isn dX12_memberText_80 (by decide) ?_
          refine Eam_nl (pc' := 81) (l' := [_, _, _, _]) rfl rfl ?_
          refine Eq_aln dX12_memberText_81 rfl ?_
          refine Eam_x_pu dX12_memberText_82 rfl ?_
          refine Eq_getI dX12_memberText_83 fl_X12_110 (ws_50 hW) rfl (by first | exact hw2 | exact hw | exact hA.2.1) ?_
          refine Eq_ic (v := nI 1) dX12_memberText_86 rfl ?_
          first | refine Eq_add dX12_memberText_87 ?_ | refine Eam_x_pu dX12_memberText_87 rfl ?_
          refine Eam_x_putI dX12_memberText_88 (fw_X12_110 rfl) (ws_50 hW) (Or.inl rfl) ?_
          refine Eq_aln dX12_memberText_91 rfl ?_
          refine Eq_getR dX12_memberText_92 fl_X12_40 (ws_50 hW) rfl (wp_50_17 hW) ?_
          refine Eq_iln dX12_memberText_95 rfl ?_
          refine Eq_iln dX12_memberText_96 rfl ?_
          first | refine Eq_add dX12_memberText_97 ?_ | refine Eam_x_pu dX12_memberText_97 rfl ?_
          refine Eq_aln dX12_memberText_98 rfl ?_
          refine Eq_ic (v := nI 0) dX12_memberText_99 rfl ?_
          refine Eq_iln dX12_memberText_100 rfl ?_
          refine Eq_S1 (N := m_X12_highest) dX12_memberText_101 lk_X12_232 mS_X12_highest (r_highest hi7) (by decide) (Nat.le_of_ble_eq_true rfl) (Nat.le_of_ble_eq_true rfl) ?_
          refine Eq_W2 (N := m_X12_number) dX12_memberText_104 lk_X12_235 mV_X12_number (r_number hWk hAk hi7 hwk) (by decide) (ws_50 hW) rfl (by decide) (Nat.le_of_ble_eq_true rfl) (Nat.le_of_ble_eq_true rfl) (fun vq hq1 hq2 => ?_)
          obtain ⟨hf2, hq3⟩ := hq2
          rw [hv] at hq3
          obtain ⟨rfl, hw2, hA2⟩ := hq3
          have hW2 := hf2.Wd hWk
          have hC2 := hCk.fx hf2 (by decide)
          have kx : Fx [61] [] hq1 (am_wI hq1 61 (7 * N + i) (nI v)) := Fx.wI (Or.inl (by decide))
          refine Eq_ast dX12_memberText_107 (ws_61 hW2) (by omega) (by omega) ?_
          refine Eq_aln dX12_memberText_108 rfl ?_
          refine Eq_getI dX12_memberText_109 fl_X12_117 (ws_50 hW2) rfl (by first | exact hw2 | exact hw | exact hA.2.1) ?_
          refine Eq_ic (v := -1) dX12_memberText_112 rfl ?_
          refine Ef_ic_ne dX12_memberText_113 (tgt := 126) rfl (by rfl) ?_
          refine Eq_aln dX12_memberText_116 rfl ?_
          refine Eq_W0 (N := m_X12_look) dX12_memberText_117 lk_X12_129 mV_X12_look (r_look (kx.Wd hW2) (hA2.fx kx (by decide))) (by decide) (ws_50 hW2) rfl (by decide) (Nat.le_of_ble_eq_true rfl) (Nat.le_of_ble_eq_true rfl) (fun vq hq1 hq4 => ?_)
          obtain ⟨rfl, hf5, hA5⟩ := hq4
          have hW5 := hf5.Wd (kx.Wd hW2)
          refine Eq_S1 (N := m_X12_itemOf) dX12_memberText_120 lk_X12_225 mS_X12_itemOf (r_itemOf (rsgn256 hA _)) (by decide) (Nat.le_of_ble_eq_true rfl) (Nat.le_of_ble_eq_true rfl) ?_
          refine Eam_x_goto (tgt := 127) dX12_memberText_123 rfl ?_
          refine Eq_isn dX12_memberText_127 (by decide) ?_
          refine Eam_nl (pc' := 128) (l' := [_, _, _, _]) rfl rfl ?_
          refine Eam_x_goto (tgt := 54) dX12_memberText_128 rfl ?_
          have hff := ((k1.mono (A' := [61]) (B' := [(50, 3), (50, 4), (50, 18), (50, 19)]) (by decide) (by decide)).tr ((hf2.mono (by decide) (by decide)).tr ((kx.mono (by decide) (by decide)).tr (hf5.mono (by decide) (by decide)))))
          obtain ⟨v5, h5, z1, z2, z3, z4⟩ := ih (seen ||| 2 ^ i) (vlu tl tp i (nx tl tp a + 1)).1 (up1 G i v) (by rw [popc_or hb hi7]; omega) hs2 _ hW5 hA5 ((hC2.put v hi7).fx hf5 (by decide)) ((hf5.i (by decide) (by decide)).trans hw2)
          exact ⟨v5, h5, z1, z2, hff.tr z3, z4⟩
set_option maxHeartbeats 2000000 in
theorem r_memberText {h : am_H} (hW : Wd h) {tl : Nat} {tp : Nat → Nat} {a : Nat} (hA : RA h tl tp a) {N : Nat} {g : Bool} {F : Nat → Nat → Nat} (hD : RD h N g F) (hN : N < 7) (hal : a < tl) (hw : am_i h 50 4 = -1) : am_D 3 m_X12_memberText [.ref 50] h (fun v h2 => v = none ∧ Fx [61] [(50, 3), (50, 4), (50, 18), (50, 19)] h h2 ∧ MTQ tl tp (its tl tp 8 0 (a + 1) usu) N g F h2) := by
  have k1 : Fx [] [(50, 3)] h (am_wI h 50 3 (nI (a + 1))) := Fx.wI (Or.inr (by decide))
  have hWk := k1.Wd hW
  have hp1 := hA.1.2.1
  have hAk := hA.mv (b := a + 1) (by omega)
  have hDk := hD.fx k1 (by decide)
  refine Eq_aln dX12_memberText_0 rfl ?_
  refine Eam_x_pu dX12_memberText_1 rfl ?_
  refine Eq_getI dX12_memberText_2 fl_X12_110 (ws_50 hW) rfl (by first | exact hA.2.1 | exact hDk.1) ?_
  refine Eq_ic (v := nI 1) dX12_memberText_5 rfl ?_
  first | refine Eq_add dX12_memberText_6 ?_ | refine Eam_x_pu dX12_memberText_6 rfl ?_
  refine Eam_x_putI dX12_memberText_7 (fw_X12_110 rfl) (ws_50 hW) (Or.inl rfl) ?_
  refine Eq_bp (v := nI 7) dX12_memberText_10 rfl ?_
  refine Eq_aln dX12_memberText_12 rfl ?_
  refine Eq_getI dX12_memberText_13 fl_X12_219 (ws_50 hW) rfl (by first | exact hA.2.1 | exact hDk.1) ?_
  first | refine Eq_mul dX12_memberText_16 ?_ | refine Eam_x_pu dX12_memberText_16 rfl ?_
  refine Eq_isn dX12_memberText_17 (by decide) ?_
  refine Eam_nl (pc' := 18) (l' := [_, _, _, _]) rfl rfl ?_
  refine Eq_ic (v := nI 0) dX12_memberText_18 rfl ?_
  refine Eq_isn dX12_memberText_19 (by decide) ?_
  refine Eam_nl (pc' := 20) (l' := [_, _, _, _]) rfl rfl ?_
  refine r_usual_lp (h0 := am_wI h 50 3 (nI (a + 1))) (fun h2 hf2 hC2 => ?_) 7 0 (by omega) _ hWk Fx.rf hDk hN (fun i hi => by omega)
  have hA2 := hAk.fx hf2 (by decide)
  have hW2 := hf2.Wd hWk
  refine Eq_ic (v := nI 0) dX12_memberText_44 rfl ?_
  refine Eq_isn dX12_memberText_45 (by decide) ?_
  refine Eam_nl (pc' := 46) (l' := [_, _, _, _]) rfl rfl ?_
  refine Eq_aln dX12_memberText_46 rfl ?_
  refine Eq_W0 (N := m_X12_look) dX12_memberText_47 lk_X12_129 mV_X12_look (r_look hW2 hA2) (by decide) (ws_50 hW2) rfl (by decide) (Nat.le_of_ble_eq_true rfl) (Nat.le_of_ble_eq_true rfl) (fun vq hq1 hq2 => ?_)
  obtain ⟨rfl, hf3, hA3⟩ := hq2
  have hW3 := hf3.Wd hW2
  refine Eq_S1 (N := m_X12_itemOf) dX12_memberText_50 lk_X12_225 mS_X12_itemOf (r_itemOf (rsgn256 hA _)) (by decide) (Nat.le_of_ble_eq_true rfl) (Nat.le_of_ble_eq_true rfl) ?_
  refine Eq_isn dX12_memberText_53 (by decide) ?_
  refine Eam_nl (pc' := 54) (l' := [_, _, _, _]) rfl rfl ?_
  have hff := ((k1.mono (A' := [61]) (B' := [(50, 3), (50, 4), (50, 18), (50, 19)]) (by decide) (by decide)).tr ((hf2.mono (by decide) (by decide)).tr (hf3.mono (by decide) (by decide))))
  obtain ⟨v5, h5, z1, z2, z3, z4⟩ := r_items_lp 8 0 (a + 1) usu (by decide) (by omega) _ hW3 hA3 (hC2.fx hf3 (by decide)) (by rw [hf3.i (by decide) (by decide), hf2.i (by decide) (by decide)]; exact hw)
  exact ⟨v5, h5, z1, z2, hff.tr z3, z4⟩
def RHQ (tl : Nat) (tp : Nat → Nat) (r : Nat × Option (Nat × Bool × (Nat → Nat → Nat))) (w : Option Value) (h2 : am_H) : Prop := match (fin tl tp r).2 with
  | none => w = some (.int (nI r.1)) ∧ ∃ a, RA h2 tl tp a
  | some s => w = some (.int (-1)) ∧ (∃ a, RA h2 tl tp a) ∧ RD h2 s.1 s.2.1 s.2.2
set_option maxHeartbeats 2000000 in
theorem r_house_ok {tl : Nat} {tp : Nat → Nat} {st : Nat × Bool × (Nat → Nat → Nat)} {p : Nat} {h : am_H} {l2 : Option Value} (hW : Wd h) (hA : RA h tl tp p) (hD : RD h st.1 st.2.1 st.2.2) (hp : nx tl tp p = p) (hw : am_i h 50 4 = -1) : am_E 4 m_X12_readHouse 22 [some (.ref 50), some (.int (nI 0)), l2] [] h (fun w h2 => Fx [61] [(50, 3), (50, 4), (50, 18), (50, 19)] h h2 ∧ RHQ tl tp (p, some st) w h2) := by
  have h2 := rsgn256 hA (nx tl tp p)
  have h7 := hD.2.2.1
  by_cases e1 : sgn tl tp p = none
  · by_cases e2 : 2 ≤ st.1
    · have e3 : fin tl tp (p, some st) = (p, some st) := if_pos ⟨e1, e2⟩
      simp only [RHQ, e3]
      refine Eq_iln dX12_readHouse_22 rfl ?_
      refine Et_if_eq 140 dX12_readHouse_23 rfl (by rfl) ?_
      refine Eq_aln dX12_readHouse_140 rfl ?_
      refine Eq_getI dX12_readHouse_141 fl_X12_117 (ws_50 hW) rfl (by first | exact hw1 | exact hw | exact hD1.1) ?_
      refine Eq_ic (v := -1) dX12_readHouse_144 rfl ?_
      refine Ef_ic_ne dX12_readHouse_145 (tgt := 168) rfl (by rfl) ?_
      refine Eq_aln dX12_readHouse_148 rfl ?_
      refine Eq_W0 (N := m_X12_look) dX12_readHouse_149 lk_X12_129 mV_X12_look (r_look hW hA) (by decide) (ws_50 hW) rfl (by decide) (Nat.le_of_ble_eq_true rfl) (Nat.le_of_ble_eq_true rfl) (fun vq hq1 hq2 => ?_)
      obtain ⟨rfl, hf1, hA1⟩ := hq2
      have hW1 := hf1.Wd hW
      have hD1 := hD.fx hf1 (by decide)
      have hw1 : am_i hq1 50 4 = -1 := (hf1.i (by decide) (by decide)).trans hw
      refine Eq_ic (v := -1) dX12_readHouse_152 rfl ?_
      refine Ef_ic_ne dX12_readHouse_153 (tgt := 164) rfl (by rw [hp, e1]; rfl) ?_
      refine Eq_aln dX12_readHouse_156 rfl ?_
      refine Eq_getI dX12_readHouse_157 fl_X12_219 (ws_50 hW1) rfl (by first | exact hw1 | exact hw | exact hD1.1) ?_
      refine Eq_ic (v := nI 2) dX12_readHouse_160 rfl ?_
      refine Et_ic_ge 168 dX12_readHouse_161 rfl (by exact nI_le (by omega) (by omega)) ?_
      refine Eq_aln dX12_readHouse_168 rfl ?_
      refine Eq_getI dX12_readHouse_169 fl_X12_117 (ws_50 hW1) rfl (by first | exact hw1 | exact hw | exact hD1.1) ?_
      refine Eq_ir dX12_readHouse_172 rfl ?_
      exact ⟨hf1.mono (by decide) (by decide), rfl, ⟨_, hA1⟩, hD1⟩
    · have e3 : fin tl tp (p, some st) = (p, none) := if_neg (fun z => e2 z.2)
      simp only [RHQ, e3]
      refine Eq_iln dX12_readHouse_22 rfl ?_
      refine Et_if_eq 140 dX12_readHouse_23 rfl (by rfl) ?_
      refine Eq_aln dX12_readHouse_140 rfl ?_
      refine Eq_getI dX12_readHouse_141 fl_X12_117 (ws_50 hW) rfl (by first | exact hw1 | exact hw | exact hD1.1 | exact wI_e0) ?_
      refine Eq_ic (v := -1) dX12_readHouse_144 rfl ?_
      refine Ef_ic_ne dX12_readHouse_145 (tgt := 168) rfl (by rfl) ?_
      refine Eq_aln dX12_readHouse_148 rfl ?_
      refine Eq_W0 (N := m_X12_look) dX12_readHouse_149 lk_X12_129 mV_X12_look (r_look hW hA) (by decide) (ws_50 hW) rfl (by decide) (Nat.le_of_ble_eq_true rfl) (Nat.le_of_ble_eq_true rfl) (fun vq hq1 hq2 => ?_)
      obtain ⟨rfl, hf1, hA1⟩ := hq2
      have hW1 := hf1.Wd hW
      have hD1 := hD.fx hf1 (by decide)
      have hw1 : am_i hq1 50 4 = -1 := (hf1.i (by decide) (by decide)).trans hw
      refine Eq_ic (v := -1) dX12_readHouse_152 rfl ?_
      refine Ef_ic_ne dX12_readHouse_153 (tgt := 164) rfl (by rw [hp, e1]; rfl) ?_
      refine Eq_aln dX12_readHouse_156 rfl ?_
      refine Eq_getI dX12_readHouse_157 fl_X12_219 (ws_50 hW1) rfl (by first | exact hw1 | exact hw | exact hD1.1 | exact wI_e0) ?_
      refine Eq_ic (v := nI 2) dX12_readHouse_160 rfl ?_
      refine Ef_ic_ge dX12_readHouse_161 (tgt := 168) rfl (by exact nI_ge (by omega) (by omega)) ?_
      refine Eq_aln dX12_readHouse_164 rfl ?_
      refine Eq_V0 (N := m_X12_bad) dX12_readHouse_165 lk_X12_126 mV_X12_bad (r_bad hW1 hA1 hw1) (by decide) (ws_50 hW1) rfl (by decide) (Nat.le_of_ble_eq_true rfl) (Nat.le_of_ble_eq_true rfl) ?_
      refine Eq_aln dX12_readHouse_168 rfl ?_
      refine Eq_getI dX12_readHouse_169 fl_X12_117 (ws_50 hW1) rfl (by first | exact hw1 | exact hw | exact hD1.1 | exact wI_e0) ?_
      refine Eq_ir dX12_readHouse_172 rfl ?_
      exact ⟨(hf1.mono (by decide) (by decide)).tr (Fx.wI (Or.inr (by decide))), by rw [hp], ⟨_, hA1.fx (Fx.wI (A := []) (B := [(50, 4)]) (Or.inr (by decide))) (by decide)⟩⟩
  · have e3 : fin tl tp (p, some st) = (p, none) := if_neg (fun z => e1 z.1)
    simp only [RHQ, e3]
    refine Eq_iln dX12_readHouse_22 rfl ?_
    refine Et_if_eq 140 dX12_readHouse_23 rfl (by rfl) ?_
    refine Eq_aln dX12_readHouse_140 rfl ?_
    refine Eq_getI dX12_readHouse_141 fl_X12_117 (ws_50 hW) rfl (by first | exact hw1 | exact hw | exact hD1.1 | exact wI_e0) ?_
    refine Eq_ic (v := -1) dX12_readHouse_144 rfl ?_
    refine Ef_ic_ne dX12_readHouse_145 (tgt := 168) rfl (by rfl) ?_
    refine Eq_aln dX12_readHouse_148 rfl ?_
    refine Eq_W0 (N := m_X12_look) dX12_readHouse_149 lk_X12_129 mV_X12_look (r_look hW hA) (by decide) (ws_50 hW) rfl (by decide) (Nat.le_of_ble_eq_true rfl) (Nat.le_of_ble_eq_true rfl) (fun vq hq1 hq2 => ?_)
    obtain ⟨rfl, hf1, hA1⟩ := hq2
    have hW1 := hf1.Wd hW
    have hD1 := hD.fx hf1 (by decide)
    have hw1 : am_i hq1 50 4 = -1 := (hf1.i (by decide) (by decide)).trans hw
    refine Eq_ic (v := -1) dX12_readHouse_152 rfl ?_
    refine Et_ic_ne 164 dX12_readHouse_153 rfl (by exact fun z => e1 (by rw [← hp]; exact (oNn (fun k hk => by have := h2 k hk; omega)).mp z)) ?_
    refine Eq_aln dX12_readHouse_164 rfl ?_
    refine Eq_V0 (N := m_X12_bad) dX12_readHouse_165 lk_X12_126 mV_X12_bad (r_bad hW1 hA1 hw1) (by decide) (ws_50 hW1) rfl (by decide) (Nat.le_of_ble_eq_true rfl) (Nat.le_of_ble_eq_true rfl) ?_
    refine Eq_aln dX12_readHouse_168 rfl ?_
    refine Eq_getI dX12_readHouse_169 fl_X12_117 (ws_50 hW1) rfl (by first | exact hw1 | exact hw | exact hD1.1 | exact wI_e0) ?_
    refine Eq_ir dX12_readHouse_172 rfl ?_
    exact ⟨(hf1.mono (by decide) (by decide)).tr (Fx.wI (Or.inr (by decide))), by rw [hp], ⟨_, hA1.fx (Fx.wI (A := []) (B := [(50, 4)]) (Or.inr (by decide))) (by decide)⟩⟩
set_option maxHeartbeats 2000000 in
theorem r_house_bad {tl : Nat} {tp : Nat → Nat} {p b : Nat} {h : am_H} {l1 l2 : Option Value} (hW : Wd h) (hA : RA h tl tp b) (hp : p ≤ tl) (hw : am_i h 50 4 = nI p) : am_E 4 m_X12_readHouse 96 [some (.ref 50), l1, l2] [] h (fun w h2 => Fx [61] [(50, 3), (50, 4), (50, 18), (50, 19)] h h2 ∧ RHQ tl tp (p, none) w h2) := by
  have hp1 := hA.1.2.1
  show am_E _ _ _ _ _ _ (fun w h2 => Fx [61] [(50, 3), (50, 4), (50, 18), (50, 19)] h h2 ∧ w = some (.int (nI p)) ∧ ∃ a, RA h2 tl tp a)
  refine Eq_aln dX12_readHouse_96 rfl ?_
  refine Eq_getI dX12_readHouse_97 fl_X12_117 (ws_50 hW) rfl (by first | exact hw | exact hA.2.1) ?_
  refine Eq_ic (v := -1) dX12_readHouse_100 rfl ?_
  refine Et_ic_ne 117 dX12_readHouse_101 rfl (by exact nI_m1 (by omega)) ?_
  refine Eq_ic (v := nI 0) dX12_readHouse_117 rfl ?_
  refine Eq_isn dX12_readHouse_118 (by decide) ?_
  refine Eam_nl (pc' := 119) (l' := [_, _, _]) rfl rfl ?_
  refine Eq_aln dX12_readHouse_119 rfl ?_
  refine Eam_x_pu dX12_readHouse_120 rfl ?_
  refine Eq_getI dX12_readHouse_121 fl_X12_110 (ws_50 hW) rfl (by first | exact hw | exact hA.2.1) ?_
  refine Eq_iln dX12_readHouse_124 rfl ?_
  refine Et_if_eq 132 dX12_readHouse_125 rfl (by rfl) ?_
  refine Eq_ic (v := nI 0) dX12_readHouse_132 rfl ?_
  first | refine Eq_add dX12_readHouse_133 ?_ | refine Eam_x_pu dX12_readHouse_133 rfl ?_
  refine Eam_x_putI dX12_readHouse_134 (fw_X12_110 rfl) (ws_50 hW) (Or.inl rfl) ?_
  refine Eam_x_goto (tgt := 22) dX12_readHouse_137 rfl ?_
  refine Eq_iln dX12_readHouse_22 rfl ?_
  refine Et_if_eq 140 dX12_readHouse_23 rfl (by rfl) ?_
  refine Eq_aln dX12_readHouse_140 rfl ?_
  refine Eq_getI dX12_readHouse_141 fl_X12_117 (ws_50 hW) rfl (by first | exact hw | exact hA.2.1) ?_
  refine Eq_ic (v := -1) dX12_readHouse_144 rfl ?_
  refine Et_ic_ne 168 dX12_readHouse_145 rfl (by exact nI_m1 (by omega)) ?_
  refine Eq_aln dX12_readHouse_168 rfl ?_
  refine Eq_getI dX12_readHouse_169 fl_X12_117 (ws_50 hW) rfl (by first | exact hw | exact hA.2.1) ?_
  refine Eq_ir dX12_readHouse_172 rfl ?_
  exact ⟨Fx.wI (Or.inr (by decide)), rfl, b + 0, hA.mv (by have := hA.2.2; omega)⟩
set_option maxHeartbeats 2000000 in
theorem r_house_lp {tl : Nat} {tp : Nat → Nat} : ∀ k a st h, tl < a + k → a ≤ tl → Wd h → RA h tl tp a → RD h st.1 st.2.1 st.2.2 → am_i h 50 4 = -1 → ∀ l2, am_E 4 m_X12_readHouse 22 [some (.ref 50), some (.int (nI 1)), l2] [] h (fun w h2 => Fx [61] [(50, 3), (50, 4), (50, 18), (50, 19)] h h2 ∧ RHQ tl tp (cls tl tp k a st) w h2) := by
  intro k
  induction k with
  | zero => intro a st h hk hl; omega
  | succ k ih =>
    intro a st h hk hl hW hA hD hw l2
    have hcl := cla_le (tp := tp) (st := st) hl
    have h2 := rsgn256 hA (nx tl tp a)
    have hx2 := nx_le (tp := tp) hl
    have hp1 := hA.1.2.1
    -- a clause done
    have h96 : ∀ s h2 l2, (cla tl tp st a).2 = some s → Wd h2 → Fx [61] [(50, 3), (50, 4), (50, 18), (50, 19)] h h2 → RA h2 tl tp (cla tl tp st a).1 → RD h2 s.1 s.2.1 s.2.2 → am_i h2 50 4 = -1 → am_E 4 m_X12_readHouse 96 [some (.ref 50), some (.int (nI 1)), some (.int l2)] [] h2 (fun w h3 => Fx [61] [(50, 3), (50, 4), (50, 18), (50, 19)] h h3 ∧ RHQ tl tp (cls tl tp (k + 1) a st) w h3) := by
      intro s h2 l2 hq hW2 hf2 hA2 hD2 hw2
      have hlt := hcl.2 s hq
      have hx1 := nx_ge (tl := tl) (tp := tp) (a := (cla tl tp st a).1)
      have h3 := rsgn256 hA (nx tl tp (cla tl tp st a).1)
      by_cases e : sgn tl tp (nx tl tp (cla tl tp st a).1) = some 59
      · rw [cls_y hq e]
        have hxl := (sgn_lt e).1
        refine Eq_aln dX12_readHouse_96 rfl ?_
        refine Eq_getI dX12_readHouse_97 fl_X12_117 (ws_50 hW2) rfl (by first | exact hw2 | exact hA3.2.1) ?_
        refine Eq_ic (v := -1) dX12_readHouse_100 rfl ?_
        refine Ef_ic_ne dX12_readHouse_101 (tgt := 117) rfl (by rfl) ?_
        refine Eq_aln dX12_readHouse_104 rfl ?_
        refine Eq_W0 (N := m_X12_look) dX12_readHouse_105 lk_X12_129 mV_X12_look (r_look hW2 hA2) (by decide) (ws_50 hW2) rfl (by decide) (Nat.le_of_ble_eq_true rfl) (Nat.le_of_ble_eq_true rfl) (fun vq hq1 hq2 => ?_)
        obtain ⟨rfl, hf3, hA3⟩ := hq2
        have hW3 := hf3.Wd hW2
        have hD3 := hD2.fx hf3 (by decide)
        have hw3 : am_i hq1 50 4 = -1 := (hf3.i (by decide) (by decide)).trans hw2
        refine Eq_bp (v := nI 59) dX12_readHouse_108 rfl ?_
        refine Ef_ic_ne dX12_readHouse_110 (tgt := 117) rfl (by rw [e]; rfl) ?_
        refine Eq_ic (v := nI 1) dX12_readHouse_113 rfl ?_
        refine Eam_x_goto (tgt := 118) dX12_readHouse_114 rfl ?_
        refine Eq_isn dX12_readHouse_118 (by decide) ?_
        refine Eam_nl (pc' := 119) (l' := [_, _, _]) rfl rfl ?_
        refine Eq_aln dX12_readHouse_119 rfl ?_
        refine Eam_x_pu dX12_readHouse_120 rfl ?_
        refine Eq_getI dX12_readHouse_121 fl_X12_110 (ws_50 hW3) rfl (by first | exact hw2 | exact hA3.2.1) ?_
        refine Eq_iln dX12_readHouse_124 rfl ?_
        refine Ef_if_eq dX12_readHouse_125 (tgt := 132) rfl (by exact zf1) ?_
        refine Eq_ic (v := nI 1) dX12_readHouse_128 rfl ?_
        refine Eam_x_goto (tgt := 133) dX12_readHouse_129 rfl ?_
        first | refine Eq_add dX12_readHouse_133 ?_ | refine Eam_x_pu dX12_readHouse_133 rfl ?_
        refine Eam_x_putI dX12_readHouse_134 (fw_X12_110 rfl) (ws_50 hW3) (Or.inl rfl) ?_
        refine Eam_x_goto (tgt := 22) dX12_readHouse_137 rfl ?_
        have k1 : Fx [] [(50, 3)] hq1 (am_wI hq1 50 3 (nI (nx tl tp (cla tl tp st a).1 + 1))) := Fx.wI (Or.inr (by decide))
        obtain ⟨v5, h5, z1, z2, z3⟩ := ih (nx tl tp (cla tl tp st a).1 + 1) s _ (by omega) (by omega) (k1.Wd hW3) (hA3.mv (by omega)) (hD3.fx k1 (by decide)) hw3 _
        exact ⟨v5, h5, z1, hf2.tr ((hf3.mono (by decide) (by decide)).tr ((k1.mono (by decide) (by decide)).tr z2)), z3⟩
      · rw [cls_e hq e]
        refine Eq_aln dX12_readHouse_96 rfl ?_
        refine Eq_getI dX12_readHouse_97 fl_X12_117 (ws_50 hW2) rfl (by first | exact hw2 | exact hA3.2.1) ?_
        refine Eq_ic (v := -1) dX12_readHouse_100 rfl ?_
        refine Ef_ic_ne dX12_readHouse_101 (tgt := 117) rfl (by rfl) ?_
        refine Eq_aln dX12_readHouse_104 rfl ?_
        refine Eq_W0 (N := m_X12_look) dX12_readHouse_105 lk_X12_129 mV_X12_look (r_look hW2 hA2) (by decide) (ws_50 hW2) rfl (by decide) (Nat.le_of_ble_eq_true rfl) (Nat.le_of_ble_eq_true rfl) (fun vq hq1 hq2 => ?_)
        obtain ⟨rfl, hf3, hA3⟩ := hq2
        have hW3 := hf3.Wd hW2
        have hD3 := hD2.fx hf3 (by decide)
        have hw3 : am_i hq1 50 4 = -1 := (hf3.i (by decide) (by decide)).trans hw2
        refine Eq_bp (v := nI 59) dX12_readHouse_108 rfl ?_
        refine Et_ic_ne 117 dX12_readHouse_110 rfl (by exact fun z => e ((oNlt (fun k hk => by have := h3 k hk; omega) 59 (by omega)).mp z)) ?_
        refine Eq_ic (v := nI 0) dX12_readHouse_117 rfl ?_
        refine Eq_isn dX12_readHouse_118 (by decide) ?_
        refine Eam_nl (pc' := 119) (l' := [_, _, _]) rfl rfl ?_
        refine Eq_aln dX12_readHouse_119 rfl ?_
        refine Eam_x_pu dX12_readHouse_120 rfl ?_
        refine Eq_getI dX12_readHouse_121 fl_X12_110 (ws_50 hW3) rfl (by first | exact hw2 | exact hA3.2.1) ?_
        refine Eq_iln dX12_readHouse_124 rfl ?_
        refine Et_if_eq 132 dX12_readHouse_125 rfl (by rfl) ?_
        refine Eq_ic (v := nI 0) dX12_readHouse_132 rfl ?_
        first | refine Eq_add dX12_readHouse_133 ?_ | refine Eam_x_pu dX12_readHouse_133 rfl ?_
        refine Eam_x_putI dX12_readHouse_134 (fw_X12_110 rfl) (ws_50 hW3) (Or.inl rfl) ?_
        refine Eam_x_goto (tgt := 22) dX12_readHouse_137 rfl ?_
        have k1 : Fx [] [(50, 3)] hq1 (am_wI hq1 50 3 (nI (nx tl tp (cla tl tp st a).1 + 0))) := Fx.wI (Or.inr (by decide))
        obtain ⟨v5, h5, z1, z2, z3⟩ := r_house_ok (l2 := some (.int l2)) (k1.Wd hW3) (hA3.mv (by have := hA3.2.2; omega)) (hD3.fx k1 (by decide)) nx_nx hw3
        exact ⟨v5, h5, z1, hf2.tr ((hf3.mono (by decide) (by decide)).tr ((k1.mono (by decide) (by decide)).tr z2)), z3⟩
    by_cases hr : sgn tl tp (nx tl tp a) = some 114 ∧ st.2.1 = false
    · obtain ⟨hr, hg⟩ := hr
      have hxl := (sgn_lt hr).1
      have hcr := cla_r (st := st) hr hg
      refine Eq_iln dX12_readHouse_22 rfl ?_
      refine Ef_if_eq dX12_readHouse_23 (tgt := 140) rfl (by exact zf1) ?_
      refine Eq_aln dX12_readHouse_26 rfl ?_
      refine Eq_getI dX12_readHouse_27 fl_X12_117 (ws_50 hW) rfl (by first | exact hw | exact hD1.2.1 | exact hA1.2.1) ?_
      refine Eq_ic (v := -1) dX12_readHouse_30 rfl ?_
      refine Ef_ic_ne dX12_readHouse_31 (tgt := 140) rfl (by rfl) ?_
      refine Eq_aln dX12_readHouse_34 rfl ?_
      refine Eq_W0 (N := m_X12_look) dX12_readHouse_35 lk_X12_129 mV_X12_look (r_look hW hA) (by decide) (ws_50 hW) rfl (by decide) (Nat.le_of_ble_eq_true rfl) (Nat.le_of_ble_eq_true rfl) (fun vq hq1 hq2 => ?_)
      obtain ⟨rfl, hf1, hA1⟩ := hq2
      have hW1 := hf1.Wd hW
      have hD1 := hD.fx hf1 (by decide)
      have hw1 : am_i hq1 50 4 = -1 := (hf1.i (by decide) (by decide)).trans hw
      refine Eq_isn dX12_readHouse_38 (by decide) ?_
      refine Eam_nl (pc' := 39) (l' := [_, _, _]) rfl rfl ?_
      refine Eq_iln dX12_readHouse_39 rfl ?_
      refine Eq_bp (v := nI 114) dX12_readHouse_40 rfl ?_
      refine Ef_ic_ne dX12_readHouse_42 (tgt := 70) rfl (by rw [hr]; rfl) ?_
      refine Eq_aln dX12_readHouse_45 rfl ?_
      refine Eq_getI dX12_readHouse_46 fl_X12_239 (ws_50 hW1) rfl (by first | exact hw | exact hD1.2.1 | exact hA1.2.1) ?_
      refine Ef_if_ne dX12_readHouse_49 (tgt := 70) rfl (by rw [hg]; rfl) ?_
      refine Eq_aln dX12_readHouse_52 rfl ?_
      refine Eq_ic (v := nI 1) dX12_readHouse_53 rfl ?_
      refine Eam_x_putI dX12_readHouse_54 (fw_X12_239 rfl) (ws_50 hW1) (Or.inr ⟨rfl, by first | exact Or.inl rfl | exact Or.inr rfl | assumption⟩) ?_
      refine Eq_aln dX12_readHouse_57 rfl ?_
      refine Eam_x_pu dX12_readHouse_58 rfl ?_
      refine Eq_getI dX12_readHouse_59 fl_X12_110 (ws_50 hW1) rfl (by first | exact hw | exact hD1.2.1 | exact hA1.2.1) ?_
      refine Eq_ic (v := nI 1) dX12_readHouse_62 rfl ?_
      first | refine Eq_add dX12_readHouse_63 ?_ | refine Eam_x_pu dX12_readHouse_63 rfl ?_
      refine Eam_x_putI dX12_readHouse_64 (fw_X12_110 rfl) (ws_50 hW1) (Or.inl rfl) ?_
      refine Eam_x_goto (tgt := 96) dX12_readHouse_67 rfl ?_
      have k1 : Fx [] [(50, 3), (50, 19)] hq1 (am_wI (am_wI hq1 50 19 (nI 1)) 50 3 (nI (nx tl tp a + 1))) := (Fx.wI (Or.inr (by decide))).tr (Fx.wI (Or.inr (by decide)))
      refine h96 (st.1, true, st.2.2) _ _ (by rw [hcr]) (k1.Wd hW1) ((hf1.mono (by decide) (by decide)).tr (k1.mono (by decide) (by decide))) (by rw [hcr]; exact (hA1.fx (Fx.wI (A := []) (B := [(50, 19)]) (Or.inr (by decide))) (by decide)).mv (by omega)) ⟨hD1.1, rfl, hD1.2.2.1, hD1.2.2.2⟩ hw1
    · by_cases hm : sgn tl tp (nx tl tp a) = some 109 ∧ st.1 < 7
      · obtain ⟨hm, hN7⟩ := hm
        have hxl := (sgn_lt hm).1
        have hcm := cla_m (st := st) hm hN7
        have hil := its_tl (tp := tp) (tl := tl) 8 0 (nx tl tp a + 1) usu (by omega)
        refine Eq_iln dX12_readHouse_22 rfl ?_
        refine Ef_if_eq dX12_readHouse_23 (tgt := 140) rfl (by exact zf1) ?_
        refine Eq_aln dX12_readHouse_26 rfl ?_
        refine Eq_getI dX12_readHouse_27 fl_X12_117 (ws_50 hW) rfl (by first | exact hw | exact hD1.1 | exact hA1.2.1) ?_
        refine Eq_ic (v := -1) dX12_readHouse_30 rfl ?_
        refine Ef_ic_ne dX12_readHouse_31 (tgt := 140) rfl (by rfl) ?_
        refine Eq_aln dX12_readHouse_34 rfl ?_
        refine Eq_W0 (N := m_X12_look) dX12_readHouse_35 lk_X12_129 mV_X12_look (r_look hW hA) (by decide) (ws_50 hW) rfl (by decide) (Nat.le_of_ble_eq_true rfl) (Nat.le_of_ble_eq_true rfl) (fun vq hq1 hq2 => ?_)
        obtain ⟨rfl, hf1, hA1⟩ := hq2
        have hW1 := hf1.Wd hW
        have hD1 := hD.fx hf1 (by decide)
        have hw1 : am_i hq1 50 4 = -1 := (hf1.i (by decide) (by decide)).trans hw
        refine Eq_isn dX12_readHouse_38 (by decide) ?_
        refine Eam_nl (pc' := 39) (l' := [_, _, _]) rfl rfl ?_
        refine Eq_iln dX12_readHouse_39 rfl ?_
        refine Eq_bp (v := nI 114) dX12_readHouse_40 rfl ?_
        refine Et_ic_ne 70 dX12_readHouse_42 rfl (by rw [hm]; exact fun z => absurd ((nI_eq (by omega) (by omega)).mp z) (by decide)) ?_
        refine Eq_iln dX12_readHouse_70 rfl ?_
        refine Eq_bp (v := nI 109) dX12_readHouse_71 rfl ?_
        refine Ef_ic_ne dX12_readHouse_73 (tgt := 92) rfl (by rw [hm]; rfl) ?_
        refine Eq_aln dX12_readHouse_76 rfl ?_
        refine Eq_getI dX12_readHouse_77 fl_X12_219 (ws_50 hW1) rfl (by first | exact hw | exact hD1.1 | exact hA1.2.1) ?_
        refine Eq_bp (v := nI 7) dX12_readHouse_80 rfl ?_
        refine Ef_ic_ge dX12_readHouse_82 (tgt := 92) rfl (by exact nI_ge (by omega) (by omega)) ?_
        refine Eq_aln dX12_readHouse_85 rfl ?_
        refine Eq_W0 (N := m_X12_memberText) dX12_readHouse_86 lk_X12_243 mV_X12_memberText (r_memberText hW1 hA1 hD1 hN7 hxl hw1) (by decide) (ws_50 hW1) rfl (by decide) (Nat.le_of_ble_eq_true rfl) (Nat.le_of_ble_eq_true rfl) (fun vq hq1 hq2 => ?_)
        obtain ⟨rfl, hf2, hM2⟩ := hq2
        have hW2 := hf2.Wd hW1
        refine Eam_x_goto (tgt := 96) dX12_readHouse_89 rfl ?_
        have hff := (hf1.mono (A' := [61]) (B' := [(50, 3), (50, 4), (50, 18), (50, 19)]) (by decide) (by decide)).tr hf2
        revert hM2
        unfold MTQ
        cases hq : (its tl tp 8 0 (nx tl tp a + 1) usu).2 with
        | none =>
          have hqn : (cla tl tp st a).2 = none := by rw [hcm, hq]; rfl
          have hq1e : (cla tl tp st a).1 = (its tl tp 8 0 (nx tl tp a + 1) usu).1 := by rw [hcm]
          rw [cls_n hqn, hq1e]
          rintro (⟨z1, b, z2⟩ | ⟨z1, z2, z3, c, z4, z5⟩)
          · obtain ⟨v5, h5, y1, y2, y3⟩ := r_house_bad (l1 := some (.int (nI 1))) (l2 := some (.int (oN (sgn tl tp (nx tl tp a))))) hW2 z2 hil z1
            exact ⟨v5, h5, y1, hff.tr y2, y3⟩
          · have h3 := rsgn256 hA (nx tl tp (its tl tp 8 0 (nx tl tp a + 1) usu).1)
            show am_E _ _ _ _ _ _ (fun w h2 => Fx [61] [(50, 3), (50, 4), (50, 18), (50, 19)] h h2 ∧ w = some (.int (nI (its tl tp 8 0 (nx tl tp a + 1) usu).1)) ∧ ∃ a, RA h2 tl tp a)
            refine Eq_aln dX12_readHouse_96 rfl ?_
            refine Eq_getI dX12_readHouse_97 fl_X12_117 (ws_50 hW2) rfl (by first | exact wI_e0 | exact hw3 | exact z1 | exact hA3.2.1) ?_
            refine Eq_ic (v := -1) dX12_readHouse_100 rfl ?_
            refine Ef_ic_ne dX12_readHouse_101 (tgt := 117) rfl (by rfl) ?_
            refine Eq_aln dX12_readHouse_104 rfl ?_
            refine Eq_W0 (N := m_X12_look) dX12_readHouse_105 lk_X12_129 mV_X12_look (r_look hW2 z2) (by decide) (ws_50 hW2) rfl (by decide) (Nat.le_of_ble_eq_true rfl) (Nat.le_of_ble_eq_true rfl) (fun vq hq1 hq2 => ?_)
            obtain ⟨rfl, hf3, hA3⟩ := hq2
            have hW3 := hf3.Wd hW2
            have hw3 : am_i hq1 50 4 = -1 := (hf3.i (by decide) (by decide)).trans z1
            have k1 : Fx [] [(50, 3)] hq1 (am_wI hq1 50 3 (nI (nx tl tp (its tl tp 8 0 (nx tl tp a + 1) usu).1 + 0))) := Fx.wI (Or.inr (by decide))
            have hAk := hA3.mv (b := nx tl tp (its tl tp 8 0 (nx tl tp a + 1) usu).1 + 0) (by have := hA3.2.2; omega)
            have hWk := k1.Wd hW3
            refine Eq_bp (v := nI 59) dX12_readHouse_108 rfl ?_
            refine Et_ic_ne 117 dX12_readHouse_110 rfl (by exact fun z => absurd ((oNlt (fun k hk => by have := h3 k hk; omega) 59 (by omega)).mp z) (by rw [z3, z4]; exact fun q => z5 (by cases q; rfl))) ?_
            refine Eq_ic (v := nI 0) dX12_readHouse_117 rfl ?_
            refine Eq_isn dX12_readHouse_118 (by decide) ?_
            refine Eam_nl (pc' := 119) (l' := [_, _, _]) rfl rfl ?_
            refine Eq_aln dX12_readHouse_119 rfl ?_
            refine Eam_x_pu dX12_readHouse_120 rfl ?_
            refine Eq_getI dX12_readHouse_121 fl_X12_110 (ws_50 hW3) rfl (by first | exact wI_e0 | exact hw3 | exact z1 | exact hA3.2.1) ?_
            refine Eq_iln dX12_readHouse_124 rfl ?_
            refine Et_if_eq 132 dX12_readHouse_125 rfl (by rfl) ?_
            refine Eq_ic (v := nI 0) dX12_readHouse_132 rfl ?_
            first | refine Eq_add dX12_readHouse_133 ?_ | refine Eam_x_pu dX12_readHouse_133 rfl ?_
            refine Eam_x_putI dX12_readHouse_134 (fw_X12_110 rfl) (ws_50 hW3) (Or.inl rfl) ?_
            refine Eam_x_goto (tgt := 22) dX12_readHouse_137 rfl ?_
            refine Eq_iln dX12_readHouse_22 rfl ?_
            refine Et_if_eq 140 dX12_readHouse_23 rfl (by rfl) ?_
            refine Eq_aln dX12_readHouse_140 rfl ?_
            refine Eq_getI dX12_readHouse_141 fl_X12_117 (ws_50 hW3) rfl (by first | exact wI_e0 | exact hw3 | exact z1 | exact hA3.2.1) ?_
            refine Eq_ic (v := -1) dX12_readHouse_144 rfl ?_
            refine Ef_ic_ne dX12_readHouse_145 (tgt := 168) rfl (by rfl) ?_
            refine Eq_aln dX12_readHouse_148 rfl ?_
            refine Eq_W0 (N := m_X12_look) dX12_readHouse_149 lk_X12_129 mV_X12_look (r_look hWk hAk) (by decide) (ws_50 hW3) rfl (by decide) (Nat.le_of_ble_eq_true rfl) (Nat.le_of_ble_eq_true rfl) (fun vq hq1 hq2 => ?_)
            obtain ⟨rfl, hf4, hA4⟩ := hq2
            have hW4 := hf4.Wd hWk
            have hw4 : am_i hq1 50 4 = -1 := (hf4.i (by decide) (by decide)).trans hw3
            refine Eq_ic (v := -1) dX12_readHouse_152 rfl ?_
            refine Et_ic_ne 164 dX12_readHouse_153 rfl (by exact fun z => absurd ((oNn (fun k hk => by have := rsgn256 hA _ k hk; omega)).mp z) (by rw [z3]; simp only [Nat.add_zero]; rw [z3, z4]; exact fun q => nomatch q)) ?_
            refine Eq_aln dX12_readHouse_164 rfl ?_
            refine Eq_V0 (N := m_X12_bad) dX12_readHouse_165 lk_X12_126 mV_X12_bad (r_bad hW4 hA4 hw4) (by decide) (ws_50 hW4) rfl (by decide) (Nat.le_of_ble_eq_true rfl) (Nat.le_of_ble_eq_true rfl) ?_
            refine Eq_aln dX12_readHouse_168 rfl ?_
            refine Eq_getI dX12_readHouse_169 fl_X12_117 (ws_50 hW4) rfl (by first | exact wI_e0 | exact hw3 | exact z1 | exact hA3.2.1) ?_
            refine Eq_ir dX12_readHouse_172 rfl ?_
            exact ⟨hff.tr ((hf3.mono (by decide) (by decide)).tr ((k1.mono (by decide) (by decide)).tr ((hf4.mono (by decide) (by decide)).tr (Fx.wI (Or.inr (by decide)))))), by rw [z3]; simp only [Nat.add_zero]; rw [z3], ⟨_, hA4.fx (Fx.wI (A := []) (B := [(50, 4)]) (Or.inr (by decide))) (by decide)⟩⟩
        | some G =>
          intro z
          exact h96 (st.1 + 1, st.2.1, col st.2.2 st.1 G) _ _ (by rw [hcm, hq]; rfl) hW2 hff (by rw [hcm]; exact z.2.1) z.2.2 z.1
      · have hcn := cla_n (st := st) hr hm
        rw [cls_n (by rw [hcn]), hcn]
        by_cases e1 : sgn tl tp (nx tl tp a) = some 114
        · have hg : st.2.1 = true := by
            cases hgg : st.2.1 with
            | true => rfl
            | false => exact absurd ⟨e1, hgg⟩ hr
          refine Eq_iln dX12_readHouse_22 rfl ?_
          refine Ef_if_eq dX12_readHouse_23 (tgt := 140) rfl (by exact zf1) ?_
          refine Eq_aln dX12_readHouse_26 rfl ?_
          refine Eq_getI dX12_readHouse_27 fl_X12_117 (ws_50 hW) rfl (by first | exact hw | exact hD1.1 | exact hD1.2.1) ?_
          refine Eq_ic (v := -1) dX12_readHouse_30 rfl ?_
          refine Ef_ic_ne dX12_readHouse_31 (tgt := 140) rfl (by rfl) ?_
          refine Eq_aln dX12_readHouse_34 rfl ?_
          refine Eq_W0 (N := m_X12_look) dX12_readHouse_35 lk_X12_129 mV_X12_look (r_look hW hA) (by decide) (ws_50 hW) rfl (by decide) (Nat.le_of_ble_eq_true rfl) (Nat.le_of_ble_eq_true rfl) (fun vq hq1 hq2 => ?_)
          obtain ⟨rfl, hf1, hA1⟩ := hq2
          have hW1 := hf1.Wd hW
          have hD1 := hD.fx hf1 (by decide)
          have hw1 : am_i hq1 50 4 = -1 := (hf1.i (by decide) (by decide)).trans hw
          refine Eq_isn dX12_readHouse_38 (by decide) ?_
          refine Eam_nl (pc' := 39) (l' := [_, _, _]) rfl rfl ?_
          refine Eq_iln dX12_readHouse_39 rfl ?_
          refine Eq_bp (v := nI 114) dX12_readHouse_40 rfl ?_
          refine Ef_ic_ne dX12_readHouse_42 (tgt := 70) rfl (by rw [e1]; rfl) ?_
          refine Eq_aln dX12_readHouse_45 rfl ?_
          refine Eq_getI dX12_readHouse_46 fl_X12_239 (ws_50 hW1) rfl (by first | exact hw | exact hD1.1 | exact hD1.2.1) ?_
          refine Et_if_ne 70 dX12_readHouse_49 rfl (by rw [hg]; exact zf1) ?_
          refine Eq_iln dX12_readHouse_70 rfl ?_
          refine Eq_bp (v := nI 109) dX12_readHouse_71 rfl ?_
          refine Et_ic_ne 92 dX12_readHouse_73 rfl (by rw [e1]; exact fun z => absurd ((nI_eq (by omega) (by omega)).mp z) (by decide)) ?_
          refine Eq_aln dX12_readHouse_92 rfl ?_
          refine Eq_V0 (N := m_X12_bad) dX12_readHouse_93 lk_X12_126 mV_X12_bad (r_bad hW1 hA1 hw1) (by decide) (ws_50 hW1) rfl (by decide) (Nat.le_of_ble_eq_true rfl) (Nat.le_of_ble_eq_true rfl) ?_
          obtain ⟨v5, h5, y1, y2, y3⟩ := r_house_bad (l1 := some (.int (nI 1))) (l2 := some (.int (oN (sgn tl tp (nx tl tp a))))) (Fx.Wd (Fx.wI (A := []) (B := [(50, 4)]) (Or.inr (by decide))) hW1) (hA1.fx (Fx.wI (A := []) (B := [(50, 4)]) (Or.inr (by decide))) (by decide)) hx2 wI_e0
          exact ⟨v5, h5, y1, (hf1.mono (by decide) (by decide)).tr ((Fx.wI (Or.inr (by decide))).tr y2), y3⟩
        · by_cases e2 : sgn tl tp (nx tl tp a) = some 109
          · have hN : ¬ st.1 < 7 := fun z => hm ⟨e2, z⟩
            have h7 := hD.2.2.1
            refine Eq_iln dX12_readHouse_22 rfl ?_
            refine Ef_if_eq dX12_readHouse_23 (tgt := 140) rfl (by exact zf1) ?_
            refine Eq_aln dX12_readHouse_26 rfl ?_
            refine Eq_getI dX12_readHouse_27 fl_X12_117 (ws_50 hW) rfl (by first | exact hw | exact hD1.1 | exact hD1.2.1) ?_
            refine Eq_ic (v := -1) dX12_readHouse_30 rfl ?_
            refine Ef_ic_ne dX12_readHouse_31 (tgt := 140) rfl (by rfl) ?_
            refine Eq_aln dX12_readHouse_34 rfl ?_
            refine Eq_W0 (N := m_X12_look) dX12_readHouse_35 lk_X12_129 mV_X12_look (r_look hW hA) (by decide) (ws_50 hW) rfl (by decide) (Nat.le_of_ble_eq_true rfl) (Nat.le_of_ble_eq_true rfl) (fun vq hq1 hq2 => ?_)
            obtain ⟨rfl, hf1, hA1⟩ := hq2
            have hW1 := hf1.Wd hW
            have hD1 := hD.fx hf1 (by decide)
            have hw1 : am_i hq1 50 4 = -1 := (hf1.i (by decide) (by decide)).trans hw
            refine Eq_isn dX12_readHouse_38 (by decide) ?_
            refine Eam_nl (pc' := 39) (l' := [_, _, _]) rfl rfl ?_
            refine Eq_iln dX12_readHouse_39 rfl ?_
            refine Eq_bp (v := nI 114) dX12_readHouse_40 rfl ?_
            refine Et_ic_ne 70 dX12_readHouse_42 rfl (by exact fun z => e1 ((oNlt (fun k hk => by have := h2 k hk; omega) 114 (by omega)).mp z)) ?_
            refine Eq_iln dX12_readHouse_70 rfl ?_
            refine Eq_bp (v := nI 109) dX12_readHouse_71 rfl ?_
            refine Ef_ic_ne dX12_readHouse_73 (tgt := 92) rfl (by rw [e2]; rfl) ?_
            refine Eq_aln dX12_readHouse_76 rfl ?_
            refine Eq_getI dX12_readHouse_77 fl_X12_219 (ws_50 hW1) rfl (by first | exact hw | exact hD1.1 | exact hD1.2.1) ?_
            refine Eq_bp (v := nI 7) dX12_readHouse_80 rfl ?_
            refine Et_ic_ge 92 dX12_readHouse_82 rfl (by exact nI_le (by omega) (by omega)) ?_
            refine Eq_aln dX12_readHouse_92 rfl ?_
            refine Eq_V0 (N := m_X12_bad) dX12_readHouse_93 lk_X12_126 mV_X12_bad (r_bad hW1 hA1 hw1) (by decide) (ws_50 hW1) rfl (by decide) (Nat.le_of_ble_eq_true rfl) (Nat.le_of_ble_eq_true rfl) ?_
            obtain ⟨v5, h5, y1, y2, y3⟩ := r_house_bad (l1 := some (.int (nI 1))) (l2 := some (.int (oN (sgn tl tp (nx tl tp a))))) (Fx.Wd (Fx.wI (A := []) (B := [(50, 4)]) (Or.inr (by decide))) hW1) (hA1.fx (Fx.wI (A := []) (B := [(50, 4)]) (Or.inr (by decide))) (by decide)) hx2 wI_e0
            exact ⟨v5, h5, y1, (hf1.mono (by decide) (by decide)).tr ((Fx.wI (Or.inr (by decide))).tr y2), y3⟩
          · refine Eq_iln dX12_readHouse_22 rfl ?_
            refine Ef_if_eq dX12_readHouse_23 (tgt := 140) rfl (by exact zf1) ?_
            refine Eq_aln dX12_readHouse_26 rfl ?_
            refine Eq_getI dX12_readHouse_27 fl_X12_117 (ws_50 hW) rfl (by first | exact hw | exact hD1.1 | exact hD1.2.1) ?_
            refine Eq_ic (v := -1) dX12_readHouse_30 rfl ?_
            refine Ef_ic_ne dX12_readHouse_31 (tgt := 140) rfl (by rfl) ?_
            refine Eq_aln dX12_readHouse_34 rfl ?_
            refine Eq_W0 (N := m_X12_look) dX12_readHouse_35 lk_X12_129 mV_X12_look (r_look hW hA) (by decide) (ws_50 hW) rfl (by decide) (Nat.le_of_ble_eq_true rfl) (Nat.le_of_ble_eq_true rfl) (fun vq hq1 hq2 => ?_)
            obtain ⟨rfl, hf1, hA1⟩ := hq2
            have hW1 := hf1.Wd hW
            have hD1 := hD.fx hf1 (by decide)
            have hw1 : am_i hq1 50 4 = -1 := (hf1.i (by decide) (by decide)).trans hw
            refine Eq_isn dX12_readHouse_38 (by decide) ?_
            refine Eam_nl (pc' := 39) (l' := [_, _, _]) rfl rfl ?_
            refine Eq_iln dX12_readHouse_39 rfl ?_
            refine Eq_bp (v := nI 114) dX12_readHouse_40 rfl ?_
            refine Et_ic_ne 70 dX12_readHouse_42 rfl (by exact fun z => e1 ((oNlt (fun k hk => by have := h2 k hk; omega) 114 (by omega)).mp z)) ?_
            refine Eq_iln dX12_readHouse_70 rfl ?_
            refine Eq_bp (v := nI 109) dX12_readHouse_71 rfl ?_
            refine Et_ic_ne 92 dX12_readHouse_73 rfl (by exact fun z => e2 ((oNlt (fun k hk => by have := h2 k hk; omega) 109 (by omega)).mp z)) ?_
            refine Eq_aln dX12_readHouse_92 rfl ?_
            refine Eq_V0 (N := m_X12_bad) dX12_readHouse_93 lk_X12_126 mV_X12_bad (r_bad hW1 hA1 hw1) (by decide) (ws_50 hW1) rfl (by decide) (Nat.le_of_ble_eq_true rfl) (Nat.le_of_ble_eq_true rfl) ?_
            obtain ⟨v5, h5, y1, y2, y3⟩ := r_house_bad (l1 := some (.int (nI 1))) (l2 := some (.int (oN (sgn tl tp (nx tl tp a))))) (Fx.Wd (Fx.wI (A := []) (B := [(50, 4)]) (Or.inr (by decide))) hW1) (hA1.fx (Fx.wI (A := []) (B := [(50, 4)]) (Or.inr (by decide))) (by decide)) hx2 wI_e0
            exact ⟨v5, h5, y1, (hf1.mono (by decide) (by decide)).tr ((Fx.wI (Or.inr (by decide))).tr y2), y3⟩
set_option maxHeartbeats 2000000 in
theorem r_readHouse {h : am_H} (hW : Wd h) {tl : Nat} {tp : Nat → Nat} {a : Nat} (hA : RA h tl tp a)  : am_D 4 m_X12_readHouse [.ref 50] h (fun w h2 => Fx [61] [(50, 3), (50, 4), (50, 18), (50, 19)] h h2 ∧ RHQ tl tp (cls tl tp 161 0 (0, false, fun _ _ => 0)) w h2) := by
  have k1 : Fx [61] [(50, 3), (50, 4), (50, 18), (50, 19)] h (am_wI (am_wI (am_wI (am_wI h 50 3 (nI 0)) 50 4 (-1)) 50 18 (nI 0)) 50 19 (nI 0)) := (Fx.wI (Or.inr (by decide))).tr ((Fx.wI (Or.inr (by decide))).tr ((Fx.wI (Or.inr (by decide))).tr (Fx.wI (Or.inr (by decide)))))
  have k0 : Fx [] [(50, 4), (50, 18), (50, 19)] (am_wI h 50 3 (nI 0)) (am_wI (am_wI (am_wI (am_wI h 50 3 (nI 0)) 50 4 (-1)) 50 18 (nI 0)) 50 19 (nI 0)) := (Fx.wI (Or.inr (by decide))).tr ((Fx.wI (Or.inr (by decide))).tr (Fx.wI (Or.inr (by decide))))
  have hA1 := (hA.mv (b := 0) (by omega)).fx k0 (by decide)
  have htl := hA.1.2.1
  refine Eq_aln dX12_readHouse_0 rfl ?_
  refine Eq_ic (v := nI 0) dX12_readHouse_1 rfl ?_
  refine Eam_x_putI dX12_readHouse_2 (fw_X12_110 rfl) (ws_50 hW) (Or.inl rfl) ?_
  refine Eq_aln dX12_readHouse_5 rfl ?_
  refine Eq_ic (v := -1) dX12_readHouse_6 rfl ?_
  refine Eam_x_putI dX12_readHouse_7 (fw_X12_117 rfl) (ws_50 hW) (Or.inl rfl) ?_
  refine Eq_aln dX12_readHouse_10 rfl ?_
  refine Eq_ic (v := nI 0) dX12_readHouse_11 rfl ?_
  refine Eam_x_putI dX12_readHouse_12 (fw_X12_219 rfl) (ws_50 hW) (Or.inl rfl) ?_
  refine Eq_aln dX12_readHouse_15 rfl ?_
  refine Eq_ic (v := nI 0) dX12_readHouse_16 rfl ?_
  refine Eam_x_putI dX12_readHouse_17 (fw_X12_239 rfl) (ws_50 hW) (Or.inr ⟨rfl, by first | exact Or.inl rfl | exact Or.inr rfl | assumption⟩) ?_
  refine Eq_ic (v := nI 1) dX12_readHouse_20 rfl ?_
  refine Eq_isn dX12_readHouse_21 (by decide) ?_
  refine Eam_nl (pc' := 22) (l' := [_, _, _]) rfl rfl ?_
  obtain ⟨v5, h5, z1, z2, z3⟩ := r_house_lp 161 0 (0, false, fun _ _ => 0) _ (by omega) (by omega) (k1.Wd hW) hA1 ⟨rfl, rfl, by omega, fun i m _ hm => by omega⟩ rfl none
  exact ⟨v5, h5, z1, k1.tr z2, z3⟩
