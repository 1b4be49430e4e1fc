/-! public calls that only ask -/
theorem rg_gt {x : Int32} {k : Nat} (hk : k + 1 < 2 ^ 31) (h : nI (k + 1) ≤ x) : ¬ x ≤ nI k := by
  rw [Int32.le_iff_toInt_le, nI_toInt (by omega)] at *
  omega
theorem rg_gt2 {x : Int32} {k : Nat} (hk : k + 1 < 2 ^ 31) (h : nI (k + 1) ≤ x) : nI k < x := by
  rw [Int32.le_iff_toInt_le, nI_toInt (by omega)] at h
  rw [Int32.lt_iff_toInt_lt, nI_toInt (by omega)]
  omega
theorem rg_0 {x : Int32} (h : ¬ x < 0) : 0 ≤ x := by
  rw [Int32.lt_iff_toInt_lt] at h
  rw [Int32.le_iff_toInt_le]
  omega
theorem rg_ge {x : Int32} {a b : Nat} (hab : a ≤ b) (hb : b < 2 ^ 31) (h : nI b ≤ x) : nI a ≤ x := by
  rw [Int32.le_iff_toInt_le, nI_toInt (by omega)] at *
  omega
theorem dk_sub (n : Nat) : nI n - nI 1 = dk n := by
  cases n with
  | zero => decide +kernel
  | succ n => rw [pk_sub (by omega)]; rfl
theorem dk_toInt {n : Nat} (h : n < 2 ^ 31) : (dk n).toInt = (n : Int) - 1 := by
  cases n with
  | zero => decide +kernel
  | succ n => rw [show dk (n + 1) = nI n from rfl, nI_toInt (by omega)]; omega
/-- whether an int is a number below n, as a number -/
abbrev isr (x : Int32) (n : Nat) : Nat := if (rg x n).isSome = true then 1 else 0
theorem isr_t {x : Int32} {n : Nat} (h : 0 ≤ x.toInt ∧ x.toInt < n) : isr x n = 1 := by simp [isr, rg, h]
theorem isr_f {x : Int32} {n : Nat} (h : ¬ (0 ≤ x.toInt ∧ x.toInt < n)) : isr x n = 0 := by unfold isr rg; rw [if_neg h]; rfl
set_option maxHeartbeats 2000000 in
theorem r_inm {h : am_H} {x : Int32} {n : Nat} (hn : n < 2 ^ 31) : am_C 0 m_X12_in [.int x, .int (nI 0), .int (dk n)] h (some (.int (nI (isr x n))), h) := by
  have hd := dk_toInt hn
  have h0 : (0 : Int32).toInt = 0 := by decide +kernel
  by_cases h1 : x < 0
  · rw [isr_f (by rw [Int32.lt_iff_toInt_lt, h0] at h1; omega)]
    refine q_iln dX12_in_0 rfl ?_
    refine q_iln dX12_in_1 rfl ?_
    refine t_ic_lt 14 dX12_in_2 rfl (by exact h1) ?_
    refine q_ic (v := nI 0) dX12_in_14 rfl ?_
    first | refine q_zrn dX12_in_15 rfl (by first | omega | exact b2_le) ?_ | refine q_zr dX12_in_15 rfl (by first | exact Or.inl rfl | exact Or.inr rfl | assumption) ?_
    rfl
  · by_cases h2 : dk n < x
    · rw [isr_f (by rw [Int32.lt_iff_toInt_lt, hd] at h2; omega)]
      refine q_iln dX12_in_0 rfl ?_
      refine q_iln dX12_in_1 rfl ?_
      refine f_ic_lt dX12_in_2 (tgt := 14) rfl (by exact h1) ?_
      refine q_iln dX12_in_5 rfl ?_
      refine q_iln dX12_in_6 rfl ?_
      refine t_ic_gt 14 dX12_in_7 rfl (by exact h2) ?_
      refine q_ic (v := nI 0) dX12_in_14 rfl ?_
      first | refine q_zrn dX12_in_15 rfl (by first | omega | exact b2_le) ?_ | refine q_zr dX12_in_15 rfl (by first | exact Or.inl rfl | exact Or.inr rfl | assumption) ?_
      rfl
    · rw [isr_t (by rw [Int32.lt_iff_toInt_lt, hd] at h2; rw [Int32.lt_iff_toInt_lt, h0] at h1; omega)]
      refine q_iln dX12_in_0 rfl ?_
      refine q_iln dX12_in_1 rfl ?_
      refine f_ic_lt dX12_in_2 (tgt := 14) rfl (by exact h1) ?_
      refine q_iln dX12_in_5 rfl ?_
      refine q_iln dX12_in_6 rfl ?_
      refine f_ic_gt dX12_in_7 (tgt := 14) rfl (by exact h2) ?_
      refine q_ic (v := nI 1) dX12_in_10 rfl ?_
      refine am_x_goto (tgt := 15) dX12_in_11 rfl ?_
      first | refine q_zrn dX12_in_15 rfl (by first | omega | exact b2_le) ?_ | refine q_zr dX12_in_15 rfl (by first | exact Or.inl rfl | exact Or.inr rfl | assumption) ?_
      rfl
set_option maxHeartbeats 2000000 in
theorem r_inr {h : am_H} {x : Int32} {k : Nat} (hn : k + 1 < 2 ^ 31) : am_C 0 m_X12_in [.int x, .int (nI 0), .int (nI k)] h (some (.int (nI (isr x (k + 1)))), h) := by
  exact r_inm hn
set_option maxHeartbeats 2000000 in
theorem r_isMember {h : am_H} {n : Nat} {g : Bool} {F : Nat → Nat → Nat} {S T : Nat → Nat} (hW : Wd h) (hR : RB h n g F S T) {x : Int32} : am_C 1 m_X12_isMember [.ref 50, .int x] h (some (.int (nI (isr x n))), h) := by
  obtain ⟨hn, hg, h7, hF, hB, hS, hT⟩ := id hR
  refine q_iln dX12_isMember_0 rfl ?_
  refine q_ic (v := nI 0) dX12_isMember_1 rfl ?_
  refine q_aln dX12_isMember_2 rfl ?_
  refine q_getI dX12_isMember_3 fl_X12_252 (ws_50 hW) rfl (by first | assumption | rfl) ?_
  refine q_ic (v := nI 1) dX12_isMember_6 rfl ?_
  refine am_x_pu dX12_isMember_7 rfl ?_
  rw [dk_sub]
  refine q_S3 (N := m_X12_in) dX12_isMember_8 lk_X12_215 mS_X12_in (r_inm (by omega)) (by decide) (Nat.le_of_ble_eq_true rfl) (Nat.le_of_ble_eq_true rfl) ?_
  first | refine q_zrn dX12_isMember_11 rfl (by first | omega | exact b2_le) ?_ | refine q_zr dX12_isMember_11 rfl (by first | exact Or.inl rfl | exact Or.inr rfl | assumption) ?_
  rfl
def oR (x : Option Nat) (f : Nat → Nat) : Int32 := oN (x.map f)
theorem isr_n {x : Int32} {n : Nat} (h : rg x n = none) : isr x n = 0 := by simp [isr, h]
theorem isr_s {x : Int32} {n w : Nat} (h : rg x n = some w) : isr x n = 1 := by simp [isr, h]
theorem zf1 : ¬ nI 1 = 0 := by decide +kernel
set_option maxHeartbeats 2000000 in
theorem r_seat {h : am_H} {n : Nat} {g : Bool} {F : Nat → Nat → Nat} {S T : Nat → Nat} (hW : Wd h) (hR : RB h n g F S T) {x : Int32} : am_C 1 m_X12_seat [.ref 50, .int x] h (some (.int (oN ((rg x n).map S))), h) := by
  obtain ⟨hn, hg, h7, hF, hB, hS, hT⟩ := id hR
  cases hr : rg x n with
  | none =>
    refine q_iln dX12_seat_0 rfl ?_
    refine q_ic (v := nI 0) dX12_seat_1 rfl ?_
    refine q_aln dX12_seat_2 rfl ?_
    refine q_getI dX12_seat_3 fl_X12_252 (ws_50 hW) rfl (by first | assumption | rfl) ?_
    refine q_ic (v := nI 1) dX12_seat_6 rfl ?_
    refine am_x_pu dX12_seat_7 rfl ?_
    rw [dk_sub]
    refine q_S3 (N := m_X12_in) dX12_seat_8 lk_X12_215 mS_X12_in ((by have z := r_inm (h := h) (x := x) (n := n) (by omega); rw [isr_n hr] at z; exact z)) (by decide) (Nat.le_of_ble_eq_true rfl) (Nat.le_of_ble_eq_true rfl) ?_
    refine t_if_eq 23 dX12_seat_11 rfl (by rfl) ?_
    refine q_ic (v := -1) dX12_seat_23 rfl ?_
    refine q_ir dX12_seat_24 rfl ?_
    rfl
  | some w =>
    have hi := isr_s hr
    obtain ⟨rfl, hw⟩ := rg_some (by omega) hr
    refine q_iln dX12_seat_0 rfl ?_
    refine q_ic (v := nI 0) dX12_seat_1 rfl ?_
    refine q_aln dX12_seat_2 rfl ?_
    refine q_getI dX12_seat_3 fl_X12_252 (ws_50 hW) rfl (by first | assumption | rfl) ?_
    refine q_ic (v := nI 1) dX12_seat_6 rfl ?_
    refine am_x_pu dX12_seat_7 rfl ?_
    rw [dk_sub]
    refine q_S3 (N := m_X12_in) dX12_seat_8 lk_X12_215 mS_X12_in ((by have z := r_inm (h := h) (x := nI w) (n := n) (by omega); rw [hi] at z; exact z)) (by decide) (Nat.le_of_ble_eq_true rfl) (Nat.le_of_ble_eq_true rfl) ?_
    refine f_if_eq dX12_seat_11 (tgt := 23) rfl (by exact zf1) ?_
    refine q_aln dX12_seat_14 rfl ?_
    refine q_getR dX12_seat_15 fl_X12_46 (ws_50 hW) rfl (wp_50_23 hW) ?_
    refine q_iln dX12_seat_18 rfl ?_
    refine q_ald dX12_seat_19 (ws_63 hW) (by omega) (by omega) (hS _ (by omega)).1 ?_
    refine am_x_goto (tgt := 24) dX12_seat_20 rfl ?_
    refine q_ir dX12_seat_24 rfl ?_
    rfl
set_option maxHeartbeats 2000000 in
theorem c_memberOnX11 {h : am_H} {n : Nat} {S T : Nat → Nat} (hW : Wd h) (hS : SB 11 12 13 h n S T) {x : Int32} : am_C 0 m_X6_memberOn [.ref 11, .int x] h (some (.int (oN ((rg x n).map S))), h) := by
  obtain ⟨hn, h7, hA, hT⟩ := id hS
  cases hr : rg x (n) with
  | none =>
    rcases rg_none (by omega) hr with hx | ⟨hx, hy⟩
    · refine q_iln dX6_memberOn_0 rfl ?_
      refine t_if_lt 27 dX6_memberOn_1 rfl (by exact hx) ?_
      refine q_ic (v := -1) dX6_memberOn_27 rfl ?_
      refine q_ir dX6_memberOn_28 rfl ?_
      rfl
    · refine q_iln dX6_memberOn_0 rfl ?_
      refine f_if_lt dX6_memberOn_1 (tgt := 27) rfl (by exact hx) ?_
      refine q_iln dX6_memberOn_4 rfl ?_
      refine q_aln dX6_memberOn_5 rfl ?_
      refine q_getI dX6_memberOn_6 fl_X6_9 (ws_11 hW) rfl (by first | assumption | rfl) ?_
      refine t_ic_ge 27 dX6_memberOn_9 rfl (by exact hy) ?_
      refine q_ic (v := -1) dX6_memberOn_27 rfl ?_
      refine q_ir dX6_memberOn_28 rfl ?_
      rfl
  | some w =>
    obtain ⟨rfl, hw⟩ := rg_some (by omega) hr
    exact c_memberOn11 hW hS hw
set_option maxHeartbeats 2000000 in
theorem c_seatOfX11 {h : am_H} {n : Nat} {S T : Nat → Nat} (hW : Wd h) (hS : SB 11 12 13 h n S T) {x : Int32} : am_C 0 m_X6_seatOf [.ref 11, .int x] h (some (.int (oN ((rg x n).map T))), h) := by
  obtain ⟨hn, h7, hA, hT⟩ := id hS
  cases hr : rg x (n) with
  | none =>
    rcases rg_none (by omega) hr with hx | ⟨hx, hy⟩
    · refine q_iln dX6_seatOf_0 rfl ?_
      refine t_if_lt 27 dX6_seatOf_1 rfl (by exact hx) ?_
      refine q_ic (v := -1) dX6_seatOf_27 rfl ?_
      refine q_ir dX6_seatOf_28 rfl ?_
      rfl
    · refine q_iln dX6_seatOf_0 rfl ?_
      refine f_if_lt dX6_seatOf_1 (tgt := 27) rfl (by exact hx) ?_
      refine q_iln dX6_seatOf_4 rfl ?_
      refine q_aln dX6_seatOf_5 rfl ?_
      refine q_getI dX6_seatOf_6 fl_X6_9 (ws_11 hW) rfl (by first | assumption | rfl) ?_
      refine t_ic_ge 27 dX6_seatOf_9 rfl (by exact hy) ?_
      refine q_ic (v := -1) dX6_seatOf_27 rfl ?_
      refine q_ir dX6_seatOf_28 rfl ?_
      rfl
  | some w =>
    obtain ⟨rfl, hw⟩ := rg_some (by omega) hr
    exact c_seatOf11 hW hS hw
set_option maxHeartbeats 2000000 in
theorem c_shasX11 {h : am_H} {n : Nat} {S T : Nat → Nat} (hW : Wd h) (hS : SB 11 12 13 h n S T) {x : Int32} : am_C 0 m_X6_has [.ref 11, .int x] h (some (.int (nI (isr x n))), h) := by
  obtain ⟨hn, h7, hA, hT⟩ := id hS
  cases hr : rg x (n) with
  | none =>
    rcases rg_none (by omega) hr with hx | ⟨hx, hy⟩
    · rw [isr_n hr]
      refine q_iln dX6_has_0 rfl ?_
      refine t_if_lt 22 dX6_has_1 rfl (by exact hx) ?_
      refine q_ic (v := nI 0) dX6_has_22 rfl ?_
      first | refine q_zrn dX6_has_23 rfl (by first | omega | exact b2_le) ?_ | refine q_zr dX6_has_23 rfl (by first | exact Or.inl rfl | exact Or.inr rfl | assumption) ?_
      rfl
    · rw [isr_n hr]
      refine q_iln dX6_has_0 rfl ?_
      refine f_if_lt dX6_has_1 (tgt := 22) rfl (by exact hx) ?_
      refine q_iln dX6_has_4 rfl ?_
      refine q_aln dX6_has_5 rfl ?_
      refine q_getI dX6_has_6 fl_X6_9 (ws_11 hW) rfl (by first | assumption | rfl) ?_
      refine t_ic_ge 22 dX6_has_9 rfl (by exact hy) ?_
      refine q_ic (v := nI 0) dX6_has_22 rfl ?_
      first | refine q_zrn dX6_has_23 rfl (by first | omega | exact b2_le) ?_ | refine q_zr dX6_has_23 rfl (by first | exact Or.inl rfl | exact Or.inr rfl | assumption) ?_
      rfl
  | some w =>
    obtain ⟨rfl, hw⟩ := rg_some (by omega) hr
    rw [isr_s hr]
    exact c_shas11 hW hS hw
set_option maxHeartbeats 2000000 in
theorem c_hasX {h : am_H} {n : Nat} {g : Bool} {F : Nat → Nat → Nat} (hW : Wd h) (hM : MB h n g F) {x : Int32} : am_C 0 m_X5_has [.ref 9, .int x] h (some (.int (nI (isr x n))), h) := by
  obtain ⟨hn, hg, h7, hF, hB⟩ := id hM
  cases hr : rg x (n) with
  | none =>
    rcases rg_none (by omega) hr with hx | ⟨hx, hy⟩
    · rw [isr_n hr]
      refine q_iln dX5_has_0 rfl ?_
      refine t_if_lt 22 dX5_has_1 rfl (by exact hx) ?_
      refine q_ic (v := nI 0) dX5_has_22 rfl ?_
      first | refine q_zrn dX5_has_23 rfl (by first | omega | exact b2_le) ?_ | refine q_zr dX5_has_23 rfl (by first | exact Or.inl rfl | exact Or.inr rfl | assumption) ?_
      rfl
    · rw [isr_n hr]
      refine q_iln dX5_has_0 rfl ?_
      refine f_if_lt dX5_has_1 (tgt := 22) rfl (by exact hx) ?_
      refine q_iln dX5_has_4 rfl ?_
      refine q_aln dX5_has_5 rfl ?_
      refine q_getI dX5_has_6 fl_X5_9 (ws_9 hW) rfl (by first | assumption | rfl) ?_
      refine t_ic_ge 22 dX5_has_9 rfl (by exact hy) ?_
      refine q_ic (v := nI 0) dX5_has_22 rfl ?_
      first | refine q_zrn dX5_has_23 rfl (by first | omega | exact b2_le) ?_ | refine q_zr dX5_has_23 rfl (by first | exact Or.inl rfl | exact Or.inr rfl | assumption) ?_
      rfl
  | some w =>
    obtain ⟨rfl, hw⟩ := rg_some (by omega) hr
    rw [isr_s hr]
    exact c_has hW hM hw
/-- whether an int is one who lives -/
def lvs (n : Nat) (F : Nat → Nat → Nat) (x : Int32) : Nat := match rg x n with
  | none => 0
  | some m => if F 3 m ≠ 1 then 1 else 0
set_option maxHeartbeats 2000000 in
theorem c_livesX {h : am_H} {n : Nat} {g : Bool} {F : Nat → Nat → Nat} (hW : Wd h) (hM : MB h n g F) {x : Int32} : am_C 0 m_X5_lives [.ref 9, .int x] h (some (.int (nI (lvs n F x))), h) := by
  obtain ⟨hn, hg, h7, hF, hB⟩ := id hM
  unfold lvs
  cases hr : rg x (n) with
  | none =>
    rcases rg_none (by omega) hr with hx | ⟨hx, hy⟩
    · refine q_iln dX5_lives_0 rfl ?_
      refine t_if_lt 22 dX5_lives_1 rfl (by exact hx) ?_
      refine q_ic (v := nI 0) dX5_lives_22 rfl ?_
      refine q_isn dX5_lives_23 (by decide) ?_
      refine q_iln dX5_lives_24 rfl ?_
      first | refine n_if_eq 45 dX5_lives_25 rfl (by omega) (fun c25 => ?_) (fun c25 => ?_) | refine b_if_eq 45 dX5_lives_25 rfl (fun c25 => ?_) (fun c25 => ?_)
      · first
        | (exfalso; omega)
        | (refine q_ic (v := nI 0) dX5_lives_45 rfl ?_
           first | refine q_zrn dX5_lives_46 rfl (by first | omega | exact b2_le) ?_ | refine q_zr dX5_lives_46 rfl (by first | exact Or.inl rfl | exact Or.inr rfl | assumption) ?_
           rfl)
      · first
        | (exfalso; omega)
        | (refine q_aln dX5_lives_28 rfl ?_
           refine q_getR dX5_lives_29 fl_X5_19 (ws_9 hW) rfl (wp_9_2 hW) ?_
           refine q_bp (v := nI 21) dX5_lives_32 rfl ?_
           refine q_iln dX5_lives_34 rfl ?_
           first | refine q_add dX5_lives_35 ?_ | refine am_x_pu dX5_lives_35 rfl ?_
           refine q_ald dX5_lives_36 (ws_10 hW) (by omega) (by omega) (by first | assumption | rfl) ?_
           refine q_ic (v := nI 1) dX5_lives_37 rfl ?_
           first | refine n_ic_eq 45 dX5_lives_38 rfl (by omega) (by omega) (fun c38 => ?_) (fun c38 => ?_) | refine b_ic_eq 45 dX5_lives_38 rfl (fun c38 => ?_) (fun c38 => ?_)
           · first
             | (exfalso; omega)
             | (refine q_ic (v := nI 0) dX5_lives_45 rfl ?_
                first | refine q_zrn dX5_lives_46 rfl (by first | omega | exact b2_le) ?_ | refine q_zr dX5_lives_46 rfl (by first | exact Or.inl rfl | exact Or.inr rfl | assumption) ?_
                rfl)
           · first
             | (exfalso; omega)
             | (refine q_ic (v := nI 1) dX5_lives_41 rfl ?_
                refine am_x_goto (tgt := 46) dX5_lives_42 rfl ?_
                first | refine q_zrn dX5_lives_46 rfl (by first | omega | exact b2_le) ?_ | refine q_zr dX5_lives_46 rfl (by first | exact Or.inl rfl | exact Or.inr rfl | assumption) ?_
                rfl))
    · refine q_iln dX5_lives_0 rfl ?_
      refine f_if_lt dX5_lives_1 (tgt := 22) rfl (by exact hx) ?_
      refine q_iln dX5_lives_4 rfl ?_
      refine q_aln dX5_lives_5 rfl ?_
      refine q_getI dX5_lives_6 fl_X5_9 (ws_9 hW) rfl (by first | assumption | rfl) ?_
      refine t_ic_ge 22 dX5_lives_9 rfl (by exact hy) ?_
      refine q_ic (v := nI 0) dX5_lives_22 rfl ?_
      refine q_isn dX5_lives_23 (by decide) ?_
      refine q_iln dX5_lives_24 rfl ?_
      first | refine n_if_eq 45 dX5_lives_25 rfl (by omega) (fun c25 => ?_) (fun c25 => ?_) | refine b_if_eq 45 dX5_lives_25 rfl (fun c25 => ?_) (fun c25 => ?_)
      · first
        | (exfalso; omega)
        | (refine q_ic (v := nI 0) dX5_lives_45 rfl ?_
           first | refine q_zrn dX5_lives_46 rfl (by first | omega | exact b2_le) ?_ | refine q_zr dX5_lives_46 rfl (by first | exact Or.inl rfl | exact Or.inr rfl | assumption) ?_
           rfl)
      · first
        | (exfalso; omega)
        | (refine q_aln dX5_lives_28 rfl ?_
           refine q_getR dX5_lives_29 fl_X5_19 (ws_9 hW) rfl (wp_9_2 hW) ?_
           refine q_bp (v := nI 21) dX5_lives_32 rfl ?_
           refine q_iln dX5_lives_34 rfl ?_
           first | refine q_add dX5_lives_35 ?_ | refine am_x_pu dX5_lives_35 rfl ?_
           refine q_ald dX5_lives_36 (ws_10 hW) (by omega) (by omega) (by first | assumption | rfl) ?_
           refine q_ic (v := nI 1) dX5_lives_37 rfl ?_
           first | refine n_ic_eq 45 dX5_lives_38 rfl (by omega) (by omega) (fun c38 => ?_) (fun c38 => ?_) | refine b_ic_eq 45 dX5_lives_38 rfl (fun c38 => ?_) (fun c38 => ?_)
           · first
             | (exfalso; omega)
             | (refine q_ic (v := nI 0) dX5_lives_45 rfl ?_
                first | refine q_zrn dX5_lives_46 rfl (by first | omega | exact b2_le) ?_ | refine q_zr dX5_lives_46 rfl (by first | exact Or.inl rfl | exact Or.inr rfl | assumption) ?_
                rfl)
           · first
             | (exfalso; omega)
             | (refine q_ic (v := nI 1) dX5_lives_41 rfl ?_
                refine am_x_goto (tgt := 46) dX5_lives_42 rfl ?_
                first | refine q_zrn dX5_lives_46 rfl (by first | omega | exact b2_le) ?_ | refine q_zr dX5_lives_46 rfl (by first | exact Or.inl rfl | exact Or.inr rfl | assumption) ?_
                rfl))
  | some w =>
    obtain ⟨rfl, hw⟩ := rg_some (by omega) hr
    exact c_lives hW hM hw
set_option maxHeartbeats 2000000 in
theorem c_seat {h : am_H} {n : Nat} {g : Bool} {F : Nat → Nat → Nat} (hW : Wd h) (hM : MB h n g F) {S T : Nat → Nat} (hS : SB 11 12 13 h n S T) {x : Int32} : am_C 1 m_X11_seat [.ref 0, .int x] h (some (.int (oN ((rg x n).map S))), h) := by
  refine q_aln dX11_seat_0 rfl ?_
  refine q_getR dX11_seat_1 fl_X11_55 (ws_0 hW) rfl (wp_0_7 hW) ?_
  refine q_iln dX11_seat_4 rfl ?_
  refine q_V1 (N := m_X6_memberOn) dX11_seat_5 lk_X11_184 mV_X6_memberOn (c_memberOnX11 hW hS) (by decide) (ws_11 hW) rfl (by decide) (Nat.le_of_ble_eq_true rfl) (Nat.le_of_ble_eq_true rfl) ?_
  refine q_ir dX11_seat_8 rfl ?_
  rfl
def tlV (n : Nat) (g : Bool) (F : Nat → Nat → Nat) (S T : Nat → Nat) (x : Int32) : Int32 := if n = 0 then -1 else match rg x 2 with
  | none => -1
  | some w => if w = 0 then nI (hct n g F S T) else nI (yct n g F S T)
theorem tlV_0 {n : Nat} {g : Bool} {F : Nat → Nat → Nat} {S T : Nat → Nat} {x : Int32} (h : n = 0) : tlV n g F S T x = -1 := if_pos h
theorem tlV_n {n : Nat} {g : Bool} {F : Nat → Nat → Nat} {S T : Nat → Nat} {x : Int32} (h : rg x 2 = none) : tlV n g F S T x = -1 := by
  unfold tlV
  rw [h]
  split <;> rfl
theorem tlV_s {n : Nat} {g : Bool} {F : Nat → Nat → Nat} {S T : Nat → Nat} {x : Int32} {w : Nat} (h0 : ¬ n = 0) (h : rg x 2 = some w) : tlV n g F S T x = if w = 0 then nI (hct n g F S T) else nI (yct n g F S T) := by
  unfold tlV
  rw [h, if_neg h0]
theorem o_i2 {a b : Int32} {h : am_H} (e : a = b) : ((some (.int a), h) : am_O) = (some (.int b), h) := by rw [e]
theorem o_l2 {a b : Int64} {h : am_H} (e : a = b) : ((some (.long a), h) : am_O) = (some (.long b), h) := by rw [e]
set_option maxHeartbeats 2000000 in
theorem c_tally {h : am_H} {n : Nat} {g : Bool} {F : Nat → Nat → Nat} (hW : Wd h) (hM : MB h n g F) {S T : Nat → Nat} (hS : SB 11 12 13 h n S T) {x : Int32} : am_C 5 m_X11_tally [.ref 0, .int x] h (some (.int (tlV n g F S T x)), h) := by
  obtain ⟨hn, hg, h7, hF, hB⟩ := id hM
  by_cases h0 : n = 0
  · rw [tlV_0 h0]
    refine q_aln dX11_tally_0 rfl ?_
    refine q_getR dX11_tally_1 fl_X11_48 (ws_0 hW) rfl (wp_0_6 hW) ?_
    refine q_getI dX11_tally_4 fl_X11_146 (ws_9 hW) rfl (by first | assumption | rfl) ?_
    refine t_if_eq 19 dX11_tally_7 rfl (by rw [h0]; rfl) ?_
    refine q_ic (v := -1) dX11_tally_19 rfl ?_
    refine q_ir dX11_tally_20 rfl ?_
    rfl
  · cases hr : rg x (2) with
    | none =>
      rcases rg_none (by omega) hr with hx | ⟨hx, hy⟩
      · rw [tlV_n hr]
        refine q_aln dX11_tally_0 rfl ?_
        refine q_getR dX11_tally_1 fl_X11_48 (ws_0 hW) rfl (wp_0_6 hW) ?_
        refine q_getI dX11_tally_4 fl_X11_146 (ws_9 hW) rfl (by first | assumption | rfl) ?_
        refine f_if_eq dX11_tally_7 (tgt := 19) rfl (by exact nI_ne0 (by omega) (by omega)) ?_
        refine q_iln dX11_tally_10 rfl ?_
        refine t_if_lt 19 dX11_tally_11 rfl (by exact hx) ?_
        refine q_ic (v := -1) dX11_tally_19 rfl ?_
        refine q_ir dX11_tally_20 rfl ?_
        rfl
      · rw [tlV_n hr]
        refine q_aln dX11_tally_0 rfl ?_
        refine q_getR dX11_tally_1 fl_X11_48 (ws_0 hW) rfl (wp_0_6 hW) ?_
        refine q_getI dX11_tally_4 fl_X11_146 (ws_9 hW) rfl (by first | assumption | rfl) ?_
        refine f_if_eq dX11_tally_7 (tgt := 19) rfl (by exact nI_ne0 (by omega) (by omega)) ?_
        refine q_iln dX11_tally_10 rfl ?_
        refine f_if_lt dX11_tally_11 (tgt := 19) rfl (by exact hx) ?_
        refine q_iln dX11_tally_14 rfl ?_
        refine q_ic (v := nI 1) dX11_tally_15 rfl ?_
        refine f_ic_le dX11_tally_16 (tgt := 21) rfl (by exact rg_gt (by omega) hy) ?_
        refine q_ic (v := -1) dX11_tally_19 rfl ?_
        refine q_ir dX11_tally_20 rfl ?_
        rfl
    | some w =>
      obtain ⟨rfl, hw⟩ := rg_some (by omega) hr
      rw [tlV_s h0 hr]
      refine q_aln dX11_tally_0 rfl ?_
      refine q_getR dX11_tally_1 fl_X11_48 (ws_0 hW) rfl (wp_0_6 hW) ?_
      refine q_getI dX11_tally_4 fl_X11_146 (ws_9 hW) rfl (by first | assumption | rfl) ?_
      refine f_if_eq dX11_tally_7 (tgt := 19) rfl (by exact nI_ne0 (by omega) (by omega)) ?_
      refine q_iln dX11_tally_10 rfl ?_
      refine n_if_lt (tgt := 19) dX11_tally_11 rfl (by omega) ?_
      refine q_iln dX11_tally_14 rfl ?_
      refine q_ic (v := nI 1) dX11_tally_15 rfl ?_
      refine t_ic_le 21 dX11_tally_16 rfl (by exact nI_le (by omega) (by omega)) ?_
      refine q_iln dX11_tally_21 rfl ?_
      first | refine n_if_ne 35 dX11_tally_22 rfl (by omega) (fun c22 => ?_) (fun c22 => ?_) | refine b_if_ne 35 dX11_tally_22 rfl (fun c22 => ?_) (fun c22 => ?_)
      · first
        | (exfalso; omega)
        | (refine q_aln dX11_tally_35 rfl ?_
           refine q_getR dX11_tally_36 fl_X11_73 (ws_0 hW) rfl (wp_0_9 hW) ?_
           refine q_V0 (N := m_X10_plainYes) dX11_tally_39 lk_X11_221 mV_X10_plainYes (c_plainYes hW hM hS) (by decide) (ws_16 hW) rfl (by decide) (Nat.le_of_ble_eq_true rfl) (Nat.le_of_ble_eq_true rfl) ?_
           refine q_ir dX11_tally_42 rfl ?_
           (apply o_i2; first | rw [if_pos (by omega)] | rw [if_neg (by omega)]))
      · first
        | (exfalso; omega)
        | (refine q_aln dX11_tally_25 rfl ?_
           refine q_getR dX11_tally_26 fl_X11_73 (ws_0 hW) rfl (wp_0_9 hW) ?_
           refine q_V0 (N := m_X10_heard) dX11_tally_29 lk_X11_218 mV_X10_heard (c_heard hW hM hS) (by decide) (ws_16 hW) rfl (by decide) (Nat.le_of_ble_eq_true rfl) (Nat.le_of_ble_eq_true rfl) ?_
           refine am_x_goto (tgt := 42) dX11_tally_32 rfl ?_
           refine q_ir dX11_tally_42 rfl ?_
           (apply o_i2; first | rw [if_pos (by omega)] | rw [if_neg (by omega)]))
set_option maxHeartbeats 2000000 in
theorem r_tally {h : am_H} {n : Nat} {g : Bool} {F : Nat → Nat → Nat} {S T : Nat → Nat} (hW : Wd h) (hR : RB h n g F S T) {x : Int32} : am_C 4 m_X12_tally [.ref 50, .int x] h (some (.int (tlV n g F S T x)), h) := by
  obtain ⟨hn, hg, h7, hF, hB, hS, hT⟩ := id hR
  by_cases h0 : n = 0
  · rw [tlV_0 h0]
    refine q_aln dX12_tally_0 rfl ?_
    refine q_getI dX12_tally_1 fl_X12_252 (ws_50 hW) rfl (by first | assumption | rfl) ?_
    refine t_if_eq 16 dX12_tally_4 rfl (by rw [h0]; rfl) ?_
    refine q_ic (v := -1) dX12_tally_16 rfl ?_
    refine am_x_goto (tgt := 36) dX12_tally_17 rfl ?_
    refine q_ir dX12_tally_36 rfl ?_
    rfl
  · cases hr : rg x 2 with
    | none =>
      rw [tlV_n hr]
      refine q_aln dX12_tally_0 rfl ?_
      refine q_getI dX12_tally_1 fl_X12_252 (ws_50 hW) rfl (by first | assumption | rfl) ?_
      refine f_if_eq dX12_tally_4 (tgt := 16) rfl (by exact nI_ne0 (by omega) (by omega)) ?_
      refine q_iln dX12_tally_7 rfl ?_
      refine q_ic (v := nI 0) dX12_tally_8 rfl ?_
      refine q_ic (v := nI 1) dX12_tally_9 rfl ?_
      refine q_S3 (N := m_X12_in) dX12_tally_10 lk_X12_215 mS_X12_in ((by have z := r_inr (h := h) (x := x) (k := 1) (by omega); rw [isr_n hr] at z; exact z)) (by decide) (Nat.le_of_ble_eq_true rfl) (Nat.le_of_ble_eq_true rfl) ?_
      refine f_if_ne dX12_tally_13 (tgt := 20) rfl (by rfl) ?_
      refine q_ic (v := -1) dX12_tally_16 rfl ?_
      refine am_x_goto (tgt := 36) dX12_tally_17 rfl ?_
      refine q_ir dX12_tally_36 rfl ?_
      rfl
    | some w =>
      rw [tlV_s h0 hr]
      have hi := isr_s hr
      obtain ⟨rfl, hw⟩ := rg_some (by omega) hr
      refine q_aln dX12_tally_0 rfl ?_
      refine q_getI dX12_tally_1 fl_X12_252 (ws_50 hW) rfl (by first | assumption | rfl) ?_
      refine f_if_eq dX12_tally_4 (tgt := 16) rfl (by exact nI_ne0 (by omega) (by omega)) ?_
      refine q_iln dX12_tally_7 rfl ?_
      refine q_ic (v := nI 0) dX12_tally_8 rfl ?_
      refine q_ic (v := nI 1) dX12_tally_9 rfl ?_
      refine q_S3 (N := m_X12_in) dX12_tally_10 lk_X12_215 mS_X12_in ((by have z := r_inr (h := h) (x := nI w) (k := 1) (by omega); rw [hi] at z; exact z)) (by decide) (Nat.le_of_ble_eq_true rfl) (Nat.le_of_ble_eq_true rfl) ?_
      refine t_if_ne 20 dX12_tally_13 rfl (by exact zf1) ?_
      refine q_iln dX12_tally_20 rfl ?_
      first | refine n_if_ne 31 dX12_tally_21 rfl (by omega) (fun c21 => ?_) (fun c21 => ?_) | refine b_if_ne 31 dX12_tally_21 rfl (fun c21 => ?_) (fun c21 => ?_)
      · first
        | (exfalso; omega)
        | (refine q_aln dX12_tally_31 rfl ?_
           refine q_ic (v := nI 0) dX12_tally_32 rfl ?_
           refine q_V1 (N := m_X12_yesMany) dX12_tally_33 lk_X12_329 mV_X12_yesMany ((by have z := r_yesMany hW hR (b := 0) (by omega); rw [show ct (fun m => hrd n g F S T m && (decide (F 0 m = 1) || (0 : Nat).testBit m)) n = yct n g F S T from yb_0] at z; exact z)) (by decide) (ws_50 hW) rfl (by decide) (Nat.le_of_ble_eq_true rfl) (Nat.le_of_ble_eq_true rfl) ?_
           refine q_ir dX12_tally_36 rfl ?_
           (apply o_i2; first | rw [if_pos (by omega)] | rw [if_neg (by omega)]))
      · first
        | (exfalso; omega)
        | (refine q_aln dX12_tally_24 rfl ?_
           refine q_V0 (N := m_X12_heardMany) dX12_tally_25 lk_X12_326 mV_X12_heardMany (r_heardMany hW hR) (by decide) (ws_50 hW) rfl (by decide) (Nat.le_of_ble_eq_true rfl) (Nat.le_of_ble_eq_true rfl) ?_
           refine am_x_goto (tgt := 36) dX12_tally_28 rfl ?_
           refine q_ir dX12_tally_36 rfl ?_
           (apply o_i2; first | rw [if_pos (by omega)] | rw [if_neg (by omega)]))
