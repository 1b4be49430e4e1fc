/-- yes among those heard, with b told yes -/
abbrev yb (n : Nat) (g : Bool) (F : Nat → Nat → Nat) (S T : Nat → Nat) (b : Nat) : Nat := ct (fun m => hrd n g F S T m && (decide (F 0 m = 1) || b.testBit m)) n
theorem yb_0 {n : Nat} {g : Bool} {F : Nat → Nat → Nat} {S T : Nat → Nat} : yb n g F S T 0 = yct n g F S T := ct_cong (fun i _ => by simp)
def tnv : Option (Nat × Nat) → Nat
  | none => 0
  | some q => q.2
set_option maxHeartbeats 2000000 in
theorem r_pp_lp {h : am_H} {n : Nat} {g : Bool} {F : Nat → Nat → Nat} {S T : Nat → Nat} (hW : Wd h) (hR : RB h n g F S T) {w : Option Nat} {is : Bool} (hp : ∀ i, i < 8 → am_l h 64 i = lN (prt n g F S T w n i)) : ∀ k j, j + k = hct n g F S T + 1 → am_Sem 4 m_X12_passedParts 11 [some (.ref 50), some (.int (nI (if is = true then 1 else 0))), some (.long (lN (pas n g F S T w is j))), none, some (.int (nI (hct n g F S T))), some (.int (nI j))] [] h (some (.long (lN (pas n g F S T w is (hct n g F S T + 1)))), h) := by
  obtain ⟨hn, hg, h7, hF, hB, hS, hT⟩ := id hR
  have a2 : hct n g F S T ≤ n := ct_le _ n
  intro k
  induction k with
  | zero =>
    intro j hj
    have hjn : j = hct n g F S T + 1 := by omega
    subst hjn
    refine q_il dX12_passedParts_11 rfl ?_
    refine q_il dX12_passedParts_13 rfl ?_
    refine t_ic_gt 56 dX12_passedParts_15 rfl (by exact nI_lt (by omega) (by omega)) ?_
    refine q_lln dX12_passedParts_56 rfl ?_
    refine q_lr dX12_passedParts_57 rfl ?_
    rfl
  | succ k ih =>
    intro j hj
    have q := ih (j + 1) (by omega)
    by_cases hc : ct (fun m => hrd n g F S T m) n < 2 * j
    · cases is with
      | true =>
        have e : pas n g F S T w true (j + 1) = pas n g F S T w true j + prt n g F S T w n j := by
          simp only [pas, sm]; rw [decide_eq_true hc]; rfl
        rw [e] at q
        refine q_il dX12_passedParts_11 rfl ?_
        refine q_il dX12_passedParts_13 rfl ?_
        refine f_ic_gt dX12_passedParts_15 (tgt := 56) rfl (by exact nI_nlt (by omega) (by omega)) ?_
        refine q_lln dX12_passedParts_18 rfl ?_
        refine q_ic (v := nI 2) dX12_passedParts_19 rfl ?_
        refine q_il dX12_passedParts_20 rfl ?_
        first | refine q_mul dX12_passedParts_22 ?_ | refine am_x_pu dX12_passedParts_22 rfl ?_
        refine q_il dX12_passedParts_23 rfl ?_
        refine f_ic_le dX12_passedParts_25 (tgt := 32) rfl (by exact nI_ge (by have z2 : hct n g F S T < 2 * j := hc; omega) (by omega)) ?_
        refine q_ic (v := nI 1) dX12_passedParts_28 rfl ?_
        refine am_x_goto (tgt := 33) dX12_passedParts_29 rfl ?_
        refine q_iln dX12_passedParts_33 rfl ?_
        refine f_ic_ne dX12_passedParts_34 (tgt := 47) rfl (by decide +kernel) ?_
        refine q_aln dX12_passedParts_37 rfl ?_
        refine q_getR dX12_passedParts_38 fl_X12_53 (ws_50 hW) rfl (wp_50_29 hW) ?_
        refine q_il dX12_passedParts_41 rfl ?_
        refine q_lld dX12_passedParts_43 (ws_64 hW) (by omega) (by omega) (hp _ (by omega)) ?_
        refine am_x_goto (tgt := 48) dX12_passedParts_44 rfl ?_
        first | refine q_ladd dX12_passedParts_48 ?_ | refine am_x_pu dX12_passedParts_48 rfl ?_
        refine q_lsn dX12_passedParts_49 (by decide) ?_
        refine q_inc dX12_passedParts_50 rfl (by decide) ?_
        refine am_x_goto (tgt := 11) dX12_passedParts_53 rfl ?_
        exact q
      | false =>
        have e : pas n g F S T w false (j + 1) = pas n g F S T w false j + 0 := by
          simp only [pas, sm]; rw [decide_eq_true hc]; rfl
        rw [e] at q
        refine q_il dX12_passedParts_11 rfl ?_
        refine q_il dX12_passedParts_13 rfl ?_
        refine f_ic_gt dX12_passedParts_15 (tgt := 56) rfl (by exact nI_nlt (by omega) (by omega)) ?_
        refine q_lln dX12_passedParts_18 rfl ?_
        refine q_ic (v := nI 2) dX12_passedParts_19 rfl ?_
        refine q_il dX12_passedParts_20 rfl ?_
        first | refine q_mul dX12_passedParts_22 ?_ | refine am_x_pu dX12_passedParts_22 rfl ?_
        refine q_il dX12_passedParts_23 rfl ?_
        refine f_ic_le dX12_passedParts_25 (tgt := 32) rfl (by exact nI_ge (by have z2 : hct n g F S T < 2 * j := hc; omega) (by omega)) ?_
        refine q_ic (v := nI 1) dX12_passedParts_28 rfl ?_
        refine am_x_goto (tgt := 33) dX12_passedParts_29 rfl ?_
        refine q_iln dX12_passedParts_33 rfl ?_
        refine t_ic_ne 47 dX12_passedParts_34 rfl (by decide +kernel) ?_
        refine q_lc (v := lN 0) dX12_passedParts_47 rfl ?_
        first | refine q_ladd dX12_passedParts_48 ?_ | refine am_x_pu dX12_passedParts_48 rfl ?_
        refine q_lsn dX12_passedParts_49 (by decide) ?_
        refine q_inc dX12_passedParts_50 rfl (by decide) ?_
        refine am_x_goto (tgt := 11) dX12_passedParts_53 rfl ?_
        exact q
    · cases is with
      | true =>
        have e : pas n g F S T w true (j + 1) = pas n g F S T w true j + 0 := by
          simp only [pas, sm]; rw [decide_eq_false hc]; rfl
        rw [e] at q
        refine q_il dX12_passedParts_11 rfl ?_
        refine q_il dX12_passedParts_13 rfl ?_
        refine f_ic_gt dX12_passedParts_15 (tgt := 56) rfl (by exact nI_nlt (by omega) (by omega)) ?_
        refine q_lln dX12_passedParts_18 rfl ?_
        refine q_ic (v := nI 2) dX12_passedParts_19 rfl ?_
        refine q_il dX12_passedParts_20 rfl ?_
        first | refine q_mul dX12_passedParts_22 ?_ | refine am_x_pu dX12_passedParts_22 rfl ?_
        refine q_il dX12_passedParts_23 rfl ?_
        refine t_ic_le 32 dX12_passedParts_25 rfl (by exact nI_le (by have z2 : ¬ hct n g F S T < 2 * j := hc; omega) (by omega)) ?_
        refine q_ic (v := nI 0) dX12_passedParts_32 rfl ?_
        refine q_iln dX12_passedParts_33 rfl ?_
        refine t_ic_ne 47 dX12_passedParts_34 rfl (by decide +kernel) ?_
        refine q_lc (v := lN 0) dX12_passedParts_47 rfl ?_
        first | refine q_ladd dX12_passedParts_48 ?_ | refine am_x_pu dX12_passedParts_48 rfl ?_
        refine q_lsn dX12_passedParts_49 (by decide) ?_
        refine q_inc dX12_passedParts_50 rfl (by decide) ?_
        refine am_x_goto (tgt := 11) dX12_passedParts_53 rfl ?_
        exact q
      | false =>
        have e : pas n g F S T w false (j + 1) = pas n g F S T w false j + prt n g F S T w n j := by
          simp only [pas, sm]; rw [decide_eq_false hc]; rfl
        rw [e] at q
        refine q_il dX12_passedParts_11 rfl ?_
        refine q_il dX12_passedParts_13 rfl ?_
        refine f_ic_gt dX12_passedParts_15 (tgt := 56) rfl (by exact nI_nlt (by omega) (by omega)) ?_
        refine q_lln dX12_passedParts_18 rfl ?_
        refine q_ic (v := nI 2) dX12_passedParts_19 rfl ?_
        refine q_il dX12_passedParts_20 rfl ?_
        first | refine q_mul dX12_passedParts_22 ?_ | refine am_x_pu dX12_passedParts_22 rfl ?_
        refine q_il dX12_passedParts_23 rfl ?_
        refine t_ic_le 32 dX12_passedParts_25 rfl (by exact nI_le (by have z2 : ¬ hct n g F S T < 2 * j := hc; omega) (by omega)) ?_
        refine q_ic (v := nI 0) dX12_passedParts_32 rfl ?_
        refine q_iln dX12_passedParts_33 rfl ?_
        refine f_ic_ne dX12_passedParts_34 (tgt := 47) rfl (by decide +kernel) ?_
        refine q_aln dX12_passedParts_37 rfl ?_
        refine q_getR dX12_passedParts_38 fl_X12_53 (ws_50 hW) rfl (wp_50_29 hW) ?_
        refine q_il dX12_passedParts_41 rfl ?_
        refine q_lld dX12_passedParts_43 (ws_64 hW) (by omega) (by omega) (hp _ (by omega)) ?_
        refine am_x_goto (tgt := 48) dX12_passedParts_44 rfl ?_
        first | refine q_ladd dX12_passedParts_48 ?_ | refine am_x_pu dX12_passedParts_48 rfl ?_
        refine q_lsn dX12_passedParts_49 (by decide) ?_
        refine q_inc dX12_passedParts_50 rfl (by decide) ?_
        refine am_x_goto (tgt := 11) dX12_passedParts_53 rfl ?_
        exact q
set_option maxHeartbeats 2000000 in
theorem r_passedParts {h : am_H} {n : Nat} {g : Bool} {F : Nat → Nat → Nat} {S T : Nat → Nat} (hW : Wd h) (hR : RB h n g F S T) {w : Option Nat} {is : Bool} (hp : ∀ i, i < 8 → am_l h 64 i = lN (prt n g F S T w n i)) : am_C 4 m_X12_passedParts [.ref 50, .int (nI (if is = true then 1 else 0))] h (some (.long (lN (pas n g F S T w is 8))), h) := by
  have a2 : hct n g F S T ≤ n := ct_le _ n
  have h7 := hR.2.2.1
  rw [pas_8 8 (show ct (fun m => hrd n g F S T m) n + 1 ≤ 8 by have z : hct n g F S T ≤ 7 := (by omega); exact Nat.succ_le_succ z)]
  refine q_lc (v := lN 0) dX12_passedParts_0 rfl ?_
  refine q_lsn dX12_passedParts_1 (by decide) ?_
  refine q_aln dX12_passedParts_2 rfl ?_
  refine q_V0 (N := m_X12_heardMany) dX12_passedParts_3 lk_X12_326 mV_X12_heardMany (r_heardMany hW hR) (by decide) (ws_50 hW) rfl (by decide) (Nat.le_of_ble_eq_true rfl) (Nat.le_of_ble_eq_true rfl) ?_
  refine q_is dX12_passedParts_6 (by decide) ?_
  refine q_ic (v := nI 0) dX12_passedParts_8 rfl ?_
  refine q_is dX12_passedParts_9 (by decide) ?_
  exact r_pp_lp hW hR hp (hct n g F S T + 1) 0 (by omega)
set_option maxHeartbeats 2000000 in
theorem r_doesPass {h : am_H} {n : Nat} {g : Bool} {F : Nat → Nat → Nat} {S T : Nat → Nat} (hW : Wd h) (hR : RB h n g F S T) {b : Nat} (hb : b < 128) : am_C 4 m_X12_doesPass [.ref 50, .int (nI b)] h (some (.int (nI (if hct n g F S T < 2 * yb n g F S T b then 1 else 0))), h) := by
  have h7 := hR.2.2.1
  have a2 : ct (fun m => hrd n g F S T m) n ≤ n := ct_le _ n
  have a3 : ct (fun m => hrd n g F S T m && (decide (F 0 m = 1) || b.testBit m)) n ≤ n := ct_le _ n
  refine q_ic (v := nI 2) dX12_doesPass_0 rfl ?_
  refine q_aln dX12_doesPass_1 rfl ?_
  refine q_iln dX12_doesPass_2 rfl ?_
  refine q_V1 (N := m_X12_yesMany) dX12_doesPass_3 lk_X12_329 mV_X12_yesMany (r_yesMany hW hR hb) (by decide) (ws_50 hW) rfl (by decide) (Nat.le_of_ble_eq_true rfl) (Nat.le_of_ble_eq_true rfl) ?_
  first | refine q_mul dX12_doesPass_6 ?_ | refine am_x_pu dX12_doesPass_6 rfl ?_
  refine q_aln dX12_doesPass_7 rfl ?_
  refine q_V0 (N := m_X12_heardMany) dX12_doesPass_8 lk_X12_326 mV_X12_heardMany (r_heardMany hW hR) (by decide) (ws_50 hW) rfl (by decide) (Nat.le_of_ble_eq_true rfl) (Nat.le_of_ble_eq_true rfl) ?_
  first | refine n_ic_le 18 dX12_doesPass_11 rfl (by omega) (by omega) (fun c11 => ?_) (fun c11 => ?_) | refine b_ic_le 18 dX12_doesPass_11 rfl (fun c11 => ?_) (fun c11 => ?_)
  · first
    | (exfalso; omega)
    | (refine q_ic (v := nI 0) dX12_doesPass_18 rfl ?_
       first | refine q_zrn dX12_doesPass_19 rfl (by first | omega | exact b2_le) ?_ | refine q_zr dX12_doesPass_19 rfl (by first | exact Or.inl rfl | exact Or.inr rfl | assumption) ?_
       (apply o_nI; first | rw [if_pos (show ct (fun m => hrd n g F S T m) n < 2 * ct (fun m => hrd n g F S T m && (decide (F 0 m = 1) || b.testBit m)) n by omega)] | rw [if_neg (show ¬ ct (fun m => hrd n g F S T m) n < 2 * ct (fun m => hrd n g F S T m && (decide (F 0 m = 1) || b.testBit m)) n by omega)]))
  · first
    | (exfalso; omega)
    | (refine q_ic (v := nI 1) dX12_doesPass_14 rfl ?_
       refine am_x_goto (tgt := 19) dX12_doesPass_15 rfl ?_
       first | refine q_zrn dX12_doesPass_19 rfl (by first | omega | exact b2_le) ?_ | refine q_zr dX12_doesPass_19 rfl (by first | exact Or.inl rfl | exact Or.inr rfl | assumption) ?_
       (apply o_nI; first | rw [if_pos (show ct (fun m => hrd n g F S T m) n < 2 * ct (fun m => hrd n g F S T m && (decide (F 0 m = 1) || b.testBit m)) n by omega)] | rw [if_neg (show ¬ ct (fun m => hrd n g F S T m) n < 2 * ct (fun m => hrd n g F S T m && (decide (F 0 m = 1) || b.testBit m)) n by omega)]))
set_option maxHeartbeats 2000000 in
theorem r_turner_lp {h : am_H} {n : Nat} {g : Bool} {F : Nat → Nat → Nat} {S T : Nat → Nat} (hW : Wd h) (hR : RB h n g F S T)  : ∀ k j hc (x5 x6 : Option Value), j + k = n → Fr [64] h hc → am_E 5 m_X12_turner 7 [some (.ref 50), some (.int (oN ((tn n g F S T j).map Prod.fst))), some (.long (lN (tnv (tn n g F S T j)))), none, some (.int (nI j)), x5, x6] [] hc (fun v h2 => v = some (.int (oN ((tn n g F S T n).map Prod.fst))) ∧ Fr [64] h h2) := by
  obtain ⟨hn, hg, h7, hF, hB, hS, hT⟩ := id hR
  have hF9 : ∀ i m, i < 7 → m < n → F i m ≤ 99 := fun i m hi hm => (hF i m hi hm).2
  have hbig := hct_big (n := n) (g := g) (F := F) (S := S) (T := T) h7
  have tnle : ∀ k q, tn n g F S T k = some q → q.2 ≤ 100 ^ hct n g F S T := by
    intro k
    induction k with
    | zero => intro q h; simp [tn] at h
    | succ k ih =>
      intro q h
      by_cases hh : hrd n g F S T k = true
      · cases hq : tn n g F S T k with
        | none => rw [tn_n hh hq] at h; cases h; exact pas_le h7 hF9 hR.S hR.T
        | some p =>
          by_cases hl : p.2 < pas n g F S T (some k) (due n g F S T) 8
          · rw [tn_l hh hq hl] at h; cases h; exact pas_le h7 hF9 hR.S hR.T
          · rw [tn_g hh hq hl] at h; cases h; exact ih _ hq
      · rw [tn_o hh] at h; exact ih q h
  intro k
  induction k with
  | zero =>
    intro j hc x5 x6 hj hfr
    have hjn : j = n := by omega
    subst hjn
    have hWc := hfr.Wd hW
    have hRc := hR.fr hfr (by decide) (by decide) (by decide)
    have hn := hRc.1
    refine Eq_il dX12_turner_7 rfl ?_
    refine Eq_aln dX12_turner_9 rfl ?_
    refine Eq_getI dX12_turner_10 fl_X12_252 (ws_50 hWc) rfl (by first | assumption | rfl) ?_
    refine Et_ic_ge 66 dX12_turner_13 rfl (by exact nI_le (by omega) (by omega)) ?_
    refine Eq_iln dX12_turner_66 rfl ?_
    refine Eq_ir dX12_turner_67 rfl ?_
    exact ⟨rfl, hfr⟩
  | succ k ih =>
    intro j hc x5 x6 hj hfr
    have hWc := hfr.Wd hW
    have hRc := hR.fr hfr (by decide) (by decide) (by decide)
    have hn := hRc.1
    by_cases hh : hrd n g F S T j = true
    · have hpv : pas n g F S T (some j) (due n g F S T) 8 ≤ 100 ^ hct n g F S T := pas_le h7 hF9 hR.S hR.T
      cases hq : tn n g F S T j with
      | none =>
        refine Eq_il dX12_turner_7 rfl ?_
        refine Eq_aln dX12_turner_9 rfl ?_
        refine Eq_getI dX12_turner_10 fl_X12_252 (ws_50 hWc) rfl (by first | assumption | rfl) ?_
        refine Ef_ic_ge dX12_turner_13 (tgt := 66) rfl (by exact nI_ge (by omega) (by omega)) ?_
        refine Eq_aln dX12_turner_16 rfl ?_
        refine Eq_il dX12_turner_17 rfl ?_
        refine Eq_V1 (N := m_X12_isHeard) dX12_turner_19 lk_X12_291 mV_X12_isHeard (r_isHeard hWc hRc (by omega)) (by decide) (ws_50 hWc) rfl (by decide) (Nat.le_of_ble_eq_true rfl) (Nat.le_of_ble_eq_true rfl) ?_
        refine Ef_if_eq dX12_turner_22 (tgt := 60) rfl (by rw [if_pos hh]; decide +kernel) ?_
        refine Eq_aln dX12_turner_25 rfl ?_
        refine Eq_il dX12_turner_26 rfl ?_
        refine Eq_W1 (N := m_X12_layParts) dX12_turner_28 lk_X12_332 mV_X12_layParts (r_layParts (w := some j) hWc hRc (fun k hk => by cases hk; omega)) (by decide) (ws_50 hWc) rfl (by decide) (Nat.le_of_ble_eq_true rfl) (Nat.le_of_ble_eq_true rfl) (fun vq hq1 hq2 => ?_)
        obtain ⟨rfl, hf2, hp2⟩ := hq2
        have hWd := hf2.Wd hWc
        have hRd := hRc.fr hf2 (by decide) (by decide) (by decide)
        refine Eq_aln dX12_turner_31 rfl ?_
        refine Eq_aln dX12_turner_32 rfl ?_
        refine Eq_ic (v := nI 0) dX12_turner_33 rfl ?_
        refine Eq_V1 (N := m_X12_doesPass) dX12_turner_34 lk_X12_339 mV_X12_doesPass ((by have z := r_doesPass hWd hRd (b := 0) (by omega); rw [yb_0, show (if hct n g F S T < 2 * yct n g F S T then 1 else 0 : Nat) = (if due n g F S T = true then 1 else 0) by simp [due, Nat.mul_comm]] at z; exact z)) (by decide) (ws_50 hWd) rfl (by decide) (Nat.le_of_ble_eq_true rfl) (Nat.le_of_ble_eq_true rfl) ?_
        refine Eq_V1 (N := m_X12_passedParts) dX12_turner_37 lk_X12_335 mV_X12_passedParts (r_passedParts hWd hRd hp2) (by decide) (ws_50 hWd) rfl (by decide) (Nat.le_of_ble_eq_true rfl) (Nat.le_of_ble_eq_true rfl) ?_
        refine Eq_ls dX12_turner_40 (by decide) ?_
        refine Eq_iln dX12_turner_42 rfl ?_
        refine Eq_ic (v := -1) dX12_turner_43 rfl ?_
        refine Et_ic_eq 54 dX12_turner_44 rfl (by rfl) ?_
        refine Eq_il dX12_turner_54 rfl ?_
        refine Eq_isn dX12_turner_56 (by decide) ?_
        refine Eq_ll dX12_turner_57 rfl ?_
        refine Eq_lsn dX12_turner_59 (by decide) ?_
        refine Eq_inc dX12_turner_60 rfl (by decide) ?_
        refine Eam_x_goto (tgt := 7) dX12_turner_63 rfl ?_
        (have q := fun x5 x6 => ih (j + 1) hq1 x5 x6 (by omega) (hfr.tr hf2); simp only [tn_n hh hq] at q; exact q _ _)
      | some p =>
        have hpl := tn_lt j p hq
        have hpc := tnle j p hq
        by_cases hl : p.2 < pas n g F S T (some j) (due n g F S T) 8
        · have hcmp : ¬ lN (pas n g F S T (some j) (due n g F S T) 8) ≤ lN (tnv (some p)) := by show ¬ lN (pas n g F S T (some j) (due n g F S T) 8) ≤ lN p.2; rw [pk_lLE (by omega) (by omega)]; omega
          refine Eq_il dX12_turner_7 rfl ?_
          refine Eq_aln dX12_turner_9 rfl ?_
          refine Eq_getI dX12_turner_10 fl_X12_252 (ws_50 hWc) rfl (by first | assumption | rfl) ?_
          refine Ef_ic_ge dX12_turner_13 (tgt := 66) rfl (by exact nI_ge (by omega) (by omega)) ?_
          refine Eq_aln dX12_turner_16 rfl ?_
          refine Eq_il dX12_turner_17 rfl ?_
          refine Eq_V1 (N := m_X12_isHeard) dX12_turner_19 lk_X12_291 mV_X12_isHeard (r_isHeard hWc hRc (by omega)) (by decide) (ws_50 hWc) rfl (by decide) (Nat.le_of_ble_eq_true rfl) (Nat.le_of_ble_eq_true rfl) ?_
          refine Ef_if_eq dX12_turner_22 (tgt := 60) rfl (by rw [if_pos hh]; decide +kernel) ?_
          refine Eq_aln dX12_turner_25 rfl ?_
          refine Eq_il dX12_turner_26 rfl ?_
          refine Eq_W1 (N := m_X12_layParts) dX12_turner_28 lk_X12_332 mV_X12_layParts (r_layParts (w := some j) hWc hRc (fun k hk => by cases hk; omega)) (by decide) (ws_50 hWc) rfl (by decide) (Nat.le_of_ble_eq_true rfl) (Nat.le_of_ble_eq_true rfl) (fun vq hq1 hq2 => ?_)
          obtain ⟨rfl, hf2, hp2⟩ := hq2
          have hWd := hf2.Wd hWc
          have hRd := hRc.fr hf2 (by decide) (by decide) (by decide)
          refine Eq_aln dX12_turner_31 rfl ?_
          refine Eq_aln dX12_turner_32 rfl ?_
          refine Eq_ic (v := nI 0) dX12_turner_33 rfl ?_
          refine Eq_V1 (N := m_X12_doesPass) dX12_turner_34 lk_X12_339 mV_X12_doesPass ((by have z := r_doesPass hWd hRd (b := 0) (by omega); rw [yb_0, show (if hct n g F S T < 2 * yct n g F S T then 1 else 0 : Nat) = (if due n g F S T = true then 1 else 0) by simp [due, Nat.mul_comm]] at z; exact z)) (by decide) (ws_50 hWd) rfl (by decide) (Nat.le_of_ble_eq_true rfl) (Nat.le_of_ble_eq_true rfl) ?_
          refine Eq_V1 (N := m_X12_passedParts) dX12_turner_37 lk_X12_335 mV_X12_passedParts (r_passedParts hWd hRd hp2) (by decide) (ws_50 hWd) rfl (by decide) (Nat.le_of_ble_eq_true rfl) (Nat.le_of_ble_eq_true rfl) ?_
          refine Eq_ls dX12_turner_40 (by decide) ?_
          refine Eq_iln dX12_turner_42 rfl ?_
          refine Eq_ic (v := -1) dX12_turner_43 rfl ?_
          refine Ef_ic_eq dX12_turner_44 (tgt := 54) rfl (by exact nI_m1 (by omega)) ?_
          refine Eq_ll dX12_turner_47 rfl ?_
          refine Eq_lln dX12_turner_49 rfl ?_
          refine Eam_x_pu dX12_turner_50 rfl ?_
          refine Ef_if_le dX12_turner_51 (tgt := 60) rfl (by rw [lg_cmp_le]; exact hcmp) ?_
          refine Eq_il dX12_turner_54 rfl ?_
          refine Eq_isn dX12_turner_56 (by decide) ?_
          refine Eq_ll dX12_turner_57 rfl ?_
          refine Eq_lsn dX12_turner_59 (by decide) ?_
          refine Eq_inc dX12_turner_60 rfl (by decide) ?_
          refine Eam_x_goto (tgt := 7) dX12_turner_63 rfl ?_
          (have q := fun x5 x6 => ih (j + 1) hq1 x5 x6 (by omega) (hfr.tr hf2); simp only [tn_l hh hq hl] at q; exact q _ _)
        · have hcmp : lN (pas n g F S T (some j) (due n g F S T) 8) ≤ lN (tnv (some p)) := by show lN (pas n g F S T (some j) (due n g F S T) 8) ≤ lN p.2; rw [pk_lLE (by omega) (by omega)]; omega
          refine Eq_il dX12_turner_7 rfl ?_
          refine Eq_aln dX12_turner_9 rfl ?_
          refine Eq_getI dX12_turner_10 fl_X12_252 (ws_50 hWc) rfl (by first | assumption | rfl) ?_
          refine Ef_ic_ge dX12_turner_13 (tgt := 66) rfl (by exact nI_ge (by omega) (by omega)) ?_
          refine Eq_aln dX12_turner_16 rfl ?_
          refine Eq_il dX12_turner_17 rfl ?_
          refine Eq_V1 (N := m_X12_isHeard) dX12_turner_19 lk_X12_291 mV_X12_isHeard (r_isHeard hWc hRc (by omega)) (by decide) (ws_50 hWc) rfl (by decide) (Nat.le_of_ble_eq_true rfl) (Nat.le_of_ble_eq_true rfl) ?_
          refine Ef_if_eq dX12_turner_22 (tgt := 60) rfl (by rw [if_pos hh]; decide +kernel) ?_
          refine Eq_aln dX12_turner_25 rfl ?_
          refine Eq_il dX12_turner_26 rfl ?_
          refine Eq_W1 (N := m_X12_layParts) dX12_turner_28 lk_X12_332 mV_X12_layParts (r_layParts (w := some j) hWc hRc (fun k hk => by cases hk; omega)) (by decide) (ws_50 hWc) rfl (by decide) (Nat.le_of_ble_eq_true rfl) (Nat.le_of_ble_eq_true rfl) (fun vq hq1 hq2 => ?_)
          obtain ⟨rfl, hf2, hp2⟩ := hq2
          have hWd := hf2.Wd hWc
          have hRd := hRc.fr hf2 (by decide) (by decide) (by decide)
          refine Eq_aln dX12_turner_31 rfl ?_
          refine Eq_aln dX12_turner_32 rfl ?_
          refine Eq_ic (v := nI 0) dX12_turner_33 rfl ?_
          refine Eq_V1 (N := m_X12_doesPass) dX12_turner_34 lk_X12_339 mV_X12_doesPass ((by have z := r_doesPass hWd hRd (b := 0) (by omega); rw [yb_0, show (if hct n g F S T < 2 * yct n g F S T then 1 else 0 : Nat) = (if due n g F S T = true then 1 else 0) by simp [due, Nat.mul_comm]] at z; exact z)) (by decide) (ws_50 hWd) rfl (by decide) (Nat.le_of_ble_eq_true rfl) (Nat.le_of_ble_eq_true rfl) ?_
          refine Eq_V1 (N := m_X12_passedParts) dX12_turner_37 lk_X12_335 mV_X12_passedParts (r_passedParts hWd hRd hp2) (by decide) (ws_50 hWd) rfl (by decide) (Nat.le_of_ble_eq_true rfl) (Nat.le_of_ble_eq_true rfl) ?_
          refine Eq_ls dX12_turner_40 (by decide) ?_
          refine Eq_iln dX12_turner_42 rfl ?_
          refine Eq_ic (v := -1) dX12_turner_43 rfl ?_
          refine Ef_ic_eq dX12_turner_44 (tgt := 54) rfl (by exact nI_m1 (by omega)) ?_
          refine Eq_ll dX12_turner_47 rfl ?_
          refine Eq_lln dX12_turner_49 rfl ?_
          refine Eam_x_pu dX12_turner_50 rfl ?_
          refine Et_if_le 60 dX12_turner_51 rfl (by rw [lg_cmp_le]; exact hcmp) ?_
          refine Eq_inc dX12_turner_60 rfl (by decide) ?_
          refine Eam_x_goto (tgt := 7) dX12_turner_63 rfl ?_
          (have q := fun x5 x6 => ih (j + 1) hq1 x5 x6 (by omega) (hfr.tr hf2); simp only [tn_g hh hq hl] at q; exact q _ _)
    · refine Eq_il dX12_turner_7 rfl ?_
      refine Eq_aln dX12_turner_9 rfl ?_
      refine Eq_getI dX12_turner_10 fl_X12_252 (ws_50 hWc) rfl (by first | assumption | rfl) ?_
      refine Ef_ic_ge dX12_turner_13 (tgt := 66) rfl (by exact nI_ge (by omega) (by omega)) ?_
      refine Eq_aln dX12_turner_16 rfl ?_
      refine Eq_il dX12_turner_17 rfl ?_
      refine Eq_V1 (N := m_X12_isHeard) dX12_turner_19 lk_X12_291 mV_X12_isHeard (r_isHeard hWc hRc (by omega)) (by decide) (ws_50 hWc) rfl (by decide) (Nat.le_of_ble_eq_true rfl) (Nat.le_of_ble_eq_true rfl) ?_
      refine Et_if_eq 60 dX12_turner_22 rfl (by rw [if_neg hh]; rfl) ?_
      refine Eq_inc dX12_turner_60 rfl (by decide) ?_
      refine Eam_x_goto (tgt := 7) dX12_turner_63 rfl ?_
      (have q := ih (j + 1) hc x5 x6 (by omega) hfr; rw [tn_o hh] at q; exact q)
set_option maxHeartbeats 2000000 in
theorem r_turner {h : am_H} {n : Nat} {g : Bool} {F : Nat → Nat → Nat} {S T : Nat → Nat} (hW : Wd h) (hR : RB h n g F S T)  : am_D 5 m_X12_turner [.ref 50] h (fun v h2 => v = some (.int (oN ((tn n g F S T n).map Prod.fst))) ∧ Fr [64] h h2) := by
  refine Eq_ic (v := -1) dX12_turner_0 rfl ?_
  refine Eq_isn dX12_turner_1 (by decide) ?_
  refine Eq_lc (v := lN 0) dX12_turner_2 rfl ?_
  refine Eq_lsn dX12_turner_3 (by decide) ?_
  refine Eq_ic (v := nI 0) dX12_turner_4 rfl ?_
  refine Eq_is dX12_turner_5 (by decide) ?_
  exact r_turner_lp hW hR n 0 h _ _ (by omega) Fr.rf
