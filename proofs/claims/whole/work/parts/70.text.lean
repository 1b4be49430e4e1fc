/-! manners put by; faults and texts of the class -/
theorem wP_e0 {h : am_H} {r j : Nat} {v : Option Nat} : am_p (am_wP h r j v) r j = v := by
  show am_up h.2.2.2.1 r j v r j = v
  rw [am_up_eq, if_pos rfl]
theorem wP_o {h : am_H} {r j k : Nat} {v : Option Nat} (e : k ≠ j) : am_p (am_wP h r j v) r k = am_p h r k := by
  show am_up h.2.2.2.1 r j v r k = _
  rw [am_up_eq, if_neg e]
theorem wP_ne {h : am_H} {r r' j : Nat} {v : Option Nat} (e : r' ≠ r) : am_p (am_wP h r j v) r' = am_p h r' := am_up_ne e
theorem nw_se {h : am_H} {sh : Nat × Nat} {m : Nat} : am_s (am_nw h sh m) (am_t h) = some sh := by
  show (bif Nat.beq (am_t h) (am_t h) then some sh else h.1 (am_t h)) = some sh
  rw [am_beq]; rfl
theorem nw_sn {h : am_H} {sh : Nat × Nat} {m r : Nat} (e : r ≠ am_t h) : am_s (am_nw h sh m) r = am_s h r := by
  show (bif Nat.beq r (am_t h) then some sh else h.1 r) = h.1 r
  rw [am_bne e]; rfl
theorem nw_in {h : am_H} {sh : Nat × Nat} {m r : Nat} (e : r ≠ am_t h) : am_i (am_nw h sh m) r = am_i h r := am_ro_ne e
theorem nw_ln {h : am_H} {sh : Nat × Nat} {m r : Nat} (e : r ≠ am_t h) : am_l (am_nw h sh m) r = am_l h r := am_ro_ne e
theorem nw_pn {h : am_H} {sh : Nat × Nat} {m r : Nat} (e : r ≠ am_t h) : am_p (am_nw h sh m) r = am_p h r := am_ro_ne e
/-- nothing below the cells made is touched -/
def Bl (h h2 : am_H) : Prop := ∀ x, x < am_t h → am_s h2 x = am_s h x ∧ am_i h2 x = am_i h x ∧ am_l h2 x = am_l h x ∧ am_p h2 x = am_p h x
theorem Bl.Wd {h h2 : am_H} (b : Bl h h2) (h8 : 80 ≤ am_t h) (hW : Wd h) : Wd h2 := by
  refine ⟨fun r hr => ?_, fun q hq => ?_⟩
  · rw [(b r (by omega)).1]; exact hW.1 r hr
  · have h1 := hW.2 q hq
    have h2 : ∀ q ∈ pk0, q.1 < 80 := by decide
    rw [(b q.1 (by have := h2 q hq; omega)).2.2.2]
    exact h1
set_option maxHeartbeats 2000000 in
theorem c_minit {h : am_H} (hW : Wd h) {r N : Nat} (hr : am_s h r = some (3, 0)) (hrt : r < am_t h) (h8 : 80 ≤ am_t h) (hN : N ≤ 160) : am_C 2 m_X3_init [.ref r, .ref 7, .int (nI N)] h (none, (am_wI (am_wP (am_nw (am_rI (am_wP (am_nw h (100, N) N) r 0 (some (am_t h))) (am_t h) (va_cpy (am_i (am_wP (am_nw h (100, N) N) r 0 (some (am_t h))) 7) (am_i (am_wP (am_nw h (100, N) N) r 0 (some (am_t h))) (am_t h)) 0 0 N)) (100, N + 1) (N + 1)) r 1 (some (am_t h + 1))) r 2 (nI 0))) := by
  have e1 : (if nI 160 < nI N then nI 160 else nI N) = nI N := if_neg (nI_nlt (by omega) (by omega))
  have e2 : (if nI 0 < nI N then nI N else nI 0) = nI N := by
    by_cases h0 : N = 0
    · subst h0; rfl
    · exact if_pos (nI_lt (by omega) (by omega))
  have cN : (nI N).toNatClampNeg = N := nI_clamp (by omega)
  have cN1 : (nI (N + 1)).toNatClampNeg = N + 1 := nI_clamp (by omega)
  have c0 : (nI 0).toNatClampNeg = 0 := nI_clamp (by omega)
  have hne : r ≠ am_t h := by omega
  have sr1 : am_s (am_nw h (100, N) N) r = some (3, 0) := by rw [nw_sn hne]; exact hr
  have s7 : am_s (am_wP (am_nw h (100, N) N) r 0 (some (am_t h))) 7 = some (100, 160) := by show am_s (am_nw h (100, N) N) 7 = _; rw [nw_sn (by omega)]; exact ws_7 hW
  have ss : am_s (am_wP (am_nw h (100, N) N) r 0 (some (am_t h))) (am_t h) = some (100, N) := nw_se (m := N)
  have ps : am_p (am_wP (am_nw h (100, N) N) r 0 (some (am_t h))) r 0 = some (am_t h) := wP_e0
  have sr4 : am_s (am_nw (am_rI (am_wP (am_nw h (100, N) N) r 0 (some (am_t h))) (am_t h) (va_cpy (am_i (am_wP (am_nw h (100, N) N) r 0 (some (am_t h))) 7) (am_i (am_wP (am_nw h (100, N) N) r 0 (some (am_t h))) (am_t h)) 0 0 N)) (100, N + 1) (N + 1)) r = some (3, 0) := by rw [nw_sn (show r ≠ am_t h + 1 by omega)]; exact sr1
  refine q_aln dX3_init_0 rfl ?_
  refine am_x_oi dX3_init_1 (by decide) (Nat.le_of_ble_eq_true rfl) lo_X3_3 wd_oi wd_oc ?_
  refine q_ic (v := nI 0) dX3_init_4 rfl ?_
  refine q_iln dX3_init_5 rfl ?_
  refine q_aln dX3_init_6 rfl ?_
  refine am_x_alen dX3_init_7 (ws_7 hW) (by decide) ?_
  refine q_min dX3_init_8 lk_X3_9 js_J9_min_7cf53 in_J9 jc_J9_min_7cf53 (by decide) (Nat.le_of_ble_eq_true rfl) ?_
  rw [show (Int32.ofNat 160 : Int32) = nI 160 from rfl, e1]
  refine q_max dX3_init_11 lk_X3_15 js_J9_max_7cf53 in_J9 jc_J9_max_7cf53 (by decide) (Nat.le_of_ble_eq_true rfl) ?_
  rw [e2]
  refine q_isn dX3_init_14 (by decide) ?_
  refine am_nl (pc' := 15) (l' := [_, _, _, _]) rfl rfl ?_
  refine q_aln dX3_init_15 rfl ?_
  refine q_iln dX3_init_16 rfl ?_
  refine am_x_newI (N := N) dX3_init_17 (nI_ge0 (by omega)) cN (by omega) wd_int ?_
  refine am_x_putR (v := some (am_t h)) dX3_init_19 (fw_X3_18 rfl rfl) sr1 (Or.inr ⟨_, rfl⟩) ?_
  refine q_aln dX3_init_22 rfl ?_
  refine q_ic (v := nI 0) dX3_init_23 rfl ?_
  refine q_aln dX3_init_24 rfl ?_
  refine q_getR dX3_init_25 fl_X3_18 sr1 rfl ps ?_
  refine q_ic (v := nI 0) dX3_init_28 rfl ?_
  refine q_iln dX3_init_29 rfl ?_
  refine am_x_cpI dX3_init_30 (by decide) (Nat.le_of_ble_eq_true rfl) lc_X3_24 wd_an wd_as wd_ai (r0 := 7) (r1 := am_t h) (n0 := 160) (n1 := N) s7 ss (by decide +kernel) (by decide +kernel) (nI_ge0 (by omega)) (by rw [c0, cN]; omega) (by rw [c0, cN]; omega) ?_
  rw [c0, cN]
  refine q_aln dX3_init_33 rfl ?_
  refine q_iln dX3_init_34 rfl ?_
  refine q_ic (v := nI 1) dX3_init_35 rfl ?_
  first | refine q_add dX3_init_36 ?_ | refine am_x_pu dX3_init_36 rfl ?_
  refine am_x_newI (N := N + 1) dX3_init_37 (nI_ge0 (by omega)) cN1 (by omega) wd_int ?_
  refine am_x_putR (v := some (am_t h + 1)) dX3_init_39 (fw_X3_30 rfl rfl) sr4 (Or.inr ⟨_, rfl⟩) ?_
  refine q_aln dX3_init_42 rfl ?_
  refine q_ic (v := nI 0) dX3_init_43 rfl ?_
  refine am_x_putI dX3_init_44 (fw_X3_33 rfl) sr4 (Or.inl rfl) ?_
  refine q_vr dX3_init_47 rfl ?_
  rfl
/-- manners put by: object, signs, stack behind all cells -/
def mwH (h : am_H) (N : Nat) : am_H := (am_wI (am_wP (am_nw (am_rI (am_wP (am_nw (am_nw h (3, 0) 3) (100, N) N) (am_t h) 0 (some (am_t (am_nw h (3, 0) 3)))) (am_t (am_nw h (3, 0) 3)) (va_cpy (am_i (am_wP (am_nw (am_nw h (3, 0) 3) (100, N) N) (am_t h) 0 (some (am_t (am_nw h (3, 0) 3)))) 7) (am_i (am_wP (am_nw (am_nw h (3, 0) 3) (100, N) N) (am_t h) 0 (some (am_t (am_nw h (3, 0) 3)))) (am_t (am_nw h (3, 0) 3))) 0 0 N)) (100, N + 1) (N + 1)) (am_t h) 1 (some (am_t (am_nw h (3, 0) 3) + 1))) (am_t h) 2 (nI 0))
theorem mwH_t {h : am_H} {N : Nat} : am_t (mwH h N) = am_t h + 3 := rfl
theorem mwH_u {h : am_H} {N : Nat} : am_u (mwH h N) = am_u h + 3 + N + (N + 1) := rfl
theorem mwH_bl {h : am_H} {N : Nat} : Bl h (mwH h N) := fun x hx => by
  have e1 : x ≠ am_t h := by omega
  have e2 : x ≠ am_t (am_nw h (3, 0) 3) := by show x ≠ am_t h + 1; omega
  have e3 : x ≠ am_t h + 1 + 1 := by omega
  refine ⟨?_, ?_, ?_, ?_⟩
  · unfold mwH
    refine (nw_sn (m := N + 1) e3).trans ((nw_sn (m := N) e2).trans (nw_sn (m := 3) e1))
  · unfold mwH
    rw [wI_ne e1]
    refine (nw_in (m := N + 1) (sh := (100, N + 1)) e3).trans ((rI_ne e2).trans ((nw_in (m := N) (sh := (100, N)) e2).trans (nw_in (m := 3) (sh := (3, 0)) e1)))
  · unfold mwH
    refine (nw_ln (m := N + 1) (sh := (100, N + 1)) e3).trans ((nw_ln (m := N) (sh := (100, N)) e2).trans (nw_ln (m := 3) (sh := (3, 0)) e1))
  · unfold mwH
    refine (wP_ne e1).trans ((nw_pn (m := N + 1) (sh := (100, N + 1)) e3).trans ((wP_ne e1).trans ((nw_pn (m := N) (sh := (100, N)) e2).trans (nw_pn (m := 3) (sh := (3, 0)) e1))))
theorem mwH_mn {h : am_H} {l : List Int32} (h8 : 80 ≤ am_t h) (hR : WR h l) : MN (mwH h l.length) (am_t h) (am_t h + 1) (am_t h + 2) l := by
  have n1 : am_t h ≠ am_t h + 1 := by omega
  have n2 : am_t h ≠ am_t h + 1 + 1 := by omega
  have n3 : am_t h + 1 ≠ am_t h + 1 + 1 := by omega
  refine ⟨?_, ?_, ?_, ?_, ?_, hR.2.1, fun i hi => ?_, by omega, by omega, by omega, by omega, by omega, by omega⟩
  · unfold mwH
    exact (nw_sn (m := l.length + 1) n2).trans ((nw_sn (m := l.length) n1).trans (nw_se (m := 3)))
  · unfold mwH
    exact (wP_o (by decide)).trans ((congrFun (nw_pn (m := l.length + 1) (sh := (100, l.length + 1)) n2) 0).trans wP_e0)
  · unfold mwH
    exact wP_e0
  · unfold mwH
    exact (nw_sn (m := l.length + 1) n3).trans (nw_se (h := am_nw h (3, 0) 3) (sh := (100, l.length)) (m := l.length))
  · unfold mwH
    exact nw_se (h := (am_rI (am_wP (am_nw (am_nw h (3, 0) 3) (100, l.length) l.length) (am_t h) 0 (some (am_t (am_nw h (3, 0) 3)))) (am_t (am_nw h (3, 0) 3)) (va_cpy (am_i (am_wP (am_nw (am_nw h (3, 0) 3) (100, l.length) l.length) (am_t h) 0 (some (am_t (am_nw h (3, 0) 3)))) 7) (am_i (am_wP (am_nw (am_nw h (3, 0) 3) (100, l.length) l.length) (am_t h) 0 (some (am_t (am_nw h (3, 0) 3)))) (am_t (am_nw h (3, 0) 3))) 0 0 l.length))) (sh := (100, l.length + 1)) (m := l.length + 1)
  · unfold mwH
    rw [wI_ne (show am_t h + 1 ≠ am_t h by omega)]
    refine (congrFun (nw_in (m := l.length + 1) (sh := (100, l.length + 1)) n3) i).trans ?_
    refine (congrFun (rI_eq (h := am_wP (am_nw (am_nw h (3, 0) 3) (100, l.length) l.length) (am_t h) 0 (some (am_t h + 1)))) i).trans ?_
    rw [cpy0 hi]
    refine (congrFun (nw_in (m := l.length) (sh := (100, l.length)) (show 7 ≠ am_t h + 1 by omega)) i).trans ((congrFun (nw_in (m := 3) (sh := (3, 0)) (show 7 ≠ am_t h by omega)) i).trans ?_)
    exact hR.2.2 i hi
set_option maxHeartbeats 2000000 in
theorem c_written {h : am_H} (hW : Wd h) {l : List Int32} (hR : WR h l) (h8 : 80 ≤ am_t h) : am_C 3 m_X4_written [.ref 6] h (some (.ref (am_t h)), mwH h l.length) := by
  have hWn : Wd (am_nw h (3, 0) 3) := Bl.Wd (h := h) (fun x hx => ⟨nw_sn (by omega), nw_in (by omega), nw_ln (by omega), nw_pn (by omega)⟩) h8 hW
  have hsz : am_i (am_nw h (3, 0) 3) 6 2 = nI l.length := (congrFun (nw_in (m := 3) (sh := (3, 0)) (show 6 ≠ am_t h by omega)) 2).trans hR.1
  refine am_x_new dX4_written_0 ok_X3 cl_X4_43 it_X3 in_X3 ?_
  refine am_x_pu dX4_written_3 rfl ?_
  refine q_aln dX4_written_4 rfl ?_
  refine q_getR dX4_written_5 fl_X4_17 (ws_6 hWn) rfl (wp_6_1 hWn) ?_
  refine q_aln dX4_written_8 rfl ?_
  refine q_getI dX4_written_9 fl_X4_21 (ws_6 hWn) rfl hsz ?_
  refine q_I2 (N := m_X3_init) dX4_written_12 lk_X4_45 mI_X3_init (c_minit hWn (nw_se (m := 3)) (Nat.lt_succ_self _) (Nat.le_trans h8 (Nat.le_succ _)) hR.2.1) (by decide) (Nat.le_of_ble_eq_true rfl) (Nat.le_of_ble_eq_true rfl) ?_
  exact am_x_aret dX4_written_15 rfl (Or.inl ⟨_, rfl⟩)
theorem Wd.wP {h : am_H} (hW : Wd h) {r j : Nat} {v : Option Nat} (hk : ∀ q ∈ pk0, q.1 = r → q.2.1 ≠ j) : Wd (am_wP h r j v) := by
  refine ⟨hW.1, fun q hq => ?_⟩
  by_cases e : q.1 = r
  · rw [← e, wP_o (hk q hq e)]; exact hW.2 q hq
  · rw [wP_ne e]; exact hW.2 q hq
theorem pk20 : ∀ q ∈ pk0, q.1 = 20 → q.2.1 ≠ 1 := by decide
theorem pk8 (j : Nat) : ∀ q ∈ pk0, q.1 = 8 → q.2.1 ≠ j := by
  have h : ∀ q ∈ pk0, q.1 ≠ 8 := by decide
  exact fun q hq e => absurd e (h q hq)
def hfV (tl : Nat) (tp : Nat → Nat) : Int32 := match (hou tl tp).2 with
  | none => nI (hou tl tp).1
  | some _ => -1
def mfV (tl : Nat) (tp : Nat → Nat) : Int32 := match (mcs tl tp 161 0 []).2 with
  | none => nI (mcs tl tp 161 0 []).1
  | some _ => -1
theorem fin_1 {tl : Nat} {tp : Nat → Nat} {r : Nat × Option (Nat × Bool × (Nat → Nat → Nat))} : (fin tl tp r).1 = r.1 := by
  unfold fin
  split
  · rfl
  · split <;> rfl
theorem HQ.n {tl : Nat} {tp : Nat → Nat} {w : Option Value} {h2 : am_H} (m : HQ tl tp (cls tl tp 161 0 (0, false, fun _ _ => 0)) w h2) (hr : (hou tl tp).2 = none) : w = some (.int (nI (hou tl tp).1)) ∧ ∃ a, TA h2 tl tp a := by
  rw [hou_fin] at hr ⊢
  unfold HQ at m
  simp only [hr] at m
  rw [fin_1]
  exact m
theorem HQ.s {tl : Nat} {tp : Nat → Nat} {w : Option Value} {h2 : am_H} {s : Nat × Bool × (Nat → Nat → Nat)} (m : HQ tl tp (cls tl tp 161 0 (0, false, fun _ _ => 0)) w h2) (hr : (hou tl tp).2 = some s) : w = some (.int (-1)) ∧ (∃ a, TA h2 tl tp a) ∧ DX h2 s.1 s.2.1 (drs s.1 s.2.2) := by
  rw [hou_fin] at hr
  unfold HQ at m
  simp only [hr] at m
  exact m
theorem RHQ.n {tl : Nat} {tp : Nat → Nat} {w : Option Value} {h2 : am_H} (m : RHQ tl tp (cls tl tp 161 0 (0, false, fun _ _ => 0)) w h2) (hr : (hou tl tp).2 = none) : w = some (.int (nI (hou tl tp).1)) ∧ ∃ a, RA h2 tl tp a := by
  rw [hou_fin] at hr ⊢
  unfold RHQ at m
  simp only [hr] at m
  rw [fin_1]
  exact m
theorem RHQ.s {tl : Nat} {tp : Nat → Nat} {w : Option Value} {h2 : am_H} {s : Nat × Bool × (Nat → Nat → Nat)} (m : RHQ tl tp (cls tl tp 161 0 (0, false, fun _ _ => 0)) w h2) (hr : (hou tl tp).2 = some s) : w = some (.int (-1)) ∧ (∃ a, RA h2 tl tp a) ∧ RD h2 s.1 s.2.1 s.2.2 := by
  rw [hou_fin] at hr
  unfold RHQ at m
  simp only [hr] at m
  exact m
theorem MRQ.n {tl : Nat} {tp : Nat → Nat} {r : Nat × Option (List (Tks × Tks))} {w : Option Value} {h2 : am_H} (m : MRQ tl tp r w h2) (hr : r.2 = none) : w = some (.int (nI r.1)) ∧ ∃ a, TA h2 tl tp a := by
  unfold MRQ at m
  simp only [hr] at m
  exact m
theorem MRQ.s {tl : Nat} {tp : Nat → Nat} {r : Nat × Option (List (Tks × Tks))} {w : Option Value} {h2 : am_H} {M : List (Tks × Tks)} (m : MRQ tl tp r w h2) (hr : r.2 = some M) : w = some (.int (-1)) ∧ (∃ a, TA h2 tl tp a) ∧ WR h2 (lay 0 M) := by
  unfold MRQ at m
  simp only [hr] at m
  exact m
theorem RLQ.n {tl : Nat} {tp : Nat → Nat} {n : Nat} {r : Nat × Option (List (Tks × Tks))} {h h2 : am_H} {w : Option Value} (m : RLQ tl tp n r h w h2) (hr : r.2 = none) : w = some (.int (nI r.1)) ∧ NG n h h2 ∧ ∃ b, RA h2 tl tp b := by
  unfold RLQ at m
  simp only [hr] at m
  exact ⟨m.2.2, m.1, m.2.1⟩
theorem RLQ.s {tl : Nat} {tp : Nat → Nat} {n : Nat} {r : Nat × Option (List (Tks × Tks))} {h h2 : am_H} {w : Option Value} {M : List (Tks × Tks)} (m : RLQ tl tp n r h w h2) (hr : r.2 = some M) : w = some (.int (-1)) ∧ NG n h h2 ∧ (∃ b, RA h2 tl tp b) ∧ CW h2 n (flt M) ∧ KL h2 n M := by
  unfold RLQ at m
  simp only [hr] at m
  exact ⟨m.2.2.1, m.1, m.2.1, m.2.2.2⟩
set_option maxHeartbeats 2000000 in
theorem c_fault0 {h : am_H} (hW : Wd h) {tl : Nat} {tp : Nat → Nat} {a : Nat} (hA : TA h tl tp a)  : am_D 6 m_X11_fault [.ref 0, .int (nI 0)] h (fun w h2 => w = some (.int (hfV tl tp)) ∧ Fx [5] [(4, 0), (4, 1), (1, 2)] h h2 ∧ ∃ a, TA h2 tl tp a) := by
  unfold hfV
  cases hq : (hou tl tp).2 with
  | none =>
    refine Eq_iln dX11_fault_0 rfl ?_
    refine Ef_if_ne dX11_fault_1 (tgt := 12) rfl (by rfl) ?_
    refine Eq_aln dX11_fault_4 rfl ?_
    refine Eq_getR dX11_fault_5 fl_X11_21 (ws_0 hW) rfl (wp_0_1 hW) ?_
    refine Eq_W0 (N := m_X2_read) dX11_fault_8 lk_X11_128 mV_X2_read (c_read hW hA) (by decide) (ws_3 hW) rfl (by decide) (Nat.le_of_ble_eq_true rfl) (Nat.le_of_ble_eq_true rfl) (fun vq hq1 hq2 => ?_)
    obtain ⟨hf2, hq3⟩ := hq2
    obtain ⟨rfl, hA2⟩ := hq3.n hq
    refine Eq_ir dX11_fault_11 rfl ?_
    exact ⟨rfl, hf2, hA2⟩
  | some s =>
    refine Eq_iln dX11_fault_0 rfl ?_
    refine Ef_if_ne dX11_fault_1 (tgt := 12) rfl (by rfl) ?_
    refine Eq_aln dX11_fault_4 rfl ?_
    refine Eq_getR dX11_fault_5 fl_X11_21 (ws_0 hW) rfl (wp_0_1 hW) ?_
    refine Eq_W0 (N := m_X2_read) dX11_fault_8 lk_X11_128 mV_X2_read (c_read hW hA) (by decide) (ws_3 hW) rfl (by decide) (Nat.le_of_ble_eq_true rfl) (Nat.le_of_ble_eq_true rfl) (fun vq hq1 hq2 => ?_)
    obtain ⟨hf2, hq3⟩ := hq2
    obtain ⟨rfl, hA2, _⟩ := hq3.s hq
    refine Eq_ir dX11_fault_11 rfl ?_
    exact ⟨rfl, hf2, hA2⟩
set_option maxHeartbeats 2000000 in
theorem c_fault1 {h : am_H} (hW : Wd h) {tl : Nat} {tp : Nat → Nat} {a : Nat} (hA : TA h tl tp a)  : am_D 30 m_X11_fault [.ref 0, .int (nI 1)] h (fun w h2 => w = some (.int (mfV tl tp)) ∧ Fx [7] [(6, 2), (1, 2)] h h2 ∧ ∃ a, TA h2 tl tp a) := by
  unfold mfV
  cases hq : (mcs tl tp 161 0 []).2 with
  | none =>
    refine Eq_iln dX11_fault_0 rfl ?_
    refine Et_if_ne 12 dX11_fault_1 rfl (by exact zf1) ?_
    refine Eq_iln dX11_fault_12 rfl ?_
    refine Eq_ic (v := nI 1) dX11_fault_13 rfl ?_
    refine Ef_ic_ne dX11_fault_14 (tgt := 27) rfl (by rfl) ?_
    refine Eq_aln dX11_fault_17 rfl ?_
    refine Eq_getR dX11_fault_18 fl_X11_28 (ws_0 hW) rfl (wp_0_2 hW) ?_
    refine Eq_W0 (N := m_X4_read) dX11_fault_21 lk_X11_132 mV_X4_read (c_mread hW hA) (by decide) (ws_6 hW) rfl (by decide) (Nat.le_of_ble_eq_true rfl) (Nat.le_of_ble_eq_true rfl) (fun vq hq1 hq2 => ?_)
    obtain ⟨hf2, hq3⟩ := hq2
    obtain ⟨rfl, hA2⟩ := hq3.n hq
    refine Eam_x_goto (tgt := 29) dX11_fault_24 rfl ?_
    refine Eq_ir dX11_fault_29 rfl ?_
    exact ⟨rfl, hf2, hA2⟩
  | some s =>
    refine Eq_iln dX11_fault_0 rfl ?_
    refine Et_if_ne 12 dX11_fault_1 rfl (by exact zf1) ?_
    refine Eq_iln dX11_fault_12 rfl ?_
    refine Eq_ic (v := nI 1) dX11_fault_13 rfl ?_
    refine Ef_ic_ne dX11_fault_14 (tgt := 27) rfl (by rfl) ?_
    refine Eq_aln dX11_fault_17 rfl ?_
    refine Eq_getR dX11_fault_18 fl_X11_28 (ws_0 hW) rfl (wp_0_2 hW) ?_
    refine Eq_W0 (N := m_X4_read) dX11_fault_21 lk_X11_132 mV_X4_read (c_mread hW hA) (by decide) (ws_6 hW) rfl (by decide) (Nat.le_of_ble_eq_true rfl) (Nat.le_of_ble_eq_true rfl) (fun vq hq1 hq2 => ?_)
    obtain ⟨hf2, hq3⟩ := hq2
    obtain ⟨rfl, hA2, _⟩ := hq3.s hq
    refine Eam_x_goto (tgt := 29) dX11_fault_24 rfl ?_
    refine Eq_ir dX11_fault_29 rfl ?_
    exact ⟨rfl, hf2, hA2⟩
set_option maxHeartbeats 2000000 in
theorem c_fault2 {h : am_H} (hW : Wd h) {x : Int32} (h0 : ¬ x = 0) (h1 : ¬ x = nI 1) : am_C 0 m_X11_fault [.ref 0, .int x] h (some (.int (-2)), h) := by
  refine q_iln dX11_fault_0 rfl ?_
  refine t_if_ne 12 dX11_fault_1 rfl (by exact h0) ?_
  refine q_iln dX11_fault_12 rfl ?_
  refine q_ic (v := nI 1) dX11_fault_13 rfl ?_
  refine t_ic_ne 27 dX11_fault_14 rfl (by exact h1) ?_
  refine q_bp (v := -2) dX11_fault_27 rfl ?_
  refine q_ir dX11_fault_29 rfl ?_
  rfl
theorem cls_tl {tl : Nat} {tp : Nat → Nat} : ∀ k a st, a ≤ tl → (cls tl tp k a st).1 ≤ tl
  | 0, a, st, h => h
  | k + 1, a, st, h => by
    have hc := cla_le (tp := tp) (st := st) h
    cases hq : (cla tl tp st a).2 with
    | none => rw [cls_n hq]; exact hc.1
    | some s =>
      by_cases e : sgn tl tp (nx tl tp (cla tl tp st a).1) = some 59
      · rw [cls_y hq e]
        exact cls_tl k _ _ (by have := (sgn_lt e).1; omega)
      · rw [cls_e hq e]
        exact nx_le hc.1
theorem mcs_tl {tl : Nat} {tp : Nat → Nat} : ∀ k a M, a ≤ tl → (mcs tl tp k a M).1 ≤ tl
  | 0, a, M, h => h
  | k + 1, a, M, h => by
    have hc := mcl_pr (tp := tp) h
    cases hq : (mcl tl tp a).2 with
    | none => rw [mcs_n hq]; exact hc.2.1
    | some s =>
      by_cases e : sgn tl tp (nx tl tp (mcl tl tp a).1) = some 59
      · rw [mcs_y hq e]
        exact mcs_tl k _ _ (by have := (sgn_lt e).1; omega)
      · by_cases e2 : sgn tl tp (nx tl tp (mcl tl tp a).1) = none
        · rw [mcs_e hq e e2]; exact nx_le hc.2.1
        · rw [mcs_f hq e e2]; exact nx_le hc.2.1
set_option maxHeartbeats 2000000 in
theorem c_text0N {h : am_H} (hW : Wd h) {tl : Nat} {tp : Nat → Nat} {a : Nat} (hA : TA h tl tp a) (hq : (hou tl tp).2 = none) : am_D 6 m_X11_text [.ref 0, .int (nI 0)] h (fun w h2 => w = some (.int (-1)) ∧ Fx [5] [(4, 0), (4, 1), (1, 2)] h h2 ∧ ∃ a, TA h2 tl tp a) := by
  have hb : (hou tl tp).1 < 2 ^ 31 := by
    rw [hou_fin, fin_1]
    have := cls_tl (tl := tl) (tp := tp) 161 0 (0, false, fun _ _ => 0) (by omega)
    have := hA.1.2.1
    omega
  refine Eq_iln dX11_text_0 rfl ?_
  refine Ef_if_ne dX11_text_1 (tgt := 24) rfl (by rfl) ?_
  refine Eq_aln dX11_text_4 rfl ?_
  refine Eq_getR dX11_text_5 fl_X11_21 (ws_0 hW) rfl (wp_0_1 hW) ?_
  refine Eq_W0 (N := m_X2_read) dX11_text_8 lk_X11_128 mV_X2_read (c_read hW hA) (by decide) (ws_3 hW) rfl (by decide) (Nat.le_of_ble_eq_true rfl) (Nat.le_of_ble_eq_true rfl) (fun vq hq1 hq2 => ?_)
  obtain ⟨hf2, hq3⟩ := hq2
  obtain ⟨rfl, hA2⟩ := hq3.n hq
  refine Eq_ic (v := -1) dX11_text_11 rfl ?_
  refine Et_ic_ne 22 dX11_text_12 rfl (by exact nI_m1 hb) ?_
  refine Eq_ic (v := -1) dX11_text_22 rfl ?_
  refine Eq_ir dX11_text_23 rfl ?_
  exact ⟨rfl, hf2, hA2⟩
set_option maxHeartbeats 2000000 in
theorem c_text0Y {h : am_H} (hW : Wd h) {tl : Nat} {tp : Nat → Nat} {a : Nat} (hA : TA h tl tp a) {s : Nat × Bool × (Nat → Nat → Nat)} (hq : (hou tl tp).2 = some s) : am_D 6 m_X11_text [.ref 0, .int (nI 0)] h (fun w h2 => w = some (.int (nI s.1)) ∧ Fx [5, 9, 10, 12, 13, 26] [(4, 0), (4, 1), (1, 2), (11, 0), (16, 3), (37, 0), (0, 13), (1, 1), (29, 7)] h h2 ∧ MB h2 s.1 s.2.1 (drs s.1 s.2.2) ∧ SB 11 12 13 h2 s.1 (fun s => s) (fun s => s) ∧ KF h2 ∧ am_i h2 16 3 = nI 0 ∧ am_i h2 37 0 = nI 0 ∧ am_i h2 0 13 = nI 0 ∧ am_i h2 1 1 = nI 0 ∧ ∃ a, am_i h2 1 2 = nI a) := by
  refine Eq_iln dX11_text_0 rfl ?_
  refine Ef_if_ne dX11_text_1 (tgt := 24) rfl (by rfl) ?_
  refine Eq_aln dX11_text_4 rfl ?_
  refine Eq_getR dX11_text_5 fl_X11_21 (ws_0 hW) rfl (wp_0_1 hW) ?_
  refine Eq_W0 (N := m_X2_read) dX11_text_8 lk_X11_128 mV_X2_read (c_read hW hA) (by decide) (ws_3 hW) rfl (by decide) (Nat.le_of_ble_eq_true rfl) (Nat.le_of_ble_eq_true rfl) (fun vq hq1 hq2 => ?_)
  obtain ⟨hf2, hq3⟩ := hq2
  obtain ⟨rfl, hA2, hD2⟩ := hq3.s hq
  have hW2 := hf2.Wd hW
  refine Eq_ic (v := -1) dX11_text_11 rfl ?_
  refine Ef_ic_ne dX11_text_12 (tgt := 22) rfl (by rfl) ?_
  refine Eq_aln dX11_text_15 rfl ?_
  refine Eq_W0 (N := m_X11_moveIn) dX11_text_16 lk_X11_133 mV_X11_moveIn (c_moveIn hW2 hD2.mx) (by decide) (ws_0 hW2) rfl (by decide) (Nat.le_of_ble_eq_true rfl) (Nat.le_of_ble_eq_true rfl) (fun vq hq1 hq2 => ?_)
  obtain ⟨rfl, hf3, hq4⟩ := hq2
  refine Eam_x_goto (tgt := 23) dX11_text_19 rfl ?_
  refine Eq_ir dX11_text_23 rfl ?_
  obtain ⟨b, hb⟩ := hA2
  exact ⟨rfl, (hf2.mono (by decide) (by decide)).tr (hf3.mono (by decide) (by decide)), hq4.1, hq4.2.1, hq4.2.2.1, hq4.2.2.2.1, hq4.2.2.2.2.1, hq4.2.2.2.2.2.1, hq4.2.2.2.2.2.2, b, (hf3.i (by decide) (by decide)).trans hb.2.1⟩
set_option maxHeartbeats 2000000 in
theorem c_text1F {h : am_H} (hW : Wd h) {mc : Nat} (hmc : am_i h 0 4 = nI mc) (hm4 : mc ≤ 4) (hm : ¬ mc < 4) : am_C 0 m_X11_text [.ref 0, .int (nI 1)] h (some (.int (-1)), h) := by
  refine q_iln dX11_text_0 rfl ?_
  refine t_if_ne 24 dX11_text_1 rfl (by exact zf1) ?_
  refine q_iln dX11_text_24 rfl ?_
  refine q_ic (v := nI 1) dX11_text_25 rfl ?_
  refine f_ic_ne dX11_text_26 (tgt := 48) rfl (by rfl) ?_
  refine q_aln dX11_text_29 rfl ?_
  refine q_getI dX11_text_30 fl_X11_38 (ws_0 hW) rfl hmc ?_
  refine q_ic (v := nI 4) dX11_text_33 rfl ?_
  refine t_ic_ge 48 dX11_text_34 rfl (by exact nI_le (by omega) (by omega)) ?_
  refine q_ic (v := -1) dX11_text_48 rfl ?_
  refine q_ir dX11_text_49 rfl ?_
  rfl
set_option maxHeartbeats 2000000 in
theorem c_text1N {h : am_H} (hW : Wd h) {tl : Nat} {tp : Nat → Nat} {a : Nat} (hA : TA h tl tp a) {mc : Nat} (hmc : am_i h 0 4 = nI mc) (hm4 : mc ≤ 4) (hm : mc < 4) (hq : (mcs tl tp 161 0 []).2 = none) : am_D 30 m_X11_text [.ref 0, .int (nI 1)] h (fun w h2 => w = some (.int (-1)) ∧ Fx [7] [(6, 2), (1, 2)] h h2 ∧ ∃ a, TA h2 tl tp a) := by
  have hb : (mcs tl tp 161 0 []).1 < 2 ^ 31 := by
    have := mcs_tl (tl := tl) (tp := tp) 161 0 [] (by omega)
    have := hA.1.2.1
    omega
  refine Eq_iln dX11_text_0 rfl ?_
  refine Et_if_ne 24 dX11_text_1 rfl (by exact zf1) ?_
  refine Eq_iln dX11_text_24 rfl ?_
  refine Eq_ic (v := nI 1) dX11_text_25 rfl ?_
  refine Ef_ic_ne dX11_text_26 (tgt := 48) rfl (by rfl) ?_
  refine Eq_aln dX11_text_29 rfl ?_
  refine Eq_getI dX11_text_30 fl_X11_38 (ws_0 hW) rfl hmc ?_
  refine Eq_ic (v := nI 4) dX11_text_33 rfl ?_
  refine Ef_ic_ge dX11_text_34 (tgt := 48) rfl (by exact nI_ge (by omega) (by omega)) ?_
  refine Eq_aln dX11_text_37 rfl ?_
  refine Eq_getR dX11_text_38 fl_X11_28 (ws_0 hW) rfl (wp_0_2 hW) ?_
  refine Eq_W0 (N := m_X4_read) dX11_text_41 lk_X11_132 mV_X4_read (c_mread hW hA) (by decide) (ws_6 hW) rfl (by decide) (Nat.le_of_ble_eq_true rfl) (Nat.le_of_ble_eq_true rfl) (fun vq hq1 hq2 => ?_)
  obtain ⟨hf2, hq3⟩ := hq2
  obtain ⟨rfl, hA2⟩ := hq3.n hq
  refine Eq_ic (v := -1) dX11_text_44 rfl ?_
  refine Ef_ic_eq dX11_text_45 (tgt := 50) rfl (by exact nI_m1 hb) ?_
  refine Eq_ic (v := -1) dX11_text_48 rfl ?_
  refine Eq_ir dX11_text_49 rfl ?_
  exact ⟨rfl, hf2, hA2⟩
set_option maxHeartbeats 2000000 in
theorem c_text1Y {h : am_H} (hW : Wd h) {tl : Nat} {tp : Nat → Nat} {a : Nat} (hA : TA h tl tp a) {mc : Nat} (hmc : am_i h 0 4 = nI mc) (hm4 : mc ≤ 4) (hm : mc < 4) (h8 : 80 ≤ am_t h) {M : List (Tks × Tks)} (hq : (mcs tl tp 161 0 []).2 = some M) : am_D 30 m_X11_text [.ref 0, .int (nI 1)] h (fun w h2 => w = some (.int (nI mc)) ∧ ∃ hq, Fx [7] [(6, 2), (1, 2)] h hq ∧ (∃ a, TA hq tl tp a) ∧ WR hq (lay 0 M) ∧ h2 = am_wI (am_wI (am_wP (mwH hq (lay 0 M).length) 8 mc (some (am_t h))) 0 4 (nI (mc + 1))) 1 1 (nI 0)) := by
  have cmc : (nI mc).toNatClampNeg = mc := nI_clamp (by omega)
  refine Eq_iln dX11_text_0 rfl ?_
  refine Et_if_ne 24 dX11_text_1 rfl (by exact zf1) ?_
  refine Eq_iln dX11_text_24 rfl ?_
  refine Eq_ic (v := nI 1) dX11_text_25 rfl ?_
  refine Ef_ic_ne dX11_text_26 (tgt := 48) rfl (by rfl) ?_
  refine Eq_aln dX11_text_29 rfl ?_
  refine Eq_getI dX11_text_30 fl_X11_38 (ws_0 hW) rfl (by first | exact hmc2 | exact hmc) ?_
  refine Eq_ic (v := nI 4) dX11_text_33 rfl ?_
  refine Ef_ic_ge dX11_text_34 (tgt := 48) rfl (by exact nI_ge (by omega) (by omega)) ?_
  refine Eq_aln dX11_text_37 rfl ?_
  refine Eq_getR dX11_text_38 fl_X11_28 (ws_0 hW) rfl (wp_0_2 hW) ?_
  refine Eq_W0 (N := m_X4_read) dX11_text_41 lk_X11_132 mV_X4_read (c_mread hW hA) (by decide) (ws_6 hW) rfl (by decide) (Nat.le_of_ble_eq_true rfl) (Nat.le_of_ble_eq_true rfl) (fun vq hq1 hq2 => ?_)
  obtain ⟨hf2, hq3⟩ := hq2
  obtain ⟨rfl, hA2, hR2⟩ := hq3.s hq
  have hW2 := hf2.Wd hW
  have ht2 : am_t hq1 = am_t h := (by have := hf2.2.1; exact congrArg (fun z => z.2.1) this)
  have hmc2 : am_i hq1 0 4 = nI mc := (hf2.i (by decide) (by decide)).trans hmc
  have hWm : Wd (mwH hq1 (lay 0 M).length) := mwH_bl.Wd (by omega) hW2
  have hWp : Wd (am_wP (mwH hq1 (lay 0 M).length) 8 mc (some (am_t hq1))) := hWm.wP (pk8 mc)
  have hMN := mwH_mn (by omega) hR2
  have hmc3 : am_i (mwH hq1 (lay 0 M).length) 0 4 = nI mc := (congrFun (mwH_bl 0 (by omega)).2.1 4).trans hmc2
  refine Eq_ic (v := -1) dX11_text_44 rfl ?_
  refine Et_ic_eq 50 dX11_text_45 rfl (by rfl) ?_
  refine Eq_aln dX11_text_50 rfl ?_
  refine Eq_getR dX11_text_51 fl_X11_34 (ws_0 hW2) rfl (wp_0_3 hW2) ?_
  refine Eq_aln dX11_text_54 rfl ?_
  refine Eq_getI dX11_text_55 fl_X11_38 (ws_0 hW2) rfl (by first | exact hmc2 | exact hmc) ?_
  refine Eq_aln dX11_text_58 rfl ?_
  refine Eq_getR dX11_text_59 fl_X11_28 (ws_0 hW2) rfl (wp_0_2 hW2) ?_
  refine Eq_V0 (N := m_X4_written) dX11_text_62 lk_X11_136 mV_X4_written (c_written hW2 hR2 (by omega)) (by decide) (ws_6 hW2) rfl (by decide) (Nat.le_of_ble_eq_true rfl) (Nat.le_of_ble_eq_true rfl) ?_
  refine Eam_x_qast dX11_text_65 (ws_8 hWm) hMN.1 (vp_in_nI (by omega) (by omega)) ?_
  rw [cmc]
  refine Eq_aln dX11_text_66 rfl ?_
  refine Eam_x_pu dX11_text_67 rfl ?_
  refine Eq_getI dX11_text_68 fl_X11_38 (ws_0 hWp) rfl hmc3 ?_
  refine Eq_ic (v := nI 1) dX11_text_71 rfl ?_
  first | refine Eq_add dX11_text_72 ?_ | refine Eam_x_pu dX11_text_72 rfl ?_
  refine Eam_x_putI dX11_text_73 (fw_X11_38 rfl) (ws_0 hWp) (Or.inl rfl) ?_
  refine Eq_aln dX11_text_76 rfl ?_
  refine Eq_getR dX11_text_77 fl_X11_10 (ws_0 hWp) rfl (wp_0_0 hWp) ?_
  refine Eq_ic (v := nI 0) dX11_text_80 rfl ?_
  refine Eam_x_putI dX11_text_81 (fw_X11_125 rfl) (ws_1 hWp) (Or.inl rfl) ?_
  refine Eq_aln dX11_text_84 rfl ?_
  refine Eq_getI dX11_text_85 fl_X11_38 (ws_0 hWp) rfl (by rw [wI_ne (by decide), wI_e0]) ?_
  refine Eq_ic (v := nI 1) dX11_text_88 rfl ?_
  first | refine Eq_sub dX11_text_89 (by omega) ?_ | refine Eam_x_pu dX11_text_89 rfl ?_
  refine Eq_ir dX11_text_90 rfl ?_
  exact ⟨rfl, hq1, hf2, hA2, hR2, by rw [ht2]⟩
set_option maxHeartbeats 2000000 in
theorem c_text2 {h : am_H} (hW : Wd h) {x : Int32} (h0 : ¬ x = 0) (h1 : ¬ x = nI 1) : am_C 0 m_X11_text [.ref 0, .int x] h (some (.int (-1)), h) := by
  refine q_iln dX11_text_0 rfl ?_
  refine t_if_ne 24 dX11_text_1 rfl (by exact h0) ?_
  refine q_iln dX11_text_24 rfl ?_
  refine q_ic (v := nI 1) dX11_text_25 rfl ?_
  refine t_ic_ne 48 dX11_text_26 rfl (by exact h1) ?_
  refine q_ic (v := -1) dX11_text_48 rfl ?_
  refine q_ir dX11_text_49 rfl ?_
  rfl
