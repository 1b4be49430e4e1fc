/-! manners put by; faults and texts of the class -/
theorem wP_e0 {h : am_H} {r j : Nat} {v : Option Nat} : am_p (am_wP h r j v) r j = v := by
  show am_up h.2.2.2.1 r j v r j = v
  rw [am_up_eq, if_pos rfl]
theorem wP_o {h : am_H} {r j k : Nat} {v : Option Nat} (e : k ≠ j) : am_p (am_wP h r j v) r k = am_p h r k := by
  show am_up h.2.2.2.1 r j v r k = _
  rw [am_up_eq, if_neg e]
theorem wP_ne {h : am_H} {r r' j : Nat} {v : Option Nat} (e : r' ≠ r) : am_p (am_wP h r j v) r' = am_p h r' := am_up_ne e
theorem nw_se {h : am_H} {sh : Nat × Nat} {m : Nat} : am_s (am_nw h sh m) (am_t h) = some sh := by
  show (bif Nat.beq (am_t h) (am_t h) then some sh else h.1 (am_t h)) = some sh
  rw [am_beq]; rfl
theorem nw_sn {h : am_H} {sh : Nat × Nat} {m r : Nat} (e : r ≠ am_t h) : am_s (am_nw h sh m) r = am_s h r := by
  show (bif Nat.beq r (am_t h) then some sh else h.1 r) = h.1 r
  rw [am_bne e]; rfl
theorem nw_in {h : am_H} {sh : Nat × Nat} {m r : Nat} (e : r ≠ am_t h) : am_i (am_nw h sh m) r = am_i h r := am_ro_ne e
theorem nw_ln {h : am_H} {sh : Nat × Nat} {m r : Nat} (e : r ≠ am_t h) : am_l (am_nw h sh m) r = am_l h r := am_ro_ne e
theorem nw_pn {h : am_H} {sh : Nat × Nat} {m r : Nat} (e : r ≠ am_t h) : am_p (am_nw h sh m) r = am_p h r := am_ro_ne e
/-- nothing below the cells made is touched -/
def Bl (h h2 : am_H) : Prop := ∀ x, x < am_t h → am_s h2 x = am_s h x ∧ am_i h2 x = am_i h x ∧ am_l h2 x = am_l h x ∧ am_p h2 x = am_p h x
theorem Bl.Wd {h h2 : am_H} (b : Bl h h2) (h8 : 80 ≤ am_t h) (hW : Wd h) : Wd h2 := by
  refine ⟨fun r hr => ?_, fun q hq => ?_⟩
  · rw [(b r (by omega)).1]; exact hW.1 r hr
  · have h1 := hW.2 q hq
    have h2 : ∀ q ∈ pk0, q.1 < 80 := by decide
    rw [(b q.1 (by have := h2 q hq; omega)).2.2.2]
    exact h1
set_option maxHeartbeats 2000000 in
theorem c_minit {h : am_H} (hW : Wd h) {r N : Nat} (hr : am_s h r = some (3, 0)) (hrt : r < am_t h) (h8 : 80 ≤ am_t h) (hN : N ≤ 160) : am_C 2 m_X3_init [.ref r, .ref 7, .int (nI N)] h (none, (am_wI (am_wP (am_nw (am_rI (am_wP (am_nw h (100, N) N) r 0 (some (am_t h))) (am_t h) (va_cpy (am_i (am_wP (am_nw h (100, N) N) r 0 (some (am_t h))) 7) (am_i (am_wP (am_nw h (100, N) N) r 0 (some (am_t h))) (am_t h)) 0 0 N)) (100, N + 1) (N + 1)) r 1 (some (am_t h + 1))) r 2 (nI 0))) := by
  have e1 : (if nI 160 < nI N then nI 160 else nI N) = nI N := if_neg (nI_nlt (by omega) (by omega))
  have e2 : (if nI 0 < nI N then nI N else nI 0) = nI N := by
    by_cases h0 : N = 0
    · subst h0; rfl
    · exact if_pos (nI_lt (by omega) (by omega))
  have cN : (nI N).toNatClampNeg = N := nI_clamp (by omega)
  have cN1 : (nI (N + 1)).toNatClampNeg = N + 1 := nI_clamp (by omega)
  have c0 : (nI 0).toNatClampNeg = 0 := nI_clamp (by omega)
  have hne : r ≠ am_t h := by omega
  have sr1 : am_s (am_nw h (100, N) N) r = some (3, 0) := by rw [nw_sn hne]; exact hr
  have s7 : am_s (am_wP (am_nw h (100, N) N) r 0 (some (am_t h))) 7 = some (100, 160) := by show am_s (am_nw h (100, N) N) 7 = _; rw [nw_sn (by omega)]; exact ws_7 hW
  have ss : am_s (am_wP (am_nw h (100, N) N) r 0 (some (am_t h))) (am_t h) = some (100, N) := nw_se (m := N)
  have ps : am_p (am_wP (am_nw h (100, N) N) r 0 (some (am_t h))) r 0 = some (am_t h) := wP_e0
  have sr4 : am_s (am_nw (am_rI (am_wP (am_nw h (100, N) N) r 0 (some (am_t h))) (am_t h) (va_cpy (am_i (am_wP (am_nw h (100, N) N) r 0 (some (am_t h))) 7) (am_i (am_wP (am_nw h (100, N) N) r 0 (some (am_t h))) (am_t h)) 0 0 N)) (100, N + 1) (N + 1)) r = some (3, 0) := by rw [nw_sn (show r ≠ am_t h + 1 by omega)]; exact sr1
  refine q_aln dX3_init_0 rfl ?_
  refine am_x_oi dX3_init_1 (by decide) (Nat.le_of_ble_eq_true rfl) lo_X3_3 wd_oi wd_oc ?_
  refine q_ic (v := nI 0) dX3_init_4 rfl ?_
  refine q_iln dX3_init_5 rfl ?_
  refine q_aln dX3_init_6 rfl ?_
  refine am_x_alen dX3_init_7 (ws_7 hW) (by decide) ?_
  refine q_min dX3_init_8 lk_X3_9 js_J9_min_7cf53 in_J9 jc_J9_min_7cf53 (by decide) (Nat.le_of_ble_eq_true rfl) ?_
  rw [show (Int32.ofNat 160 : Int32) = nI 160 from rfl, e1]
  refine q_max dX3_init_11 lk_X3_15 js_J9_max_7cf53 in_J9 jc_J9_max_7cf53 (by decide) (Nat.le_of_ble_eq_true rfl) ?_
  rw [e2]
  refine q_isn dX3_init_14 (by decide) ?_
  refine am_nl (pc' := 15) (l' := [_, _, _, _]) rfl rfl ?_
  refine q_aln dX3_init_15 rfl ?_
  refine q_iln dX3_init_16 rfl ?_
  refine am_x_newI (N := N) dX3_init_17 (nI_ge0 (by omega)) cN (by omega) wd_int ?_
  refine am_x_putR (v := some (am_t h)) dX3_init_19 (fw_X3_18 rfl rfl) sr1 (Or.inr ⟨_, rfl⟩) ?_
  refine q_aln dX3_init_22 rfl ?_
  refine q_ic (v := nI 0) dX3_init_23 rfl ?_
  refine q_aln dX3_init_24 rfl ?_
  refine q_getR dX3_init_25 fl_X3_18 sr1 rfl ps ?_
  refine q_ic (v := nI 0) dX3_init_28 rfl ?_
  refine q_iln dX3_init_29 rfl ?_
  refine am_x_cpI dX3_init_30 (by decide) (Nat.le_of_ble_eq_true rfl) lc_X3_24 wd_an wd_as wd_ai (r0 := 7) (r1 := am_t h) (n0 := 160) (n1 := N) s7 ss (by decide +kernel) (by decide +kernel) (nI_ge0 (by omega)) (by rw [c0, cN]; omega) (by rw [c0, cN]; omega) ?_
  rw [c0, cN]
  refine q_aln dX3_init_33 rfl ?_
  refine q_iln dX3_init_34 rfl ?_
  refine q_ic (v := nI 1) dX3_init_35 rfl ?_
  first | refine q_add dX3_init_36 ?_ | refine am_x_pu dX3_init_36 rfl ?_
  refine am_x_newI (N := N + 1) dX3_init_37 (nI_ge0 (by omega)) cN1 (by omega) wd_int ?_
  refine am_x_putR (v := some (am_t h + 1)) dX3_init_39 (fw_X3_30 rfl rfl) sr4 (Or.inr ⟨_, rfl⟩) ?_
  refine q_aln dX3_init_42 rfl ?_
  refine q_ic (v := nI 0) dX3_init_43 rfl ?_
  refine am_x_putI dX3_init_44 (fw_X3_33 rfl) sr4 (Or.inl rfl) ?_
  refine q_vr dX3_init_47 rfl ?_
  rfl
