/-! text, fault, manners: both sides -/
theorem TD.to {h h' : am_H} {k : Nat} {z : ZT} (m : TD h k z) (e8 : am_p h' 8 k = am_p h 8 k) (hb : ∀ x, 80 ≤ x → x < am_t h → am_s h' x = am_s h x ∧ am_p h' x = am_p h x) (hi : am_i h' z.2.1 = am_i h z.2.1) (hl : LW h' k z.2.2.2) (ht : am_t h ≤ am_t h') : TD h' k z := by
  obtain ⟨t1, ⟨a1, a2, a3, a4, a5, a6, a7, a8, a9, a10, a11, a12, a13⟩, t3, t4, t5, t6, t7⟩ := m
  have b1 := hb _ a11 t5
  have b2 := hb _ a12 t6
  have b3 := hb _ a13 t7
  refine ⟨e8.trans t1, ⟨b1.1.trans a1, by rw [b1.2]; exact a2, by rw [b1.2]; exact a3, b2.1.trans a4, b3.1.trans a5, a6, by rw [hi]; exact a7, a8, a9, a10, a11, a12, a13⟩, t3, hl, by omega, by omega, by omega⟩
theorem LW.ng {h h' : am_H} {n k : Nat} {M : List (Tks × Tks)} (m : LW h k M) (a : NG n h h') (hk : k ≠ n) : LW h' k M := by
  obtain ⟨m1, m2, m3, m4, m5, m6⟩ := m
  refine ⟨m1, m2, m3, fun i hi => ?_, ((a.2.2.1 k hk).2).trans m5, fun i hi => ?_⟩
  · have e := a.2.1 (340 * k + i) (by omega)
    rw [e.1, e.2]
    exact m4 i hi
  · have e := a.2.2.2 (90 * k + i) (by omega)
    rw [e.1, e.2.1, e.2.2]
    exact m6 i hi
theorem cls_most {tl : Nat} {tp : Nat → Nat} : ∀ k a st, a ≤ tl → (∀ i m, st.2.2 i m ≤ most i) → ∀ s, (cls tl tp k a st).2 = some s → ∀ i m, s.2.2 i m ≤ most i
  | 0, _, _, _, _, s, h => by simp only [cls] at h; cases h
  | k + 1, a, st, ha, hm, s, h => by
    cases hc : (cla tl tp st a).2 with
    | none => rw [cls_n hc] at h; cases h
    | some st' =>
      have h1 : ∀ i m, st'.2.2 i m ≤ most i := by
        by_cases e1 : sgn tl tp (nx tl tp a) = some 114 ∧ st.2.1 = false
        · rw [cla_r e1.1 e1.2] at hc; cases hc; exact hm
        · by_cases e2 : sgn tl tp (nx tl tp a) = some 109 ∧ st.1 < 7
          · have hl := (sgn_lt e2.1).1
            rw [cla_m e2.1 e2.2] at hc
            cases hi : (its tl tp 8 0 (nx tl tp a + 1) usu).2 with
            | none => simp [hi] at hc
            | some G =>
              simp only [hi, Option.map_some] at hc
              cases hc
              have := its_most 8 0 (nx tl tp a + 1) usu (by omega) (fun i => usu_most) G hi
              intro i m
              show (if m = st.1 then G i else st.2.2 i m) ≤ most i
              split
              · exact this i
              · exact hm i m
          · rw [cla_n e1 e2] at hc; cases hc
      by_cases e : sgn tl tp (nx tl tp (cla tl tp st a).1) = some 59
      · rw [cls_y hc e] at h
        have hl := (sgn_lt e).1
        exact cls_most k _ _ (by omega) h1 s h
      · rw [cls_e hc e] at h
        cases h
        exact h1
theorem hou_2 {tl : Nat} {tp : Nat → Nat} {s : Nat × Bool × (Nat → Nat → Nat)} (h : (hou tl tp).2 = some s) : 2 ≤ s.1 ∧ ∀ i m, m < s.1 → s.2.2 i m ≤ most i := by
  unfold hou at h
  split at h
  · cases h
  · next st hc =>
    split at h
    · next e =>
      cases h
      exact ⟨e.2, fun i m _ => cls_most 161 0 _ (Nat.zero_le _) (fun _ _ => Nat.zero_le _) _ hc i m⟩
    · cases h
theorem mcs_ln {tl : Nat} {tp : Nat → Nat} : ∀ k a M, a ≤ tl → 2 * M.length ≤ a → ∀ M', (mcs tl tp k a M).2 = some M' → 2 * M'.length ≤ tl
  | 0, _, _, _, _, s, h => by simp only [mcs] at h; cases h
  | k + 1, a, M, ha, hm, M', h => by
    cases hc : (mcl tl tp a).2 with
    | none => rw [mcs_n hc] at h; cases h
    | some c =>
      have h2 := mcl_2 ha c hc
      have h3 := (mcl_pr (tp := tp) ha).2.1
      have h4 := nx_ge (tl := tl) (tp := tp) (a := (mcl tl tp a).1)
      have hl : (M ++ [c]).length = M.length + 1 := by simp
      by_cases e : sgn tl tp (nx tl tp (mcl tl tp a).1) = some 59
      · rw [mcs_y hc e] at h
        have := (sgn_lt e).1
        exact mcs_ln k _ _ (by omega) (by omega) M' h
      · by_cases e2 : sgn tl tp (nx tl tp (mcl tl tp a).1) = none
        · rw [mcs_e hc e e2] at h
          cases h
          omega
        · rw [mcs_f hc e e2] at h; cases h
theorem mnO_lt {mc : Nat} (hm : mc ≤ 4) {x : Int32} {k : Option Nat} (h : mnO mc x = some k) : ∀ i, k = some i → i < mc := by
  unfold mnO at h
  split at h
  · cases h; intro i hi; cases hi
  · intro i hi
    subst hi
    cases hr : rg x mc with
    | none => rw [hr] at h; cases h
    | some j => rw [hr] at h; cases h; exact (rg_some (by omega) hr).2
set_option maxHeartbeats 2000000 in
theorem p_manners {h : am_H} (hI : INV h) {x : Int32} : PRi m_X11_manners m_X12_manners [.int x] h := by
  obtain ⟨n, g, F, S, T, tl, tp, mc, Z, hold, kn, ks, ky, hd, y, p, st, dr, m⟩ := hI
  obtain ⟨⟨hW, h80⟩, ⟨hM, hS, hR, h2n, h0g⟩, ⟨hP, ra, hRA⟩, m3, m4, hKP, hKC, ⟨hK, hKr⟩, ⟨hT, hTr, hZ⟩, m9⟩ := id m
  obtain ⟨v1, h1, k1, q1⟩ := c_manners hW m3.1 m3.2.2.1 (fun k hk z => by rw [(m3.2.2.2.1 k hk).1] at z; cases z) (x := x)
  cases hO : mnO mc x with
  | none =>
    rw [hO] at q1
    obtain ⟨e1, e0⟩ := q1
    subst e1
    subst e0
    obtain ⟨v2, h2, k2, q2⟩ := r_manners hW m3.2.1 m3.2.2.1 (x := x)
    rw [hO] at q2
    obtain ⟨e2, e0⟩ := q2
    subst e2
    subst e0
    exact ⟨_, _, _, _, _, by decide, by decide, k1, k2, hW, ⟨_, _, _, _, _, _, _, _, _, _, _, _, _, _, _, _, _, _, m⟩, by omega, by omega, rfl, rfl⟩
  | some k =>
    rw [hO] at q1
    obtain ⟨e1, f1, z1, n1⟩ := q1
    subst e1
    have hlt := mnO_lt m3.2.2.1 hO
    have f1 : Fx [26] [(0, 5)] (am_wP h 20 1 (k.map (fun k => (Z k).1))) h1 := by
      cases k with
      | none => exact f1
      | some i =>
        have e := (m3.2.2.2.1 i (hlt i rfl)).1
        have f1' : Fx [26] [(0, 5)] (am_wP h 20 1 (am_p h 8 i)) h1 := f1
        rw [e] at f1'
        exact f1'
    have hWp : Wd (am_wP h 20 1 (k.map (fun k => (Z k).1))) := hW.wP pk20
    have hW1 := f1.Wd hWp
    obtain ⟨v2, h2, k2, q2⟩ := r_manners hW1 ((f1.i (by decide) (by decide)).trans m3.2.1) m3.2.2.1 (x := x)
    rw [hO] at q2
    obtain ⟨e2, f2, n2⟩ := q2
    subst e2
    have f : Fx [26] [(0, 5), (50, 24)] (am_wP h 20 1 (k.map (fun k => (Z k).1))) h2 := (f1.mono (by decide) (by decide)).tr (f2.mono (by decide) (by decide))
    have m3p : c3 (am_wP h 20 1 (k.map (fun k => (Z k).1))) mc Z := ⟨m3.1, m3.2.1, m3.2.2.1, fun j hj => (m3.2.2.2.1 j hj).to (congrFun (am_up_ne (f := h.2.2.2.1) (r := 20) (j := 1) (r' := 8) (v := k.map (fun k => (Z k).1)) (by decide)) j) (fun x h8 _ => ⟨rfl, am_up_ne (by omega)⟩) rfl (m3.2.2.2.1 j hj).2.2.2.1 (Nat.le_refl _), m3.2.2.2.2⟩
    have p1 : am_p h2 20 1 = k.map (fun k => (Z k).1) := by
      rw [f.p]
      exact wP_e0
    refine ⟨_, h1, h2, _, _, by decide, by decide, k1, k2, hW1, ⟨n, g, F, S, T, tl, tp, mc, Z, k, kn, ks, ky, hd, y, p, st, dr, ⟨f2.Wd hW1, by rw [f.t]; exact h80⟩, c1.fx (h := am_wP h 20 1 (k.map (fun k => (Z k).1))) ⟨hM, hS, hR, h2n, h0g⟩ f ⟨by decide, by decide, by decide⟩, c2.fx (h := am_wP h 20 1 (k.map (fun k => (Z k).1))) ⟨hP, ra, hRA⟩ f (by decide), m3p.fx0 f (by decide), ⟨(f2.i (by decide) (by decide)).trans n1, n2, hlt, p1⟩, KP.z (fun w hw => (f2.i (by decide) (by simp)).trans (z1 w hw)), KC.fx (h := am_wP h 20 1 (k.map (fun k => (Z k).1))) hKC f (by decide), c7.fx (h := am_wP h 20 1 (k.map (fun k => (Z k).1))) ⟨hK, hKr⟩ f (by decide), c8.fx (h := am_wP h 20 1 (k.map (fun k => (Z k).1))) ⟨hT, hTr, hZ⟩ f (by decide), c9.fx (h := am_wP h 20 1 (k.map (fun k => (Z k).1))) m9 f ⟨by decide, by decide, by decide, by decide, by decide, by decide⟩⟩, ?_, ?_, f2.t, f2.u⟩
    · rw [f1.t]; exact Nat.le_add_right _ _
    · rw [f1.u]; exact Nat.le_add_right _ _
set_option maxHeartbeats 2000000 in
theorem p_fault {h : am_H} (hI : INV h) {x : Int32} : PRi m_X11_fault m_X12_fault [.int x] h := by
  obtain ⟨n, g, F, S, T, tl, tp, mc, Z, hold, kn, ks, ky, hd, y, p, st, dr, m⟩ := hI
  obtain ⟨⟨hW, h80⟩, ⟨hM, hS, hR, h2n, h0g⟩, ⟨hP, ra, hRA⟩, m3, m4, hKP, hKC, ⟨hK, hKr⟩, ⟨hT, hTr, hZ⟩, m9⟩ := id m
  by_cases x0 : x = nI 0
  · subst x0
    obtain ⟨v1, h1, k1, e1, f1, _⟩ := c_fault0W hW hP
    subst e1
    have m1 := m.fx f1 (fun x hx => Or.inl ((show ∀ x ∈ [5], x ∈ SCR by decide) x hx)) (by decide)
    obtain ⟨⟨hW1, h801⟩, ⟨hM1, hS1, hR1, _, _⟩, ⟨hP1, ra1, hRA1⟩, m31, m41, hKP1, hKC1, ⟨hK1, hKr1⟩, ⟨hT1, hTr1, hZ1⟩, m91⟩ := id m1
    obtain ⟨v2, h2, k2, e2, f2, ra2, hA2⟩ := r_fault0 hW1 hRA1
    subst e2
    refine ⟨_, h1, h2, _, _, by decide, by decide, k1, k2, hW1, ⟨_, _, _, _, _, _, _, _, _, _, _, _, _, _, _, _, _, _, ⟨f2.Wd hW1, by rw [f2.t]; exact h801⟩, m1.2.1.fx f2 ⟨by decide, by decide, by decide⟩, ⟨hP1.fx f2 (by decide), ra2, hA2⟩, m31.fx0 f2 (by decide), m41.fx f2 (by decide), hKP1.fx f2 (by decide), hKC1.fx f2 (by decide), m1.2.2.2.2.2.2.2.1.fx f2 (by decide), m1.2.2.2.2.2.2.2.2.1.fx f2 (by decide), m91.fx f2 ⟨by decide, by decide, by decide, by decide, by decide, by decide⟩⟩, by rw [f1.t]; omega, by rw [f1.u]; omega, f2.t, f2.u⟩
  · by_cases x1 : x = nI 1
    · subst x1
      obtain ⟨v1, h1, k1, e1, f1, _⟩ := c_fault1W hW hP
      subst e1
      have m1 := m.fx f1 (fun x hx => Or.inl ((show ∀ x ∈ [7], x ∈ SCR by decide) x hx)) (by decide)
      obtain ⟨⟨hW1, h801⟩, ⟨hM1, hS1, hR1, _, _⟩, ⟨hP1, ra1, hRA1⟩, m31, m41, hKP1, hKC1, ⟨hK1, hKr1⟩, ⟨hT1, hTr1, hZ1⟩, m91⟩ := id m1
      obtain ⟨v2, h2, k2, e2, n2, ra2, hA2⟩ := r_fault1 hW1 hRA1
      subst e2
      have hm4 := m31.2.2.1
      have ng : NG 4 h1 h2 := n2
      have m3' : c3 h2 mc Z := ⟨(ng.1.i (by decide) (by decide)).trans m31.1, (ng.1.i (by decide) (by decide)).trans m31.2.1, m31.2.2.1, fun j hj => (m31.2.2.2.1 j hj).to (by rw [ng.1.p]) (fun x _ _ => ⟨by unfold am_s; rw [ng.1.1], by rw [ng.1.p]⟩) (ng.1.ia (fun z => by have := (m31.2.2.2.1 j hj).2.1.2.2.2.2.2.2.2.2.2.2.2.1; have := (show ∀ x ∈ [52, 53, 54, 55, 56, 57, 58], x < 80 by decide) _ z; omega) (fun z => by have := (m31.2.2.2.1 j hj).2.1.2.2.2.2.2.2.2.2.2.2.2.1; have := (show ∀ x ∈ [(50, 3), (50, 4), (50, 5), (50, 14)].map Prod.fst, x < 80 by decide) _ z; omega)) ((m31.2.2.2.1 j hj).2.2.2.1.ng ng (by omega)) (Nat.le_of_eq ng.1.t.symm), m31.2.2.2.2⟩
      have f2 := n2.1
      refine ⟨_, h1, h2, _, _, by decide, by decide, k1, k2, hW1, ⟨_, _, _, _, _, _, _, _, _, _, _, _, _, _, _, _, _, _, ⟨f2.Wd hW1, by rw [f2.t]; exact h801⟩, m1.2.1.fx f2 ⟨by decide, by decide, by decide⟩, ⟨hP1.fx f2 (by decide), ra2, hA2⟩, m3', m41.fx f2 (by decide), hKP1.fx f2 (by decide), hKC1.fx f2 (by decide), m1.2.2.2.2.2.2.2.1.fx f2 (by decide), m1.2.2.2.2.2.2.2.2.1.fx f2 (by decide), m91.fx f2 ⟨by decide, by decide, by decide, by decide, by decide, by decide⟩⟩, by rw [f1.t]; omega, by rw [f1.u]; omega, f2.t, f2.u⟩
    · exact ⟨_, _, _, _, _, by decide, by decide, c_fault2 hW (fun z => x0 (z.trans rfl)) x1, r_fault2 hW (fun z => x0 (z.trans rfl)) x1, hW, ⟨_, _, _, _, _, _, _, _, _, _, _, _, _, _, _, _, _, _, m⟩, by omega, by omega, rfl, rfl⟩
theorem mwH_l {h : am_H} {N : Nat} {x : Nat} (hx : x < am_t h) : am_l (mwH h N) x = am_l h x := (mwH_bl x hx).2.2.1
theorem mwH_out {h : am_H} {N r : Nat} (r0 : r ≠ am_t h) (r1 : r ≠ am_t h + 1) (r2 : r ≠ am_t h + 2) : am_i (mwH h N) r = am_i h r ∧ am_l (mwH h N) r = am_l h r := by
  have e2 : r ≠ am_t (am_nw h (3, 0) 3) := r1
  have e3 : r ≠ am_t h + 1 + 1 := r2
  constructor
  · show am_up _ (am_t h) 2 _ r = _
    rw [am_up_ne r0]
    show am_ro _ (am_t h + 1 + 1) _ r = _
    rw [am_ro_ne e3]
    show am_ro _ (am_t (am_nw h (3, 0) 3)) _ r = _
    rw [am_ro_ne e2]
    show am_ro _ (am_t (am_nw h (3, 0) 3)) _ r = _
    rw [am_ro_ne e2]
    show am_ro _ (am_t h) _ r = _
    rw [am_ro_ne r0]
  · show am_ro _ (am_t h + 1 + 1) _ r = _
    rw [am_ro_ne e3]
    show am_ro _ (am_t (am_nw h (3, 0) 3)) _ r = _
    rw [am_ro_ne e2]
    show am_ro _ (am_t h) _ r = _
    rw [am_ro_ne r0]
theorem wI_out {h : am_H} {r j : Nat} {v : Int32} {r' j' : Nat} (hn : ¬ (r' = r ∧ j' = j)) : am_i (am_wI h r j v) r' j' = am_i h r' j' := by
  by_cases e : r' = r
  · subst e
    rw [wI_eq, if_neg (fun z => hn ⟨rfl, z⟩)]
  · rw [wI_ne e]
theorem wP_out {h : am_H} {r j : Nat} {v : Option Nat} {j' : Nat} (hn : j' ≠ j) : am_p (am_wP h r j v) r j' = am_p h r j' := by
  show am_up h.2.2.2.1 r j v r j' = _
  unfold am_up
  rw [am_bne hn, Nat.beq_refl]
  rfl
set_option maxHeartbeats 2000000 in
theorem p_text {h : am_H} (hI : INV h) {x : Int32} : PRi m_X11_text m_X12_text [.int x] h := by
  obtain ⟨n, g, F, S, T, tl, tp, mc, Z, hold, kn, ks, ky, hd, y, p, st, dr, m⟩ := hI
  obtain ⟨⟨hW, h80⟩, ⟨hM, hS, hR, h2n, h0g⟩, ⟨hP, ra, hRA⟩, m3, m4, hKP, hKC, ⟨hK, hKr⟩, ⟨hT, hTr, hZ⟩, m9⟩ := id m
  by_cases x0 : x = nI 0
  · subst x0
    cases ho : (hou tl tp).2 with
    | none =>
      obtain ⟨v1, h1, k1, e1, f1, _⟩ := c_text0NW hW hP ho
      subst e1
      have m1 := m.fx f1 (fun x hx => Or.inl ((show ∀ x ∈ [5], x ∈ SCR by decide) x hx)) (by decide)
      obtain ⟨⟨hW1, h801⟩, ⟨hM1, hS1, hR1, _, _⟩, ⟨hP1, ra1, hRA1⟩, m31, m41, hKP1, hKC1, ⟨hK1, hKr1⟩, ⟨hT1, hTr1, hZ1⟩, m91⟩ := id m1
      obtain ⟨v2, h2, k2, e2, f2, ra2, hA2⟩ := r_text0N hW1 hRA1 ho
      subst e2
      refine ⟨_, h1, h2, _, _, by decide, by decide, k1, k2, hW1, ⟨_, _, _, _, _, _, _, _, _, _, _, _, _, _, _, _, _, _, ⟨f2.Wd hW1, by rw [f2.t]; exact h801⟩, m1.2.1.fx f2 ⟨by decide, by decide, by decide⟩, ⟨hP1.fx f2 (by decide), ra2, hA2⟩, m31.fx0 f2 (by decide), m41.fx f2 (by decide), hKP1.fx f2 (by decide), hKC1.fx f2 (by decide), m1.2.2.2.2.2.2.2.1.fx f2 (by decide), m1.2.2.2.2.2.2.2.2.1.fx f2 (by decide), m91.fx f2 ⟨by decide, by decide, by decide, by decide, by decide, by decide⟩⟩, by rw [f1.t]; omega, by rw [f1.u]; omega, f2.t, f2.u⟩
    | some s =>
      have h2s := hou_2 ho
      obtain ⟨v1, h1, k1, e1, f1, a1, a2, kf, a3, a4, a5, a6, aa, a7⟩ := c_text0YW hW hP ho
      subst e1
      have hW1 := f1.Wd hW
      obtain ⟨v2, h2, k2, e2, f2, b1, b2, b3, b4, b5, ab, b6, b7⟩ := r_text0Y hW1 (hRA.fx f1 (by decide)) ho h2s.2
      subst e2
      have f : Fx [5, 9, 10, 12, 13, 26, 61, 62, 63] [(4, 0), (4, 1), (1, 2), (11, 0), (16, 3), (37, 0), (0, 13), (1, 1), (29, 7), (50, 2), (50, 3), (50, 4), (50, 18), (50, 19), (50, 21), (50, 22), (50, 36), (50, 41), (50, 50)] h h2 := (f1.mono (by decide) (by decide)).tr (f2.mono (by decide) (by decide))
      have q2 : c2 h2 0 tp := ⟨⟨(f2.i (by decide) (by decide)).trans a6, by omega, fun i hi => absurd hi (Nat.not_lt_zero _)⟩, ab, ⟨b5, by omega, fun i hi => absurd hi (Nat.not_lt_zero _)⟩, b7, b6⟩
      have q7 : c7 h2 s.1 0 ks ky := ⟨⟨(f2.i (by decide) (by decide)).trans a3, by omega, fun i hi => absurd hi (Nat.not_lt_zero _)⟩, b2, by omega, fun i hi => absurd hi (Nat.not_lt_zero _)⟩
      have q8 : c8 h2 0 y p st dr := ⟨⟨(f2.i (by decide) (by decide)).trans a4, by omega, (f.l (by decide) (by decide)).trans hT.2.2.1, fun i hi => absurd hi (Nat.not_lt_zero _)⟩, ⟨b3, by omega, (f.l (by decide) (by decide)).trans hTr.2.2.1, fun i hi => absurd hi (Nat.not_lt_zero _)⟩, hZ.fx f (by decide)⟩
      exact ⟨_, h1, h2, _, _, by decide, by decide, k1, k2, hW1, ⟨_, _, _, _, _, _, _, _, _, _, _, _, _, _, _, _, _, _, ⟨f.Wd hW, by rw [f.t]; exact h80⟩, ⟨a1.fx f2 (by decide), a2.fx f2 (by decide), b1, Or.inr h2s.1, fun z => by have := h2s.1; omega⟩, q2, m3.fx0 f ⟨⟨by decide, by decide, by decide, by decide, by decide⟩, by decide, by decide⟩, m4.fx f (by decide), KP.z (fun w hw => (f2.i (by decide) (by simp)).trans (kf.1 w hw)), Or.inl ((f2.i (by decide) (by decide)).trans kf.2), q7, q8, Or.inl ⟨(f2.i (by decide) (by decide)).trans a5, b4⟩⟩, by rw [f1.t]; omega, by rw [f1.u]; omega, f2.t, f2.u⟩
  · by_cases x1 : x = nI 1
    · subst x1
      by_cases hm : mc < 4
      · cases ho : (mcs tl tp 161 0 []).2 with
        | none =>
          obtain ⟨v1, h1, k1, e1, f1, _⟩ := c_text1NW hW hP m3.1 m3.2.2.1 hm ho
          subst e1
          have m1 := m.fx f1 (fun x hx => Or.inl ((show ∀ x ∈ [7], x ∈ SCR by decide) x hx)) (by decide)
          obtain ⟨⟨hW1, h801⟩, ⟨hM1, hS1, hR1, _, _⟩, ⟨hP1, ra1, hRA1⟩, m31, m41, hKP1, hKC1, ⟨hK1, hKr1⟩, ⟨hT1, hTr1, hZ1⟩, m91⟩ := id m1
          obtain ⟨v2, h2, k2, e2, n2, ra2, hA2⟩ := r_text1N hW1 hRA1 m31.2.1 m31.2.2.1 hm ho
          subst e2
          have hm4 := m31.2.2.1
          have ng : NG mc h1 h2 := n2
          have m3' : c3 h2 mc Z := ⟨(ng.1.i (by decide) (by decide)).trans m31.1, (ng.1.i (by decide) (by decide)).trans m31.2.1, m31.2.2.1, fun j hj => (m31.2.2.2.1 j hj).to (by rw [ng.1.p]) (fun x _ _ => ⟨by unfold am_s; rw [ng.1.1], by rw [ng.1.p]⟩) (ng.1.ia (fun z => by have := (m31.2.2.2.1 j hj).2.1.2.2.2.2.2.2.2.2.2.2.2.1; have := (show ∀ x ∈ [52, 53, 54, 55, 56, 57, 58], x < 80 by decide) _ z; omega) (fun z => by have := (m31.2.2.2.1 j hj).2.1.2.2.2.2.2.2.2.2.2.2.2.1; have := (show ∀ x ∈ [(50, 3), (50, 4), (50, 5), (50, 14)].map Prod.fst, x < 80 by decide) _ z; omega)) ((m31.2.2.2.1 j hj).2.2.2.1.ng ng (by omega)) (Nat.le_of_eq ng.1.t.symm), m31.2.2.2.2⟩
          have f2 := n2.1
          refine ⟨_, h1, h2, _, _, by decide, by decide, k1, k2, hW1, ⟨_, _, _, _, _, _, _, _, _, _, _, _, _, _, _, _, _, _, ⟨f2.Wd hW1, by rw [f2.t]; exact h801⟩, m1.2.1.fx f2 ⟨by decide, by decide, by decide⟩, ⟨hP1.fx f2 (by decide), ra2, hA2⟩, m3', m41.fx f2 (by decide), hKP1.fx f2 (by decide), hKC1.fx f2 (by decide), m1.2.2.2.2.2.2.2.1.fx f2 (by decide), m1.2.2.2.2.2.2.2.2.1.fx f2 (by decide), m91.fx f2 ⟨by decide, by decide, by decide, by decide, by decide, by decide⟩⟩, by rw [f1.t]; omega, by rw [f1.u]; omega, f2.t, f2.u⟩
        | some M =>
          obtain ⟨v1, h1, k1, e1, hq, fq, ⟨aq, hAq⟩, hWR, e0⟩ := c_text1YW hW hP m3.1 m3.2.2.1 hm h80 ho
          subst e1
          have mq := m.fx fq (fun x hx => Or.inl ((show ∀ x ∈ [7], x ∈ SCR by decide) x hx)) (by decide)
          obtain ⟨⟨hWq, h8q⟩, c1q, ⟨hPq, raq, hRAq⟩, m3q, m4q, hKPq, hKCq, c7q, c8q, m9q⟩ := id mq
          have tq : am_t hq = am_t h := fq.t
          rw [← tq] at e0
          have hN : (lay 0 M).length ≤ 160 := hWR.2.1
          have bl := mwH_bl (h := hq) (N := (lay 0 M).length)
          have hMN := mwH_mn h8q hWR
          have t1 : am_t h1 = am_t hq + 3 := by rw [e0]; rfl
          have u1 : am_u h1 = am_u hq + 3 + (lay 0 M).length + ((lay 0 M).length + 1) := by rw [e0]; rfl
          have hWm : Wd (mwH hq (lay 0 M).length) := bl.Wd h8q hWq
          have hW1 : Wd h1 := by
            rw [e0]
            exact Fx.Wd (A := []) (B := [(0, 4), (1, 1)]) ((Fx.wI (Or.inr (by decide))).tr (Fx.wI (Or.inr (by decide)))) (hWm.wP (pk8 mc))
          have iv : ∀ r j, r ≠ am_t hq → r ≠ am_t hq + 1 → r ≠ am_t hq + 2 → (r, j) ∉ [(0, 4), (1, 1)] → am_i h1 r j = am_i hq r j ∧ am_l h1 r j = am_l hq r j := fun r j r0 r1 r2 hb => by
            have hm := mwH_out (h := hq) (N := (lay 0 M).length) r0 r1 r2
            have b1 : ¬ (r = 0 ∧ j = 4) := fun z => hb (by rw [z.1, z.2]; decide)
            have b2 : ¬ (r = 1 ∧ j = 1) := fun z => hb (by rw [z.1, z.2]; decide)
            rw [e0]
            refine ⟨?_, by show am_l (mwH hq (lay 0 M).length) r j = _; rw [hm.2]⟩
            rw [wI_out b2, wI_out b1]
            show am_i (mwH hq (lay 0 M).length) r j = _
            rw [hm.1]
          -- the same numbers in a heap of the old shape
          have fv : Fx [am_t hq, am_t hq + 1, am_t hq + 2] [(0, 4), (1, 1)] hq (hq.1, h1.2.1, h1.2.2.1, hq.2.2.2) := ⟨rfl, rfl, fun r j hr hb => iv r j (fun z => hr (by rw [z]; simp)) (fun z => hr (by rw [z]; simp)) (fun z => hr (by rw [z]; simp)) hb⟩
          have nA : ∀ {x : Nat}, x < 80 → x ∉ [am_t hq, am_t hq + 1, am_t hq + 2] := fun hx z => by simp at z; omega
          have c1vw := c1q.fx fv ⟨⟨nA (by decide), nA (by decide), by decide⟩, ⟨nA (by decide), nA (by decide), nA (by decide), by decide⟩, ⟨nA (by decide), nA (by decide), nA (by decide), by decide⟩⟩
          have c1v : c1 h1 n g F S T := c1vw
          have ravw := hRAq.fx fv ⟨nA (by decide), by decide, by decide, nA (by decide), by decide⟩
          have rav : RA h1 tl tp raq := ravw
          have kpvw := hKPq.fx fv ⟨nA (by decide), nA (by decide), nA (by decide), by decide⟩
          have kpv : KP h1 (hmZ hold Z) n g F := kpvw
          have kcvw := hKCq.fx fv ⟨nA (by decide), by decide⟩
          have kcv : KC h1 n g F (lS n S) := kcvw
          have c7vw := c7q.fx fv ⟨⟨nA (by decide), by decide, nA (by decide), nA (by decide), by decide⟩, ⟨nA (by decide), by decide, nA (by decide), nA (by decide), by decide⟩⟩
          have c7v : c7 h1 n kn ks ky := c7vw
          have c8vw := c8q.fx fv ⟨⟨nA (by decide), by decide, by decide, nA (by decide), nA (by decide), nA (by decide), by decide⟩, ⟨nA (by decide), by decide, by decide, nA (by decide), nA (by decide), nA (by decide), by decide⟩⟩
          have c8v : c8 h1 hd y p st dr := c8vw
          have c9vw := m9q.fx fv ⟨⟨nA (by decide), by decide, nA (by decide), by decide⟩, ⟨nA (by decide), nA (by decide), by decide⟩, ⟨nA (by decide), nA (by decide), nA (by decide), by decide⟩, ⟨nA (by decide), by decide, by decide, nA (by decide), nA (by decide), nA (by decide), by decide⟩, ⟨nA (by decide), nA (by decide), by decide⟩, ⟨nA (by decide), by decide, by decide, nA (by decide), nA (by decide), nA (by decide), by decide⟩⟩
          have c9v : c9 h1 n g F := c9vw
          have lwv : ∀ j, j < mc → LW h1 j (Z j).2.2.2 := fun j hj => by
            have z := (m3q.2.2.2.1 j hj).2.2.2.1.fx fv ⟨nA (by decide), nA (by decide), nA (by decide), nA (by decide), nA (by decide), nA (by decide), by decide⟩
            exact z
          have i13 : am_i h1 50 13 = nI mc := (fv.i (nA (by decide)) (by decide)).trans m3q.2.1
          have i24 : am_i h1 50 24 = oN hold := (fv.i (nA (by decide)) (by decide)).trans m4q.2.1
          have i05 : am_i h1 0 5 = oN hold := (fv.i (nA (by decide)) (by decide)).trans m4q.1
          have i04 : am_i h1 0 4 = nI (mc + 1) := by rw [e0, wI_ne (by decide), wI_e0]
          have i11 : am_i h1 1 1 = nI 0 := by rw [e0, wI_e0]
          have p8 : ∀ x, x < am_t hq → x ≠ 8 → am_p h1 x = am_p hq x := fun x hx h8 => by
            rw [e0]
            show am_up (mwH hq (lay 0 M).length).2.2.2.1 8 mc _ x = _
            rw [am_up_ne h8]
            exact (bl x hx).2.2.2
          have p8k : ∀ j, j < mc → am_p h1 8 j = am_p hq 8 j := fun j hj => by
            rw [e0]
            show am_p (am_wP (mwH hq (lay 0 M).length) 8 mc (some (am_t hq))) 8 j = _
            rw [wP_out (by omega)]
            exact congrFun (bl 8 (by omega)).2.2.2 j
          have p8m : am_p h1 8 mc = some (am_t hq) := by rw [e0]; exact wP_e0
          have s1 : ∀ x, x < am_t hq → am_s h1 x = am_s hq x := fun x hx => by rw [e0]; exact (bl x hx).1
          have mn1 : MN h1 (am_t hq) (am_t hq + 1) (am_t hq + 2) (lay 0 M) := by
            obtain ⟨a1, a2, a3, a4, a5, a6, a7, a8⟩ := hMN
            rw [e0]
            refine ⟨a1, ?_, ?_, a4, a5, a6, fun i hi => ?_, a8⟩
            · show am_up (mwH hq (lay 0 M).length).2.2.2.1 8 mc _ (am_t hq) 0 = _
              rw [am_up_ne (by omega)]; exact a2
            · show am_up (mwH hq (lay 0 M).length).2.2.2.1 8 mc _ (am_t hq) 1 = _
              rw [am_up_ne (by omega)]; exact a3
            · rw [wI_ne (by omega), wI_ne (by omega)]; exact a7 i hi
          obtain ⟨v2, h2, k2, e2, hr, ng, ⟨ar, hAr⟩, cw, kl, e3⟩ := r_text1Y hW1 rav i13 m3.2.2.1 hm ho
          subst e2
          have f2 : Fx [52, 53, 54, 55, 56, 57, 58] [(50, 2), (50, 3), (50, 4), (50, 5), (50, 13), (50, 14)] h1 h2 := by
            rw [e3]
            exact (ng.1.mono (by decide) (by decide)).tr ((Fx.wI (Or.inr (by decide))).tr (Fx.wI (Or.inr (by decide))))
          have fw : Fx [] [(50, 2), (50, 13)] hr h2 := by
            rw [e3]
            exact (Fx.wI (Or.inr (by decide))).tr (Fx.wI (Or.inr (by decide)))
          have hL := mcs_ln 161 0 [] (Nat.zero_le _) (Nat.zero_le _) M ho
          have hty := mcs_ty 161 0 [] (fun c hc => nomatch hc) M ho
          have lwn : LW h2 mc M := LW.fx (⟨cw.2.1, cw.2.2.2.1, by have := hP.2.1; omega, cw.2.2.2.2, kl⟩ : LW hr mc M) fw (by decide)
          have j13 : am_i h2 50 13 = nI (mc + 1) := by rw [e3, wI_e0]
          have j2 : am_i h2 50 2 = nI 0 := by rw [e3, wI_out (by decide), wI_e0]
          have pt : am_p h2 = am_p h1 := f2.p
          have sh : am_s h2 = am_s h1 := by unfold am_s; rw [f2.1]
          have g80 : ∀ x, 80 ≤ x → am_i h2 x = am_i h1 x := fun x hx => f2.ia (fun z => by have := (show ∀ x ∈ [52, 53, 54, 55, 56, 57, 58], x < 80 by decide) _ z; omega) (fun z => by have := (show ∀ x ∈ [(50, 2), (50, 3), (50, 4), (50, 5), (50, 13), (50, 14)].map Prod.fst, x < 80 by decide) _ z; omega)
          have td : ∀ j, j < mc + 1 → TD h2 j (up1 Z mc (am_t hq, am_t hq + 1, am_t hq + 2, M) j) := fun j hj => by
            by_cases e : j = mc
            · subst e
              rw [up1_eq]
              obtain ⟨a1, a2, a3, a4, a5, a6, a7, a8⟩ := mn1
              refine ⟨by rw [pt]; exact p8m, ⟨by rw [sh]; exact a1, by rw [pt]; exact a2, by rw [pt]; exact a3, by rw [sh]; exact a4, by rw [sh]; exact a5, a6, ?_, a8⟩, hty, lwn, ?_, ?_, ?_⟩
              · rw [g80 (am_t hq + 1) (by omega)]; exact a7
              · rw [f2.t, t1]; show am_t hq < _; omega
              · rw [f2.t, t1]; show am_t hq + 1 < _; omega
              · rw [f2.t, t1]; show am_t hq + 2 < _; omega
            · rw [up1_ne e]
              have hj' : j < mc := by omega
              have z0 := m3q.2.2.2.1 j hj'
              have z8 := z0.2.1.2.2.2.2.2.2.2.2.2.2.2.1
              have zt := z0.2.2.2.2.2.1
              refine z0.to (by rw [pt]; exact p8k j hj') (fun x h8 hx => ⟨by rw [sh]; exact s1 x hx, by rw [pt]; exact p8 x hx (by omega)⟩) ?_ ?_ (by rw [f2.t, t1]; omega)
              · rw [g80 _ z8]
                funext i
                exact (iv _ i (by omega) (by omega) (by omega) (fun z => by have := (show ∀ x ∈ [(0, 4), (1, 1)], x.1 < 80 by decide) _ z; simp only at this; omega)).1
              · have l1 := (lwv j hj').ng ng e
                exact l1.fx fw (by decide)
          have dj : DJ (mc + 1) (up1 Z mc (am_t hq, am_t hq + 1, am_t hq + 2, M)) := fun a b ha hb => by
            by_cases ea : a = mc <;> by_cases eb : b = mc
            · subst ea
              subst eb
              rw [up1_eq]
              exact ⟨fun z => by simp only at z; omega, fun z => by simp only at z; omega⟩
            · subst ea
              rw [up1_eq, up1_ne eb]
              have := (m3q.2.2.2.1 b (by omega)).2.2.2.2.2.1
              exact ⟨fun z => by simp only at z; omega, fun z => by simp only at z; omega⟩
            · subst eb
              rw [up1_eq, up1_ne ea]
              have x1 := (m3q.2.2.2.1 a (by omega)).2.2.2.2.1
              have x2 := (m3q.2.2.2.1 a (by omega)).2.2.2.2.2.2
              exact ⟨fun z => by simp only at z; omega, fun z => by simp only at z; omega⟩
            · rw [up1_ne ea, up1_ne eb]
              exact m3q.2.2.2.2 a b (by omega) (by omega)
          have hmz : hmZ hold (up1 Z mc (am_t hq, am_t hq + 1, am_t hq + 2, M)) = hmZ hold Z := by
            cases hold with
            | none => rfl
            | some k =>
              have e : k ≠ mc := by have := m4.2.2.1 k rfl; omega
              simp only [Option.map_some, up1_ne e]
          have hz1 : hold.map (fun k => (up1 Z mc (am_t hq, am_t hq + 1, am_t hq + 2, M) k).1) = hold.map (fun k => (Z k).1) := by
            cases hold with
            | none => rfl
            | some k =>
              have e : k ≠ mc := by have := m4.2.2.1 k rfl; omega
              simp only [Option.map_some, up1_ne e]
          refine ⟨_, h1, h2, _, _, by decide, by decide, k1, k2, hW1, ⟨n, g, F, S, T, 0, tp, mc + 1, up1 Z mc (am_t hq, am_t hq + 1, am_t hq + 2, M), hold, kn, ks, ky, hd, y, p, st, dr, ⟨f2.Wd hW1, by rw [f2.t, t1]; omega⟩, c1v.fx f2 ⟨by decide, by decide, by decide⟩, ⟨⟨(f2.i (by decide) (by decide)).trans i11, by omega, fun i hi => absurd hi (Nat.not_lt_zero _)⟩, ar, ⟨j2, by omega, fun i hi => absurd hi (Nat.not_lt_zero _)⟩, (fw.i (by decide) (by decide)).trans hAr.2.1, hAr.2.2⟩, ⟨(f2.i (by decide) (by decide)).trans i04, j13, by omega, td, dj⟩, ⟨(f2.i (by decide) (by decide)).trans i05, (f2.i (by decide) (by decide)).trans i24, fun k hk => by have := m4.2.2.1 k hk; omega, ?_⟩, ?_, kcv.fx f2 (by decide), c7v.fx f2 (by decide), c8v.fx f2 (by decide), c9v.fx f2 ⟨by decide, by decide, by decide, by decide, by decide, by decide⟩⟩, by rw [t1, tq]; omega, by rw [u1, fq.u]; omega, f2.t, f2.u⟩
          · rw [hz1, pt, p8 20 (by omega) (by decide)]
            exact m4q.2.2.2
          · rw [hmz]
            exact kpv.fx f2 (by decide)
      · have hm4 := m3.2.2.1
        exact ⟨_, _, _, _, _, by decide, by decide, c_text1F hW m3.1 m3.2.2.1 hm, r_text1F hW m3.2.1 m3.2.2.1 hm, hW, ⟨_, _, _, _, _, _, _, _, _, _, _, _, _, _, _, _, _, _, m⟩, by omega, by omega, rfl, rfl⟩
    · exact ⟨_, _, _, _, _, by decide, by decide, c_text2 hW (fun z => x0 (z.trans rfl)) x1, r_text2 hW (fun z => x0 (z.trans rfl)) x1, hW, ⟨_, _, _, _, _, _, _, _, _, _, _, _, _, _, _, _, _, _, m⟩, by omega, by omega, rfl, rfl⟩
