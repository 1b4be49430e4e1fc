theorem SB.cong {r a b n : Nat} {h : am_H} {S T S' T' : Nat → Nat} (m : SB r a b h n S T) (h1 : ∀ s, s < n → S s = S' s) (h2 : ∀ k, k < n → T k = T' k) : SB r a b h n S' T' := by
  obtain ⟨q1, q2, q3, q4⟩ := m
  refine ⟨q1, q2, fun s hs => ?_, fun k hk => ?_⟩
  · have := q3 s hs
    rw [← h1 s hs, ← h2 _ this.2.1]
    exact this
  · have := q4 k hk
    rw [← h2 k hk, ← h1 _ this.2.1]
    exact this
theorem SB.of {r a b n : Nat} {h : am_H} {S T : Nat → Nat} (h1 : am_i h r 0 = nI n) (h7 : n ≤ 7) (p : Pm n S T) (hs : ∀ s, s < n → am_i h a s = nI (S s)) (ht : ∀ s, s < n → am_i h b (S s) = nI s) : SB r a b h n S T := by
  refine ⟨h1, h7, fun s h => ⟨hs s h, p.1 s h⟩, fun m hm => ⟨?_, p.2 m hm⟩⟩
  have := ht (T m) (p.2 m hm).1
  rw [(p.2 m hm).2] at this
  exact this
theorem RB.seat {h h2 : am_H} {n : Nat} {g : Bool} {F : Nat → Nat → Nat} {S T S' T' : Nat → Nat} (m : RB h n g F S T) (h1 : am_i h2 50 = am_i h 50) (h3 : am_i h2 62 = am_i h 62) (p : Pm n S' T') (hs : ∀ s, s < n → am_i h2 63 s = nI (S' s)) : RB h2 n g F S' T' := by
  obtain ⟨q1, q2, q3, q4, q5, q6, q7⟩ := m
  exact ⟨by rw [h1]; exact q1, by rw [h1]; exact q2, q3, by rw [h3]; exact q4, q5, fun s h => ⟨hs s h, p.1 s h⟩, p.2⟩
theorem RB.cong {h : am_H} {n : Nat} {g : Bool} {F : Nat → Nat → Nat} {S T S' T' : Nat → Nat} (m : RB h n g F S T) (h1 : ∀ s, s < n → S s = S' s) (h2 : ∀ k, k < n → T k = T' k) : RB h n g F S' T' := by
  obtain ⟨q1, q2, q3, q4, q5, q6, q7⟩ := m
  refine ⟨q1, q2, q3, q4, q5, fun s hs => ?_, fun k hk => ?_⟩
  · have := q6 s hs
    rw [← h1 s hs, ← h2 _ this.2.1]
    exact this
  · have := q7 k hk
    rw [← h2 k hk, ← h1 _ this.1]
    exact this
theorem Pm.cong {n : Nat} {S T S' T' : Nat → Nat} (m : Pm n S T) (h1 : ∀ s, s < n → S s = S' s) (h2 : ∀ k, k < n → T k = T' k) : Pm n S' T' := by
  refine ⟨fun s hs => ?_, fun k hk => ?_⟩
  · have := m.1 s hs
    rw [← h1 s hs, ← h2 _ this.1]
    exact this
  · have := m.2 k hk
    rw [← h2 k hk, ← h1 _ this.1]
    exact this
/-- the way back is the only one -/
theorem Pm.uniq {n : Nat} {S T T' : Nat → Nat} (p : Pm n S T) (q : Pm n S T') : ∀ k, k < n → T k = T' k := fun k hk => p.inj (p.2 k hk).1 (q.2 k hk).1 (by rw [(p.2 k hk).2, (q.2 k hk).2])
set_option maxHeartbeats 2000000 in
theorem c_exchange11 {h : am_H} {n : Nat} {S T : Nat → Nat} (hW : Wd h) (hS : SB 11 12 13 h n S T) {i j : Nat} (hi : i < n) (hj : j < n) : am_D 2 m_X6_exchange [.ref 11, .int (nI i), .int (nI j)] h (fun v h2 => v = none ∧ Fx [12, 13] [] h h2 ∧ SB 11 12 13 h2 n (sw S i j) (swT S T i j)) := by
  obtain ⟨hn, h7, hA, hT⟩ := id hS
  have hSi := (hA i hi).2.1
  have hSj := (hA j hj).2.1
  have hW2 : Wd (am_wI (am_wI h 12 j (nI (S i))) 13 (S i) (nI j)) := Fx.Wd (A := [12, 13]) (B := []) ((Fx.wI (Or.inl (by decide))).tr (Fx.wI (Or.inl (by decide)))) hW
  refine Eq_aln dX6_exchange_0 rfl ?_
  refine Eq_iln dX6_exchange_1 rfl ?_
  refine Eq_V1 (N := m_X6_memberOn) dX6_exchange_2 lk_X6_45 mV_X6_memberOn (c_memberOn11 hW hS hi) (by decide) (ws_11 hW) rfl (by decide) (Nat.le_of_ble_eq_true rfl) (Nat.le_of_ble_eq_true rfl) ?_
  refine Eq_isn dX6_exchange_5 (by decide) ?_
  refine Eq_aln dX6_exchange_6 rfl ?_
  refine Eq_iln dX6_exchange_7 rfl ?_
  refine Eq_V1 (N := m_X6_memberOn) dX6_exchange_8 lk_X6_45 mV_X6_memberOn (c_memberOn11 hW hS hj) (by decide) (ws_11 hW) rfl (by decide) (Nat.le_of_ble_eq_true rfl) (Nat.le_of_ble_eq_true rfl) ?_
  refine Eq_is dX6_exchange_11 (by decide) ?_
  refine Eq_aln dX6_exchange_13 rfl ?_
  refine Eq_iln dX6_exchange_14 rfl ?_
  refine Eq_iln dX6_exchange_15 rfl ?_
  refine Eq_V2 (N := m_X6_put) dX6_exchange_16 lk_X6_31 mV_X6_put (c_put11 hW hn h7 hSi hj) (by decide) (ws_11 hW) rfl (by decide) (Nat.le_of_ble_eq_true rfl) (Nat.le_of_ble_eq_true rfl) ?_
  refine Eq_aln dX6_exchange_19 rfl ?_
  refine Eq_il dX6_exchange_20 rfl ?_
  refine Eq_iln dX6_exchange_22 rfl ?_
  refine Eq_V2 (N := m_X6_put) dX6_exchange_23 lk_X6_31 mV_X6_put (c_put11 hW2 hn h7 hSj hi) (by decide) (ws_11 hW) rfl (by decide) (Nat.le_of_ble_eq_true rfl) (Nat.le_of_ble_eq_true rfl) ?_
  refine Eq_vr dX6_exchange_26 rfl ?_
  refine ⟨rfl, (((Fx.wI (Or.inl (by decide))).tr (Fx.wI (Or.inl (by decide)))).tr (Fx.wI (Or.inl (by decide)))).tr (Fx.wI (Or.inl (by decide))), SB.of hn h7 (hS.pm.xc hi hj) (fun s hs => ?_) (fun s hs => ?_)⟩
  · rw [wI_ne (by decide), wI_eq, wI_ne (by decide), wI_eq, (hA s hs).1]
    unfold sw
    by_cases e1 : s = i
    · rw [if_pos e1, if_pos e1]
    · rw [if_neg e1, if_neg e1]
      by_cases e2 : s = j
      · rw [if_pos e2, if_pos e2]
      · rw [if_neg e2, if_neg e2]
  · have hp := ((hS.pm.xc hi hj).1 s hs)
    rw [wI_eq, wI_ne (by decide), wI_eq, wI_ne (by decide)]
    have ht := hT _ hp.1
    rw [ht.1]
    have hu := hp.2
    unfold swT at hu
    by_cases e1 : sw S i j s = S j
    · rw [if_pos e1]
      by_cases e2 : sw S i j s = S i
      · rw [if_pos e2] at hu
        have := hS.pm.inj hi hj (e2.symm.trans e1)
        rw [this, hu]
      · rw [if_neg e2, if_pos e1] at hu
        rw [hu]
    · rw [if_neg e1]
      by_cases e2 : sw S i j s = S i
      · rw [if_pos e2] at hu
        rw [if_pos e2, hu]
      · rw [if_neg e2, if_neg e1] at hu
        rw [if_neg e2, hu]
set_option maxHeartbeats 2000000 in
theorem c_take_lp11 {h : am_H} {n : Nat} (hW : Wd h) (hn : am_i h 11 0 = nI n) (h7 : n ≤ 7) {v : Nat} {S' T' : Nat → Nat} (hv : v < 2 ^ 31) (p : Pm n S' T') (hd : ∀ s, s < n → dgs n v s = S' s) : ∀ k hc, k ≤ n → Fx [12, 13] [] h hc → (∀ s, k ≤ s → s < n → am_i hc 12 s = nI (S' s) ∧ am_i hc 13 (S' s) = nI s) → am_E 2 m_X6_take 9 [some (.ref 11), some (.int (nI v)), some (.int (nI (v / 10 ^ (n - k)))), some (.int (dk k))] [] hc (fun r h2 => r = none ∧ Fx [12, 13] [] h h2 ∧ SB 11 12 13 h2 n S' T') := by
  intro k
  induction k with
  | zero =>
    intro hc hk hfr hi
    have hWc := hfr.Wd hW
    refine Eq_iln dX6_take_9 rfl ?_
    refine Et_if_lt 33 dX6_take_10 rfl (by exact m1_neg) ?_
    refine Eq_vr dX6_take_33 rfl ?_
    exact ⟨rfl, hfr, SB.of ((hfr.i (by decide) (by decide)).trans hn) h7 p (fun s hs => (hi s (by omega) hs).1) (fun s hs => (hi s (by omega) hs).2)⟩
  | succ k ih =>
    intro hc hk hfr hi
    have hWc := hfr.Wd hW
    have hdv : v / 10 ^ (n - (k + 1)) ≤ v := Nat.div_le_self _ _
    have hdk := hd k (by omega)
    unfold dgs at hdk
    rw [show n - 1 - k = n - (k + 1) by omega] at hdk
    have e2 : v / 10 ^ (n - (k + 1)) / 10 = v / 10 ^ (n - k) := by rw [Nat.div_div_eq_div_mul, ← Nat.pow_succ]; congr 2; omega
    have hlt := (p.1 k (by omega)).1
    have hnc : am_i hc 11 0 = nI n := (hfr.i (by decide) (by decide)).trans hn
    show am_E 2 m_X6_take 9 [some (.ref 11), some (.int (nI v)), some (.int (nI (v / 10 ^ (n - (k + 1))))), some (.int (nI k))] [] hc _
    refine Eq_iln dX6_take_9 rfl ?_
    refine En_if_lt (tgt := 33) dX6_take_10 rfl (by omega) ?_
    refine Eq_aln dX6_take_13 rfl ?_
    refine Eq_iln dX6_take_14 rfl ?_
    refine Eq_bp (v := nI 10) dX6_take_15 rfl ?_
    refine Eq_rem dX6_take_17 (by omega) (by omega) (by omega) ?_
    rw [hdk]
    refine Eq_iln dX6_take_18 rfl ?_
    refine Eq_V2 (N := m_X6_put) dX6_take_19 lk_X6_31 mV_X6_put (c_put11 hWc hnc h7 hlt (by omega)) (by decide) (ws_11 hWc) rfl (by decide) (Nat.le_of_ble_eq_true rfl) (Nat.le_of_ble_eq_true rfl) ?_
    refine Eq_iln dX6_take_22 rfl ?_
    refine Eq_bp (v := nI 10) dX6_take_23 rfl ?_
    first | refine Eq_div dX6_take_25 (by omega) (by omega) (by omega) ?_ | refine Eam_x_idiv dX6_take_25 (by decide) ?_
    refine Eq_isn dX6_take_26 (by decide) ?_
    refine Eq_dk dX6_take_27 rfl (by decide) ?_
    refine Eam_x_goto (tgt := 9) dX6_take_30 rfl ?_
    (rw [e2]; refine ih _ (by omega) ((hfr.tr (Fx.wI (Or.inl (by decide)))).tr (Fx.wI (Or.inl (by decide)))) (fun s hs hsn => ?_))
    rw [wI_ne (by decide), wI_eq, wI_eq, wI_ne (by decide)]
    by_cases e : s = k
    · subst e
      rw [if_pos rfl, if_pos rfl]
      exact ⟨rfl, rfl⟩
    · rw [if_neg e, if_neg (fun z => e (p.inj hsn (by omega) z))]
      exact hi s (by omega) hsn
set_option maxHeartbeats 2000000 in
theorem c_take11 {h : am_H} {n : Nat} (hW : Wd h) (hn : am_i h 11 0 = nI n) (h7 : n ≤ 7) {v : Nat} {S' T' : Nat → Nat} (hv : v < 2 ^ 31) (p : Pm n S' T') (hd : ∀ s, s < n → dgs n v s = S' s) : am_D 2 m_X6_take [.ref 11, .int (nI v)] h (fun r h2 => r = none ∧ Fx [12, 13] [] h h2 ∧ SB 11 12 13 h2 n S' T') := by
  refine Eq_iln dX6_take_0 rfl ?_
  refine Eq_isn dX6_take_1 (by decide) ?_
  refine Eq_aln dX6_take_2 rfl ?_
  refine Eq_getI dX6_take_3 fl_X6_9 (ws_11 hW) rfl (by first | assumption | rfl) ?_
  refine Eq_ic (v := nI 1) dX6_take_6 rfl ?_
  refine Eam_x_pu dX6_take_7 rfl ?_
  rw [dk_sub]
  refine Eq_isn dX6_take_8 (by decide) ?_
  (have q := c_take_lp11 hW hn h7 hv p hd n h (Nat.le_refl n) Fx.rf (fun s h1 h2 => by omega); rw [Nat.sub_self, Nat.pow_zero, Nat.div_one] at q; exact q)
set_option maxHeartbeats 2000000 in
theorem c_exchange30 {h : am_H} {n : Nat} {S T : Nat → Nat} (hW : Wd h) (hS : SB 30 31 32 h n S T) {i j : Nat} (hi : i < n) (hj : j < n) : am_D 2 m_X6_exchange [.ref 30, .int (nI i), .int (nI j)] h (fun v h2 => v = none ∧ Fx [31, 32] [] h h2 ∧ SB 30 31 32 h2 n (sw S i j) (swT S T i j)) := by
  obtain ⟨hn, h7, hA, hT⟩ := id hS
  have hSi := (hA i hi).2.1
  have hSj := (hA j hj).2.1
  have hW2 : Wd (am_wI (am_wI h 31 j (nI (S i))) 32 (S i) (nI j)) := Fx.Wd (A := [31, 32]) (B := []) ((Fx.wI (Or.inl (by decide))).tr (Fx.wI (Or.inl (by decide)))) hW
  refine Eq_aln dX6_exchange_0 rfl ?_
  refine Eq_iln dX6_exchange_1 rfl ?_
  refine Eq_V1 (N := m_X6_memberOn) dX6_exchange_2 lk_X6_45 mV_X6_memberOn (c_memberOn30 hW hS hi) (by decide) (ws_30 hW) rfl (by decide) (Nat.le_of_ble_eq_true rfl) (Nat.le_of_ble_eq_true rfl) ?_
  refine Eq_isn dX6_exchange_5 (by decide) ?_
  refine Eq_aln dX6_exchange_6 rfl ?_
  refine Eq_iln dX6_exchange_7 rfl ?_
  refine Eq_V1 (N := m_X6_memberOn) dX6_exchange_8 lk_X6_45 mV_X6_memberOn (c_memberOn30 hW hS hj) (by decide) (ws_30 hW) rfl (by decide) (Nat.le_of_ble_eq_true rfl) (Nat.le_of_ble_eq_true rfl) ?_
  refine Eq_is dX6_exchange_11 (by decide) ?_
  refine Eq_aln dX6_exchange_13 rfl ?_
  refine Eq_iln dX6_exchange_14 rfl ?_
  refine Eq_iln dX6_exchange_15 rfl ?_
  refine Eq_V2 (N := m_X6_put) dX6_exchange_16 lk_X6_31 mV_X6_put (c_put30 hW hn h7 hSi hj) (by decide) (ws_30 hW) rfl (by decide) (Nat.le_of_ble_eq_true rfl) (Nat.le_of_ble_eq_true rfl) ?_
  refine Eq_aln dX6_exchange_19 rfl ?_
  refine Eq_il dX6_exchange_20 rfl ?_
  refine Eq_iln dX6_exchange_22 rfl ?_
  refine Eq_V2 (N := m_X6_put) dX6_exchange_23 lk_X6_31 mV_X6_put (c_put30 hW2 hn h7 hSj hi) (by decide) (ws_30 hW) rfl (by decide) (Nat.le_of_ble_eq_true rfl) (Nat.le_of_ble_eq_true rfl) ?_
  refine Eq_vr dX6_exchange_26 rfl ?_
  refine ⟨rfl, (((Fx.wI (Or.inl (by decide))).tr (Fx.wI (Or.inl (by decide)))).tr (Fx.wI (Or.inl (by decide)))).tr (Fx.wI (Or.inl (by decide))), SB.of hn h7 (hS.pm.xc hi hj) (fun s hs => ?_) (fun s hs => ?_)⟩
  · rw [wI_ne (by decide), wI_eq, wI_ne (by decide), wI_eq, (hA s hs).1]
    unfold sw
    by_cases e1 : s = i
    · rw [if_pos e1, if_pos e1]
    · rw [if_neg e1, if_neg e1]
      by_cases e2 : s = j
      · rw [if_pos e2, if_pos e2]
      · rw [if_neg e2, if_neg e2]
  · have hp := ((hS.pm.xc hi hj).1 s hs)
    rw [wI_eq, wI_ne (by decide), wI_eq, wI_ne (by decide)]
    have ht := hT _ hp.1
    rw [ht.1]
    have hu := hp.2
    unfold swT at hu
    by_cases e1 : sw S i j s = S j
    · rw [if_pos e1]
      by_cases e2 : sw S i j s = S i
      · rw [if_pos e2] at hu
        have := hS.pm.inj hi hj (e2.symm.trans e1)
        rw [this, hu]
      · rw [if_neg e2, if_pos e1] at hu
        rw [hu]
    · rw [if_neg e1]
      by_cases e2 : sw S i j s = S i
      · rw [if_pos e2] at hu
        rw [if_pos e2, hu]
      · rw [if_neg e2, if_neg e1] at hu
        rw [if_neg e2, hu]
set_option maxHeartbeats 2000000 in
theorem c_take_lp30 {h : am_H} {n : Nat} (hW : Wd h) (hn : am_i h 30 0 = nI n) (h7 : n ≤ 7) {v : Nat} {S' T' : Nat → Nat} (hv : v < 2 ^ 31) (p : Pm n S' T') (hd : ∀ s, s < n → dgs n v s = S' s) : ∀ k hc, k ≤ n → Fx [31, 32] [] h hc → (∀ s, k ≤ s → s < n → am_i hc 31 s = nI (S' s) ∧ am_i hc 32 (S' s) = nI s) → am_E 2 m_X6_take 9 [some (.ref 30), some (.int (nI v)), some (.int (nI (v / 10 ^ (n - k)))), some (.int (dk k))] [] hc (fun r h2 => r = none ∧ Fx [31, 32] [] h h2 ∧ SB 30 31 32 h2 n S' T') := by
  intro k
  induction k with
  | zero =>
    intro hc hk hfr hi
    have hWc := hfr.Wd hW
    refine Eq_iln dX6_take_9 rfl ?_
    refine Et_if_lt 33 dX6_take_10 rfl (by exact m1_neg) ?_
    refine Eq_vr dX6_take_33 rfl ?_
    exact ⟨rfl, hfr, SB.of ((hfr.i (by decide) (by decide)).trans hn) h7 p (fun s hs => (hi s (by omega) hs).1) (fun s hs => (hi s (by omega) hs).2)⟩
  | succ k ih =>
    intro hc hk hfr hi
    have hWc := hfr.Wd hW
    have hdv : v / 10 ^ (n - (k + 1)) ≤ v := Nat.div_le_self _ _
    have hdk := hd k (by omega)
    unfold dgs at hdk
    rw [show n - 1 - k = n - (k + 1) by omega] at hdk
    have e2 : v / 10 ^ (n - (k + 1)) / 10 = v / 10 ^ (n - k) := by rw [Nat.div_div_eq_div_mul, ← Nat.pow_succ]; congr 2; omega
    have hlt := (p.1 k (by omega)).1
    have hnc : am_i hc 30 0 = nI n := (hfr.i (by decide) (by decide)).trans hn
    show am_E 2 m_X6_take 9 [some (.ref 30), some (.int (nI v)), some (.int (nI (v / 10 ^ (n - (k + 1))))), some (.int (nI k))] [] hc _
    refine Eq_iln dX6_take_9 rfl ?_
    refine En_if_lt (tgt := 33) dX6_take_10 rfl (by omega) ?_
    refine Eq_aln dX6_take_13 rfl ?_
    refine Eq_iln dX6_take_14 rfl ?_
    refine Eq_bp (v := nI 10) dX6_take_15 rfl ?_
    refine Eq_rem dX6_take_17 (by omega) (by omega) (by omega) ?_
    rw [hdk]
    refine Eq_iln dX6_take_18 rfl ?_
    refine Eq_V2 (N := m_X6_put) dX6_take_19 lk_X6_31 mV_X6_put (c_put30 hWc hnc h7 hlt (by omega)) (by decide) (ws_30 hWc) rfl (by decide) (Nat.le_of_ble_eq_true rfl) (Nat.le_of_ble_eq_true rfl) ?_
    refine Eq_iln dX6_take_22 rfl ?_
    refine Eq_bp (v := nI 10) dX6_take_23 rfl ?_
    first | refine Eq_div dX6_take_25 (by omega) (by omega) (by omega) ?_ | refine Eam_x_idiv dX6_take_25 (by decide) ?_
    refine Eq_isn dX6_take_26 (by decide) ?_
    refine Eq_dk dX6_take_27 rfl (by decide) ?_
    refine Eam_x_goto (tgt := 9) dX6_take_30 rfl ?_
    (rw [e2]; refine ih _ (by omega) ((hfr.tr (Fx.wI (Or.inl (by decide)))).tr (Fx.wI (Or.inl (by decide)))) (fun s hs hsn => ?_))
    rw [wI_ne (by decide), wI_eq, wI_eq, wI_ne (by decide)]
    by_cases e : s = k
    · subst e
      rw [if_pos rfl, if_pos rfl]
      exact ⟨rfl, rfl⟩
    · rw [if_neg e, if_neg (fun z => e (p.inj hsn (by omega) z))]
      exact hi s (by omega) hsn
set_option maxHeartbeats 2000000 in
theorem c_take30 {h : am_H} {n : Nat} (hW : Wd h) (hn : am_i h 30 0 = nI n) (h7 : n ≤ 7) {v : Nat} {S' T' : Nat → Nat} (hv : v < 2 ^ 31) (p : Pm n S' T') (hd : ∀ s, s < n → dgs n v s = S' s) : am_D 2 m_X6_take [.ref 30, .int (nI v)] h (fun r h2 => r = none ∧ Fx [31, 32] [] h h2 ∧ SB 30 31 32 h2 n S' T') := by
  refine Eq_iln dX6_take_0 rfl ?_
  refine Eq_isn dX6_take_1 (by decide) ?_
  refine Eq_aln dX6_take_2 rfl ?_
  refine Eq_getI dX6_take_3 fl_X6_9 (ws_30 hW) rfl (by first | assumption | rfl) ?_
  refine Eq_ic (v := nI 1) dX6_take_6 rfl ?_
  refine Eam_x_pu dX6_take_7 rfl ?_
  rw [dk_sub]
  refine Eq_isn dX6_take_8 (by decide) ?_
  (have q := c_take_lp30 hW hn h7 hv p hd n h (Nat.le_refl n) Fx.rf (fun s h1 h2 => by omega); rw [Nat.sub_self, Nat.pow_zero, Nat.div_one] at q; exact q)
def chO (n : Nat) (x1 x2 : Int32) : Option (Nat × Nat) := match rg x1 n with
  | none => none
  | some a => match rg x2 n with
    | none => none
    | some b => if a = b then none else some (a, b)
def isSb (n v : Nat) : Bool := decide (n ≠ 0) && (decide (v < 10 ^ n) && decide (dbt v n = 2 ^ n - 1))
theorem isSb_iff {n v : Nat} : isSb n v = true ↔ isS n v := by simp [isSb, isS]
def siO (n : Nat) (x : Int32) : Option Nat := if 0 ≤ x.toInt ∧ isSb n x.toInt.toNat = true then some x.toInt.toNat else none
theorem siO_n {n : Nat} {x : Int32} (h : x < 0) : siO n x = none := by
  unfold siO
  rw [if_neg]
  rw [Int32.lt_iff_toInt_lt] at h
  have h0 : (0 : Int32).toInt = 0 := by decide +kernel
  omega
theorem siO_s {n v : Nat} (hv : v < 2 ^ 31) : siO n (nI v) = if isSb n v = true then some v else none := by
  unfold siO
  rw [nI_toInt hv]
  simp
theorem of_nn {x : Int32} (h : ¬ x < 0) : ∃ v, v < 2 ^ 31 ∧ x = nI v := by
  have h0 : (0 : Int32).toInt = 0 := by decide +kernel
  rw [Int32.lt_iff_toInt_lt, h0] at h
  have h2 := x.toInt_lt
  refine ⟨x.toInt.toNat, by omega, ?_⟩
  apply Int32.toInt_inj.mp
  rw [nI_toInt (by omega)]
  omega
theorem dbt_s (v k : Nat) : dbt v (k + 1) = dbt v k ||| 2 ^ (v / 10 ^ k % 10) := rfl
theorem div10 (v k : Nat) : v / 10 ^ k / 10 = v / 10 ^ (k + 1) := by rw [Nat.div_div_eq_div_mul, Nat.pow_succ]
theorem div10_0 {v n : Nat} : v / 10 ^ n = 0 ↔ v < 10 ^ n := by
  constructor
  · intro h
    rcases Nat.lt_or_ge v (10 ^ n) with q | q
    · exact q
    · have := Nat.div_pos q (p10_0 n); omega
  · exact Nat.div_eq_of_lt
set_option maxHeartbeats 2000000 in
theorem c_change {h : am_H} {n : Nat} {S T : Nat → Nat} (hW : Wd h) (hS : SB 11 12 13 h n S T) {x1 x2 : Int32} : am_D 3 m_X11_change [.ref 0, .int x1, .int x2] h (fun v h2 => match chO n x1 x2 with
    | none => v = some (.int (nI 0)) ∧ h2 = h
    | some q => v = some (.int (nI 1)) ∧ Fx [12, 13, 26] [(29, 7)] h h2 ∧ q.1 < n ∧ q.2 < n ∧ q.1 ≠ q.2 ∧ SB 11 12 13 h2 n (sw S q.1 q.2) (swT S T q.1 q.2) ∧ KF h2) := by
  obtain ⟨hn, h7, hA, hT⟩ := id hS
  cases hr1 : rg x1 n with
  | none =>
    rw [show chO n x1 x2 = none by unfold chO; rw [hr1]]
    refine Eq_aln dX11_change_0 rfl ?_
    refine Eq_getR dX11_change_1 fl_X11_55 (ws_0 hW) rfl (wp_0_7 hW) ?_
    refine Eq_iln dX11_change_4 rfl ?_
    refine Eq_V1 (N := m_X6_has) dX11_change_5 lk_X11_198 mV_X6_has ((by have z := c_shasX11 hW hS (x := x1); rw [isr_n hr1] at z; exact z)) (by decide) (ws_11 hW) rfl (by decide) (Nat.le_of_ble_eq_true rfl) (Nat.le_of_ble_eq_true rfl) ?_
    refine Et_if_eq 27 dX11_change_8 rfl (by rfl) ?_
    refine Eq_ic (v := nI 0) dX11_change_27 rfl ?_
    first | refine Eq_zrn dX11_change_28 rfl (by first | omega | exact b2_le) ?_ | refine Eq_zr dX11_change_28 rfl (by first | exact Or.inl rfl | exact Or.inr rfl | assumption) ?_
    exact ⟨rfl, rfl⟩
  | some i =>
    cases hr2 : rg x2 n with
    | none =>
      rw [show chO n x1 x2 = none by unfold chO; rw [hr1, hr2]]
      refine Eq_aln dX11_change_0 rfl ?_
      refine Eq_getR dX11_change_1 fl_X11_55 (ws_0 hW) rfl (wp_0_7 hW) ?_
      refine Eq_iln dX11_change_4 rfl ?_
      refine Eq_V1 (N := m_X6_has) dX11_change_5 lk_X11_198 mV_X6_has ((by have z := c_shasX11 hW hS (x := x1); rw [isr_s hr1] at z; exact z)) (by decide) (ws_11 hW) rfl (by decide) (Nat.le_of_ble_eq_true rfl) (Nat.le_of_ble_eq_true rfl) ?_
      refine Ef_if_eq dX11_change_8 (tgt := 27) rfl (by exact zf1) ?_
      refine Eq_aln dX11_change_11 rfl ?_
      refine Eq_getR dX11_change_12 fl_X11_55 (ws_0 hW) rfl (wp_0_7 hW) ?_
      refine Eq_iln dX11_change_15 rfl ?_
      refine Eq_V1 (N := m_X6_has) dX11_change_16 lk_X11_198 mV_X6_has ((by have z := c_shasX11 hW hS (x := x2); rw [isr_n hr2] at z; exact z)) (by decide) (ws_11 hW) rfl (by decide) (Nat.le_of_ble_eq_true rfl) (Nat.le_of_ble_eq_true rfl) ?_
      refine Et_if_eq 27 dX11_change_19 rfl (by rfl) ?_
      refine Eq_ic (v := nI 0) dX11_change_27 rfl ?_
      first | refine Eq_zrn dX11_change_28 rfl (by first | omega | exact b2_le) ?_ | refine Eq_zr dX11_change_28 rfl (by first | exact Or.inl rfl | exact Or.inr rfl | assumption) ?_
      exact ⟨rfl, rfl⟩
    | some j =>
      have hi1 := isr_s hr1
      have hi2 := isr_s hr2
      obtain ⟨rfl, hi⟩ := rg_some (by omega) hr1
      obtain ⟨rfl, hj⟩ := rg_some (by omega) hr2
      by_cases he : i = j
      · rw [show chO n (nI i) (nI j) = none by unfold chO; rw [hr1, hr2]; simp [he]]
        refine Eq_aln dX11_change_0 rfl ?_
        refine Eq_getR dX11_change_1 fl_X11_55 (ws_0 hW) rfl (wp_0_7 hW) ?_
        refine Eq_iln dX11_change_4 rfl ?_
        refine Eq_V1 (N := m_X6_has) dX11_change_5 lk_X11_198 mV_X6_has ((by have z := c_shasX11 hW hS (x := (nI i)); rw [hi1] at z; exact z)) (by decide) (ws_11 hW) rfl (by decide) (Nat.le_of_ble_eq_true rfl) (Nat.le_of_ble_eq_true rfl) ?_
        refine Ef_if_eq dX11_change_8 (tgt := 27) rfl (by exact zf1) ?_
        refine Eq_aln dX11_change_11 rfl ?_
        refine Eq_getR dX11_change_12 fl_X11_55 (ws_0 hW) rfl (wp_0_7 hW) ?_
        refine Eq_iln dX11_change_15 rfl ?_
        refine Eq_V1 (N := m_X6_has) dX11_change_16 lk_X11_198 mV_X6_has ((by have z := c_shasX11 hW hS (x := (nI j)); rw [hi2] at z; exact z)) (by decide) (ws_11 hW) rfl (by decide) (Nat.le_of_ble_eq_true rfl) (Nat.le_of_ble_eq_true rfl) ?_
        refine Ef_if_eq dX11_change_19 (tgt := 27) rfl (by exact zf1) ?_
        refine Eq_iln dX11_change_22 rfl ?_
        refine Eq_iln dX11_change_23 rfl ?_
        refine Ef_ic_ne dX11_change_24 (tgt := 29) rfl (by rw [he]) ?_
        refine Eq_ic (v := nI 0) dX11_change_27 rfl ?_
        first | refine Eq_zrn dX11_change_28 rfl (by first | omega | exact b2_le) ?_ | refine Eq_zr dX11_change_28 rfl (by first | exact Or.inl rfl | exact Or.inr rfl | assumption) ?_
        exact ⟨rfl, rfl⟩
      · rw [show chO n (nI i) (nI j) = some (i, j) by unfold chO; rw [hr1, hr2]; simp [he]]
        refine Eq_aln dX11_change_0 rfl ?_
        refine Eq_getR dX11_change_1 fl_X11_55 (ws_0 hW) rfl (wp_0_7 hW) ?_
        refine Eq_iln dX11_change_4 rfl ?_
        refine Eq_V1 (N := m_X6_has) dX11_change_5 lk_X11_198 mV_X6_has ((by have z := c_shasX11 hW hS (x := (nI i)); rw [hi1] at z; exact z)) (by decide) (ws_11 hW) rfl (by decide) (Nat.le_of_ble_eq_true rfl) (Nat.le_of_ble_eq_true rfl) ?_
        refine Ef_if_eq dX11_change_8 (tgt := 27) rfl (by exact zf1) ?_
        refine Eq_aln dX11_change_11 rfl ?_
        refine Eq_getR dX11_change_12 fl_X11_55 (ws_0 hW) rfl (wp_0_7 hW) ?_
        refine Eq_iln dX11_change_15 rfl ?_
        refine Eq_V1 (N := m_X6_has) dX11_change_16 lk_X11_198 mV_X6_has ((by have z := c_shasX11 hW hS (x := (nI j)); rw [hi2] at z; exact z)) (by decide) (ws_11 hW) rfl (by decide) (Nat.le_of_ble_eq_true rfl) (Nat.le_of_ble_eq_true rfl) ?_
        refine Ef_if_eq dX11_change_19 (tgt := 27) rfl (by exact zf1) ?_
        refine Eq_iln dX11_change_22 rfl ?_
        refine Eq_iln dX11_change_23 rfl ?_
        refine Et_ic_ne 29 dX11_change_24 rfl (by exact fun z => he ((nI_eq (by omega) (by omega)).mp z)) ?_
        refine Eq_aln dX11_change_29 rfl ?_
        refine Eq_getR dX11_change_30 fl_X11_55 (ws_0 hW) rfl (wp_0_7 hW) ?_
        refine Eq_iln dX11_change_33 rfl ?_
        refine Eq_iln dX11_change_34 rfl ?_
        refine Eq_W2 (N := m_X6_exchange) dX11_change_35 lk_X11_199 mV_X6_exchange (c_exchange11 hW hS hi hj) (by decide) (ws_11 hW) rfl (by decide) (Nat.le_of_ble_eq_true rfl) (Nat.le_of_ble_eq_true rfl) (fun vq hq1 hq2 => ?_)
        obtain ⟨rfl, hf, hs2⟩ := hq2
        have hW2 := hf.Wd hW
        refine Eq_aln dX11_change_38 rfl ?_
        refine Eq_W0 (N := m_X11_forgetAnswers) dX11_change_39 lk_X11_158 mV_X11_forgetAnswers (c_forgetA hW2) (by decide) (ws_0 hW2) rfl (by decide) (Nat.le_of_ble_eq_true rfl) (Nat.le_of_ble_eq_true rfl) (fun vq hq1 hq2 => ?_)
        obtain ⟨rfl, hf2, hz⟩ := hq2
        refine Eq_ic (v := nI 1) dX11_change_42 rfl ?_
        first | refine Eq_zrn dX11_change_43 rfl (by first | omega | exact b2_le) ?_ | refine Eq_zr dX11_change_43 rfl (by first | exact Or.inl rfl | exact Or.inr rfl | assumption) ?_
        exact ⟨rfl, (hf.mono (by decide) (by decide)).tr (hf2.mono (by decide) (by decide)), hi, hj, he, hs2.fx hf2 (by decide), hz⟩
set_option maxHeartbeats 2000000 in
theorem c_isSeating_lp {h : am_H} {n : Nat} {S T : Nat → Nat} (hW : Wd h) (hS : SB 11 12 13 h n S T) {v : Nat} (hv : v < 2 ^ 31) (h0 : n ≠ 0) : ∀ k j, j + k = n → am_Sem 0 m_X6_isSeating 20 [some (.ref 11), some (.int (nI v)), some (.int (nI (v / 10 ^ j))), some (.int (nI (dbt v j))), some (.int (nI j))] [] h (some (.int (nI (if isSb n v = true then 1 else 0))), h) := by
  obtain ⟨hn, h7, hA, hT⟩ := id hS
  intro k
  induction k with
  | zero =>
    intro j hj
    have hjn : j = n := by omega
    subst hjn
    have hb := dbt_lt v j
    have hd0 := div10_0 (v := v) (n := j)
    have hdl : v / 10 ^ j ≤ v := Nat.div_le_self _ _
    have p2 := p2_128 h7
    have p3 : 0 < 2 ^ j := Nat.pow_pos (by omega)
    refine q_il dX6_isSeating_20 rfl ?_
    refine q_aln dX6_isSeating_22 rfl ?_
    refine q_getI dX6_isSeating_23 fl_X6_9 (ws_11 hW) rfl (by first | assumption | rfl) ?_
    refine t_ic_ge 49 dX6_isSeating_26 rfl (by exact nI_le (by omega) (by omega)) ?_
    refine q_iln dX6_isSeating_49 rfl ?_
    first | refine n_if_ne 69 dX6_isSeating_50 rfl (by omega) (fun c50 => ?_) (fun c50 => ?_) | refine b_if_ne 69 dX6_isSeating_50 rfl (fun c50 => ?_) (fun c50 => ?_)
    · first
      | (exfalso; omega)
      | (refine q_ic (v := nI 0) dX6_isSeating_69 rfl ?_
         first | refine q_zrn dX6_isSeating_70 rfl (by first | omega | exact b2_le) ?_ | refine q_zr dX6_isSeating_70 rfl (by first | exact Or.inl rfl | exact Or.inr rfl | assumption) ?_
         (apply o_nI; first | (rw [if_pos (isSb_iff.mpr ⟨h0, hd0.mp (by omega), by omega⟩)]) | (rw [if_neg (fun z => by have y := isSb_iff.mp z; have y1 := hd0.mpr y.2.1; have y2 := y.2.2; omega)])))
    · first
      | (exfalso; omega)
      | (refine q_iln dX6_isSeating_53 rfl ?_
         refine q_ic (v := nI 1) dX6_isSeating_54 rfl ?_
         refine q_aln dX6_isSeating_55 rfl ?_
         refine q_getI dX6_isSeating_56 fl_X6_9 (ws_11 hW) rfl (by first | assumption | rfl) ?_
         first | refine q_shl1 dX6_isSeating_59 (by omega) ?_ | refine am_x_pu dX6_isSeating_59 rfl ?_
         refine q_ic (v := nI 1) dX6_isSeating_60 rfl ?_
         first | refine q_sub dX6_isSeating_61 (by omega) ?_ | refine am_x_pu dX6_isSeating_61 rfl ?_
         first | refine n_ic_ne 69 dX6_isSeating_62 rfl (by omega) (by omega) (fun c62 => ?_) (fun c62 => ?_) | refine b_ic_ne 69 dX6_isSeating_62 rfl (fun c62 => ?_) (fun c62 => ?_)
         · first
           | (exfalso; omega)
           | (refine q_ic (v := nI 0) dX6_isSeating_69 rfl ?_
              first | refine q_zrn dX6_isSeating_70 rfl (by first | omega | exact b2_le) ?_ | refine q_zr dX6_isSeating_70 rfl (by first | exact Or.inl rfl | exact Or.inr rfl | assumption) ?_
              (apply o_nI; first | (rw [if_pos (isSb_iff.mpr ⟨h0, hd0.mp (by omega), by omega⟩)]) | (rw [if_neg (fun z => by have y := isSb_iff.mp z; have y1 := hd0.mpr y.2.1; have y2 := y.2.2; omega)])))
         · first
           | (exfalso; omega)
           | (refine q_ic (v := nI 1) dX6_isSeating_65 rfl ?_
              refine am_x_goto (tgt := 70) dX6_isSeating_66 rfl ?_
              first | refine q_zrn dX6_isSeating_70 rfl (by first | omega | exact b2_le) ?_ | refine q_zr dX6_isSeating_70 rfl (by first | exact Or.inl rfl | exact Or.inr rfl | assumption) ?_
              (apply o_nI; first | (rw [if_pos (isSb_iff.mpr ⟨h0, hd0.mp (by omega), by omega⟩)]) | (rw [if_neg (fun z => by have y := isSb_iff.mp z; have y1 := hd0.mpr y.2.1; have y2 := y.2.2; omega)]))))
  | succ k ih =>
    intro j hj
    have q := ih (j + 1) (by omega)
    have hdl : v / 10 ^ j ≤ v := Nat.div_le_self _ _
    rw [← div10, dbt_s] at q
    refine q_il dX6_isSeating_20 rfl ?_
    refine q_aln dX6_isSeating_22 rfl ?_
    refine q_getI dX6_isSeating_23 fl_X6_9 (ws_11 hW) rfl (by first | assumption | rfl) ?_
    refine f_ic_ge dX6_isSeating_26 (tgt := 49) rfl (by exact nI_ge (by omega) (by omega)) ?_
    refine q_iln dX6_isSeating_29 rfl ?_
    refine q_ic (v := nI 1) dX6_isSeating_30 rfl ?_
    refine q_iln dX6_isSeating_31 rfl ?_
    refine q_bp (v := nI 10) dX6_isSeating_32 rfl ?_
    first | refine q_rem dX6_isSeating_34 (by omega) (by omega) (by omega) ?_ | refine am_x_irem dX6_isSeating_34 (by decide) ?_
    first | refine q_shl1 dX6_isSeating_35 (by omega) ?_ | refine am_x_pu dX6_isSeating_35 rfl ?_
    first | refine q_or dX6_isSeating_36 ?_ | refine am_x_pu dX6_isSeating_36 rfl ?_
    refine q_isn dX6_isSeating_37 (by decide) ?_
    refine q_iln dX6_isSeating_38 rfl ?_
    refine q_bp (v := nI 10) dX6_isSeating_39 rfl ?_
    first | refine q_div dX6_isSeating_41 (by omega) (by omega) (by omega) ?_ | refine am_x_idiv dX6_isSeating_41 (by decide) ?_
    refine q_isn dX6_isSeating_42 (by decide) ?_
    refine q_inc dX6_isSeating_43 rfl (by decide) ?_
    refine am_x_goto (tgt := 20) dX6_isSeating_46 rfl ?_
    exact q
set_option maxHeartbeats 2000000 in
theorem c_isSeating {h : am_H} {n : Nat} {S T : Nat → Nat} (hW : Wd h) (hS : SB 11 12 13 h n S T) {x : Int32} : am_C 0 m_X6_isSeating [.ref 11, .int x] h (some (.int (nI (if (siO n x).isSome = true then 1 else 0))), h) := by
  obtain ⟨hn, h7, hA, hT⟩ := id hS
  by_cases h0 : n = 0
  · have e : siO n x = none := by
      unfold siO
      rw [if_neg]
      rintro ⟨_, z⟩
      exact (isSb_iff.mp z).1 h0
    rw [e]
    refine q_aln dX6_isSeating_0 rfl ?_
    refine q_getI dX6_isSeating_1 fl_X6_9 (ws_11 hW) rfl (by first | assumption | rfl) ?_
    refine t_if_eq 11 dX6_isSeating_4 rfl (by rw [h0]; rfl) ?_
    refine q_ic (v := nI 0) dX6_isSeating_11 rfl ?_
    first | refine q_zrn dX6_isSeating_12 rfl (by first | omega | exact b2_le) ?_ | refine q_zr dX6_isSeating_12 rfl (by first | exact Or.inl rfl | exact Or.inr rfl | assumption) ?_
    rfl
  · by_cases hx : x < 0
    · rw [siO_n hx]
      refine q_aln dX6_isSeating_0 rfl ?_
      refine q_getI dX6_isSeating_1 fl_X6_9 (ws_11 hW) rfl (by first | assumption | rfl) ?_
      refine f_if_eq dX6_isSeating_4 (tgt := 11) rfl (by exact nI_ne0 (by omega) (by omega)) ?_
      refine q_iln dX6_isSeating_7 rfl ?_
      refine f_if_ge dX6_isSeating_8 (tgt := 13) rfl (by exact fun z => absurd hx (Int32.not_lt.mpr z)) ?_
      refine q_ic (v := nI 0) dX6_isSeating_11 rfl ?_
      first | refine q_zrn dX6_isSeating_12 rfl (by first | omega | exact b2_le) ?_ | refine q_zr dX6_isSeating_12 rfl (by first | exact Or.inl rfl | exact Or.inr rfl | assumption) ?_
      rfl
    · obtain ⟨v, hv, rfl⟩ := of_nn hx
      rw [siO_s hv, show (if isSb n v = true then some v else none).isSome = isSb n v by (cases isSb n v <;> rfl)]
      refine q_aln dX6_isSeating_0 rfl ?_
      refine q_getI dX6_isSeating_1 fl_X6_9 (ws_11 hW) rfl (by first | assumption | rfl) ?_
      refine f_if_eq dX6_isSeating_4 (tgt := 11) rfl (by exact nI_ne0 (by omega) (by omega)) ?_
      refine q_iln dX6_isSeating_7 rfl ?_
      refine n_if_ge 13 dX6_isSeating_8 rfl (by omega) ?_
      refine q_iln dX6_isSeating_13 rfl ?_
      refine q_isn dX6_isSeating_14 (by decide) ?_
      refine q_ic (v := nI 0) dX6_isSeating_15 rfl ?_
      refine q_isn dX6_isSeating_16 (by decide) ?_
      refine q_ic (v := nI 0) dX6_isSeating_17 rfl ?_
      refine q_is dX6_isSeating_18 (by decide) ?_
      (have q := c_isSeating_lp hW hS hv h0 n 0 (by omega); rw [Nat.pow_zero, Nat.div_one] at q; exact q)
set_option maxHeartbeats 2000000 in
theorem c_sit {h : am_H} {n : Nat} {S T : Nat → Nat} (hW : Wd h) (hS : SB 11 12 13 h n S T) {x : Int32} : am_D 3 m_X11_sit [.ref 0, .int x] h (fun v h2 => match siO n x with
    | none => v = some (.int (nI 0)) ∧ h2 = h
    | some q => v = some (.int (nI 1)) ∧ Fx [12, 13, 26] [(29, 7)] h h2 ∧ isS n q ∧ SB 11 12 13 h2 n (dgs n q) (fs (dgs n q) n) ∧ KF h2) := by
  obtain ⟨hn, h7, hA, hT⟩ := id hS
  have hi := c_isSeating hW hS (x := x)
  cases hq : siO n x with
  | none =>
    rw [hq] at hi
    refine Eq_aln dX11_sit_0 rfl ?_
    refine Eq_getR dX11_sit_1 fl_X11_55 (ws_0 hW) rfl (wp_0_7 hW) ?_
    refine Eq_iln dX11_sit_4 rfl ?_
    refine Eq_V1 (N := m_X6_isSeating) dX11_sit_5 lk_X11_203 mV_X6_isSeating (hi) (by decide) (ws_11 hW) rfl (by decide) (Nat.le_of_ble_eq_true rfl) (Nat.le_of_ble_eq_true rfl) ?_
    refine Ef_if_ne dX11_sit_8 (tgt := 13) rfl (by rfl) ?_
    refine Eq_ic (v := nI 0) dX11_sit_11 rfl ?_
    first | refine Eq_zrn dX11_sit_12 rfl (by first | omega | exact b2_le) ?_ | refine Eq_zr dX11_sit_12 rfl (by first | exact Or.inl rfl | exact Or.inr rfl | assumption) ?_
    exact ⟨rfl, rfl⟩
  | some q =>
    rw [hq] at hi
    have hx : x = nI q ∧ isS n q ∧ q < 2 ^ 31 := by
      unfold siO at hq
      split at hq
      next hc =>
        cases hq
        have h2 := x.toInt_lt
        refine ⟨?_, isSb_iff.mp hc.2, by omega⟩
        apply Int32.toInt_inj.mp
        rw [nI_toInt (by omega)]
        omega
      next => cases hq
    obtain ⟨rfl, hs, hv⟩ := hx
    refine Eq_aln dX11_sit_0 rfl ?_
    refine Eq_getR dX11_sit_1 fl_X11_55 (ws_0 hW) rfl (wp_0_7 hW) ?_
    refine Eq_iln dX11_sit_4 rfl ?_
    refine Eq_V1 (N := m_X6_isSeating) dX11_sit_5 lk_X11_203 mV_X6_isSeating (hi) (by decide) (ws_11 hW) rfl (by decide) (Nat.le_of_ble_eq_true rfl) (Nat.le_of_ble_eq_true rfl) ?_
    refine Et_if_ne 13 dX11_sit_8 rfl (by exact zf1) ?_
    refine Eq_aln dX11_sit_13 rfl ?_
    refine Eq_getR dX11_sit_14 fl_X11_55 (ws_0 hW) rfl (wp_0_7 hW) ?_
    refine Eq_iln dX11_sit_17 rfl ?_
    refine Eq_W1 (N := m_X6_take) dX11_sit_18 lk_X11_206 mV_X6_take (c_take11 hW hn h7 hv (isS_pm hs) (fun s h => rfl)) (by decide) (ws_11 hW) rfl (by decide) (Nat.le_of_ble_eq_true rfl) (Nat.le_of_ble_eq_true rfl) (fun vq hq1 hq2 => ?_)
    obtain ⟨rfl, hf, hs2⟩ := hq2
    have hW2 := hf.Wd hW
    refine Eq_aln dX11_sit_21 rfl ?_
    refine Eq_W0 (N := m_X11_forgetAnswers) dX11_sit_22 lk_X11_158 mV_X11_forgetAnswers (c_forgetA hW2) (by decide) (ws_0 hW2) rfl (by decide) (Nat.le_of_ble_eq_true rfl) (Nat.le_of_ble_eq_true rfl) (fun vq hq1 hq2 => ?_)
    obtain ⟨rfl, hf2, hz⟩ := hq2
    refine Eq_ic (v := nI 1) dX11_sit_25 rfl ?_
    first | refine Eq_zrn dX11_sit_26 rfl (by first | omega | exact b2_le) ?_ | refine Eq_zr dX11_sit_26 rfl (by first | exact Or.inl rfl | exact Or.inr rfl | assumption) ?_
    exact ⟨rfl, (hf.mono (by decide) (by decide)).tr (hf2.mono (by decide) (by decide)), hs, hs2.fx hf2 (by decide), hz⟩
set_option maxHeartbeats 2000000 in
theorem r_ten_lp {h : am_H} {n : Nat} (hn : n ≤ 9) : ∀ k j, j + k = n → am_Sem 0 m_X12_ten 4 [some (.int (nI n)), some (.int (nI (10 ^ j))), some (.int (nI j))] [] h (some (.int (nI (10 ^ n))), h) := by
  intro k
  induction k with
  | zero =>
    intro j hj
    have hjn : j = n := by omega
    subst hjn
    refine q_iln dX12_ten_4 rfl ?_
    refine q_iln dX12_ten_5 rfl ?_
    refine t_ic_ge 20 dX12_ten_6 rfl (by exact nI_le (by omega) (by omega)) ?_
    refine q_iln dX12_ten_20 rfl ?_
    refine q_ir dX12_ten_21 rfl ?_
    rfl
  | succ k ih =>
    intro j hj
    have q := ih (j + 1) (by omega)
    rw [Nat.pow_succ] at q
    refine q_iln dX12_ten_4 rfl ?_
    refine q_iln dX12_ten_5 rfl ?_
    refine f_ic_ge dX12_ten_6 (tgt := 20) rfl (by exact nI_ge (by omega) (by omega)) ?_
    refine q_iln dX12_ten_9 rfl ?_
    refine q_bp (v := nI 10) dX12_ten_10 rfl ?_
    first | refine q_mul dX12_ten_12 ?_ | refine am_x_pu dX12_ten_12 rfl ?_
    refine q_isn dX12_ten_13 (by decide) ?_
    refine q_inc dX12_ten_14 rfl (by decide) ?_
    refine am_x_goto (tgt := 4) dX12_ten_17 rfl ?_
    exact q
set_option maxHeartbeats 2000000 in
theorem r_ten {h : am_H} {n : Nat} (hn : n ≤ 9) : am_C 0 m_X12_ten [.int (nI n)] h (some (.int (nI (10 ^ n))), h) := by
  refine q_ic (v := nI 1) dX12_ten_0 rfl ?_
  refine q_isn dX12_ten_1 (by decide) ?_
  refine q_ic (v := nI 0) dX12_ten_2 rfl ?_
  refine q_isn dX12_ten_3 (by decide) ?_
  exact r_ten_lp hn n 0 (by omega)
set_option maxHeartbeats 2000000 in
theorem r_write_lp {h : am_H} {n : Nat} {g : Bool} {F : Nat → Nat → Nat} {S T : Nat → Nat} (hW : Wd h) (hR : RB h n g F S T) {v : Nat} {S' T' : Nat → Nat} (hv : v < 2 ^ 31) (p : Pm n S' T') (hd : ∀ s, s < n → dgs n v s = S' s) : ∀ k j hc, j + k = n → Fx [63] [] h hc → (∀ s, s < j → am_i hc 63 s = nI (S' s)) → am_E 1 m_X12_write 2 [some (.ref 50), some (.int (nI v)), some (.int (nI j))] [] hc (fun r h2 => r = none ∧ Fx [63] [] h h2 ∧ RB h2 n g F S' T') := by
  obtain ⟨hn, hg, h7, hF, hB, hS, hT⟩ := id hR
  intro k
  induction k with
  | zero =>
    intro j hc hj hfr hi
    have hjn : j = n := by omega
    subst hjn
    have hWc := hfr.Wd hW
    have hn : am_i hc 50 21 = nI j := (hfr.i (by decide) (by decide)).trans hn
    refine Eq_iln dX12_write_2 rfl ?_
    refine Eq_aln dX12_write_3 rfl ?_
    refine Eq_getI dX12_write_4 fl_X12_252 (ws_50 hWc) rfl (by first | assumption | rfl) ?_
    refine Et_ic_ge 38 dX12_write_7 rfl (by exact nI_le (by omega) (by omega)) ?_
    refine Eq_vr dX12_write_38 rfl ?_
    exact ⟨rfl, hfr, hR.seat (hfr.ia (by decide) (by decide)) (hfr.ia (by decide) (by decide)) p hi⟩
  | succ k ih =>
    intro j hc hj hfr hi
    have hWc := hfr.Wd hW
    have hn : am_i hc 50 21 = nI n := (hfr.i (by decide) (by decide)).trans hn
    have p1 := p10_0 (n - 1 - j)
    have p2 := p10 (k := n - 1 - j) (by omega)
    have hdl : v / 10 ^ (n - 1 - j) ≤ v := Nat.div_le_self _ _
    have hdj : v / 10 ^ (n - 1 - j) % 10 = S' j := hd j (by omega)
    refine Eq_iln dX12_write_2 rfl ?_
    refine Eq_aln dX12_write_3 rfl ?_
    refine Eq_getI dX12_write_4 fl_X12_252 (ws_50 hWc) rfl (by first | assumption | rfl) ?_
    refine Ef_ic_ge dX12_write_7 (tgt := 38) rfl (by exact nI_ge (by omega) (by omega)) ?_
    refine Eq_aln dX12_write_10 rfl ?_
    refine Eq_getR dX12_write_11 fl_X12_46 (ws_50 hWc) rfl (wp_50_23 hWc) ?_
    refine Eq_iln dX12_write_14 rfl ?_
    refine Eq_iln dX12_write_15 rfl ?_
    refine Eq_aln dX12_write_16 rfl ?_
    refine Eq_getI dX12_write_17 fl_X12_252 (ws_50 hWc) rfl (by first | assumption | rfl) ?_
    refine Eq_ic (v := nI 1) dX12_write_20 rfl ?_
    first | refine Eq_sub dX12_write_21 (by omega) ?_ | refine Eam_x_pu dX12_write_21 rfl ?_
    refine Eq_iln dX12_write_22 rfl ?_
    first | refine Eq_sub dX12_write_23 (by omega) ?_ | refine Eam_x_pu dX12_write_23 rfl ?_
    refine Eq_S1 (N := m_X12_ten) dX12_write_24 lk_X12_297 mS_X12_ten (r_ten (by omega)) (by decide) (Nat.le_of_ble_eq_true rfl) (Nat.le_of_ble_eq_true rfl) ?_
    first | refine Eq_div dX12_write_27 (by omega) (by omega) (by omega) ?_ | refine Eam_x_idiv dX12_write_27 (by decide) ?_
    refine Eq_bp (v := nI 10) dX12_write_28 rfl ?_
    refine Eq_rem dX12_write_30 (by omega) (by omega) (by omega) ?_
    rw [hdj]
    refine Eq_ast dX12_write_31 (ws_63 hWc) (by omega) (by omega) ?_
    refine Eq_inc dX12_write_32 rfl (by decide) ?_
    refine Eam_x_goto (tgt := 2) dX12_write_35 rfl ?_
    (refine ih (j + 1) _ (by omega) (hfr.tr (Fx.wI (Or.inl (by decide)))) (fun s hs => ?_); rw [wI_eq]; by_cases e : s = j; rw [if_pos e, e]; rw [if_neg e]; exact hi s (by omega))
set_option maxHeartbeats 2000000 in
theorem r_write {h : am_H} {n : Nat} {g : Bool} {F : Nat → Nat → Nat} {S T : Nat → Nat} (hW : Wd h) (hR : RB h n g F S T) {v : Nat} {S' T' : Nat → Nat} (hv : v < 2 ^ 31) (p : Pm n S' T') (hd : ∀ s, s < n → dgs n v s = S' s) : am_D 1 m_X12_write [.ref 50, .int (nI v)] h (fun r h2 => r = none ∧ Fx [63] [] h h2 ∧ RB h2 n g F S' T') := by
  refine Eq_ic (v := nI 0) dX12_write_0 rfl ?_
  refine Eq_isn dX12_write_1 (by decide) ?_
  exact r_write_lp hW hR hv p hd n 0 h (by omega) Fx.rf (fun s hs => by omega)
set_option maxHeartbeats 2000000 in
theorem r_swap {h : am_H} {n : Nat} {g : Bool} {F : Nat → Nat → Nat} {S T : Nat → Nat} (hW : Wd h) (hR : RB h n g F S T) {i j : Nat} (hi : i < n) (hj : j < n) : am_D 0 m_X12_swap [.ref 50, .int (nI i), .int (nI j)] h (fun r h2 => r = none ∧ Fx [63] [] h h2 ∧ RB h2 n g F (sw S i j) (swT S T i j)) := by
  obtain ⟨hn, hg, h7, hF, hB, hS, hT⟩ := id hR
  refine Eq_aln dX12_swap_0 rfl ?_
  refine Eq_getR dX12_swap_1 fl_X12_46 (ws_50 hW) rfl (wp_50_23 hW) ?_
  refine Eq_iln dX12_swap_4 rfl ?_
  refine Eq_ald dX12_swap_5 (ws_63 hW) (by omega) (by omega) (hS _ (by omega)).1 ?_
  refine Eq_isn dX12_swap_6 (by decide) ?_
  refine Eq_aln dX12_swap_7 rfl ?_
  refine Eq_getR dX12_swap_8 fl_X12_46 (ws_50 hW) rfl (wp_50_23 hW) ?_
  refine Eq_iln dX12_swap_11 rfl ?_
  refine Eq_aln dX12_swap_12 rfl ?_
  refine Eq_getR dX12_swap_13 fl_X12_46 (ws_50 hW) rfl (wp_50_23 hW) ?_
  refine Eq_iln dX12_swap_16 rfl ?_
  refine Eq_ald dX12_swap_17 (ws_63 hW) (by omega) (by omega) (hS _ (by omega)).1 ?_
  refine Eq_ast dX12_swap_18 (ws_63 hW) (by omega) (by omega) ?_
  refine Eq_aln dX12_swap_19 rfl ?_
  refine Eq_getR dX12_swap_20 fl_X12_46 (ws_50 hW) rfl (wp_50_23 hW) ?_
  refine Eq_iln dX12_swap_23 rfl ?_
  refine Eq_iln dX12_swap_24 rfl ?_
  refine Eq_ast dX12_swap_25 (ws_63 hW) (by omega) (by omega) ?_
  refine Eq_vr dX12_swap_26 rfl ?_
  refine ⟨rfl, (Fx.wI (Or.inl (by decide))).tr (Fx.wI (Or.inl (by decide))), hR.seat ((wI_ne (by decide)).trans (wI_ne (by decide))) ((wI_ne (by decide)).trans (wI_ne (by decide))) (hR.pm.xc hi hj) (fun s hs => ?_)⟩
  rw [wI_eq, wI_eq, (hS s hs).1]
  unfold sw
  by_cases e1 : s = j
  · rw [if_pos e1]
    by_cases e2 : s = i
    · rw [if_pos e2, ← e1, ← e2]
    · rw [if_neg e2, if_pos e1]
  · rw [if_neg e1]
    by_cases e2 : s = i
    · rw [if_pos e2, if_pos e2]
    · rw [if_neg e2, if_neg e2, if_neg e1]
set_option maxHeartbeats 2000000 in
theorem r_change {h : am_H} {n : Nat} {g : Bool} {F : Nat → Nat → Nat} {S T : Nat → Nat} (hW : Wd h) (hR : RB h n g F S T) {x1 x2 : Int32} : am_D 1 m_X12_change [.ref 50, .int x1, .int x2] h (fun v h2 => match chO n x1 x2 with
    | none => v = some (.int (nI 0)) ∧ h2 = h
    | some q => v = some (.int (nI 1)) ∧ Fx [63] [] h h2 ∧ q.1 < n ∧ q.2 < n ∧ q.1 ≠ q.2 ∧ RB h2 n g F (sw S q.1 q.2) (swT S T q.1 q.2)) := by
  obtain ⟨hn, hg, h7, hF, hB, hS, hT⟩ := id hR
  cases hr1 : rg x1 n with
  | none =>
    rw [show chO n x1 x2 = none by unfold chO; rw [hr1]]
    refine Eq_iln dX12_change_0 rfl ?_
    refine Eq_ic (v := nI 0) dX12_change_1 rfl ?_
    refine Eq_aln dX12_change_2 rfl ?_
    refine Eq_getI dX12_change_3 fl_X12_252 (ws_50 hW) rfl (by first | assumption | rfl) ?_
    refine Eq_ic (v := nI 1) dX12_change_6 rfl ?_
    refine Eam_x_pu dX12_change_7 rfl ?_
    rw [dk_sub]
    refine Eq_S3 (N := m_X12_in) dX12_change_8 lk_X12_215 mS_X12_in ((by have z := r_inm (h := h) (x := x1) (n := n) (by omega); rw [isr_n hr1] at z; exact z)) (by decide) (Nat.le_of_ble_eq_true rfl) (Nat.le_of_ble_eq_true rfl) ?_
    refine Et_if_eq 33 dX12_change_11 rfl (by rfl) ?_
    refine Eq_ic (v := nI 0) dX12_change_33 rfl ?_
    first | refine Eq_zrn dX12_change_34 rfl (by first | omega | exact b2_le) ?_ | refine Eq_zr dX12_change_34 rfl (by first | exact Or.inl rfl | exact Or.inr rfl | assumption) ?_
    exact ⟨rfl, rfl⟩
  | some i =>
    cases hr2 : rg x2 n with
    | none =>
      rw [show chO n x1 x2 = none by unfold chO; rw [hr1, hr2]]
      refine Eq_iln dX12_change_0 rfl ?_
      refine Eq_ic (v := nI 0) dX12_change_1 rfl ?_
      refine Eq_aln dX12_change_2 rfl ?_
      refine Eq_getI dX12_change_3 fl_X12_252 (ws_50 hW) rfl (by first | assumption | rfl) ?_
      refine Eq_ic (v := nI 1) dX12_change_6 rfl ?_
      refine Eam_x_pu dX12_change_7 rfl ?_
      rw [dk_sub]
      refine Eq_S3 (N := m_X12_in) dX12_change_8 lk_X12_215 mS_X12_in ((by have z := r_inm (h := h) (x := x1) (n := n) (by omega); rw [isr_s hr1] at z; exact z)) (by decide) (Nat.le_of_ble_eq_true rfl) (Nat.le_of_ble_eq_true rfl) ?_
      refine Ef_if_eq dX12_change_11 (tgt := 33) rfl (by exact zf1) ?_
      refine Eq_iln dX12_change_14 rfl ?_
      refine Eq_ic (v := nI 0) dX12_change_15 rfl ?_
      refine Eq_aln dX12_change_16 rfl ?_
      refine Eq_getI dX12_change_17 fl_X12_252 (ws_50 hW) rfl (by first | assumption | rfl) ?_
      refine Eq_ic (v := nI 1) dX12_change_20 rfl ?_
      refine Eam_x_pu dX12_change_21 rfl ?_
      rw [dk_sub]
      refine Eq_S3 (N := m_X12_in) dX12_change_22 lk_X12_215 mS_X12_in ((by have z := r_inm (h := h) (x := x2) (n := n) (by omega); rw [isr_n hr2] at z; exact z)) (by decide) (Nat.le_of_ble_eq_true rfl) (Nat.le_of_ble_eq_true rfl) ?_
      refine Et_if_eq 33 dX12_change_25 rfl (by rfl) ?_
      refine Eq_ic (v := nI 0) dX12_change_33 rfl ?_
      first | refine Eq_zrn dX12_change_34 rfl (by first | omega | exact b2_le) ?_ | refine Eq_zr dX12_change_34 rfl (by first | exact Or.inl rfl | exact Or.inr rfl | assumption) ?_
      exact ⟨rfl, rfl⟩
    | some j =>
      have hi1 := isr_s hr1
      have hi2 := isr_s hr2
      obtain ⟨rfl, hi⟩ := rg_some (by omega) hr1
      obtain ⟨rfl, hj⟩ := rg_some (by omega) hr2
      by_cases he : i = j
      · rw [show chO n (nI i) (nI j) = none by unfold chO; rw [hr1, hr2]; simp [he]]
        refine Eq_iln dX12_change_0 rfl ?_
        refine Eq_ic (v := nI 0) dX12_change_1 rfl ?_
        refine Eq_aln dX12_change_2 rfl ?_
        refine Eq_getI dX12_change_3 fl_X12_252 (ws_50 hW) rfl (by first | assumption | rfl) ?_
        refine Eq_ic (v := nI 1) dX12_change_6 rfl ?_
        refine Eam_x_pu dX12_change_7 rfl ?_
        rw [dk_sub]
        refine Eq_S3 (N := m_X12_in) dX12_change_8 lk_X12_215 mS_X12_in ((by have z := r_inm (h := h) (x := nI i) (n := n) (by omega); rw [hi1] at z; exact z)) (by decide) (Nat.le_of_ble_eq_true rfl) (Nat.le_of_ble_eq_true rfl) ?_
        refine Ef_if_eq dX12_change_11 (tgt := 33) rfl (by exact zf1) ?_
        refine Eq_iln dX12_change_14 rfl ?_
        refine Eq_ic (v := nI 0) dX12_change_15 rfl ?_
        refine Eq_aln dX12_change_16 rfl ?_
        refine Eq_getI dX12_change_17 fl_X12_252 (ws_50 hW) rfl (by first | assumption | rfl) ?_
        refine Eq_ic (v := nI 1) dX12_change_20 rfl ?_
        refine Eam_x_pu dX12_change_21 rfl ?_
        rw [dk_sub]
        refine Eq_S3 (N := m_X12_in) dX12_change_22 lk_X12_215 mS_X12_in ((by have z := r_inm (h := h) (x := nI j) (n := n) (by omega); rw [hi2] at z; exact z)) (by decide) (Nat.le_of_ble_eq_true rfl) (Nat.le_of_ble_eq_true rfl) ?_
        refine Ef_if_eq dX12_change_25 (tgt := 33) rfl (by exact zf1) ?_
        refine Eq_iln dX12_change_28 rfl ?_
        refine Eq_iln dX12_change_29 rfl ?_
        refine Ef_ic_ne dX12_change_30 (tgt := 35) rfl (by rw [he]) ?_
        refine Eq_ic (v := nI 0) dX12_change_33 rfl ?_
        first | refine Eq_zrn dX12_change_34 rfl (by first | omega | exact b2_le) ?_ | refine Eq_zr dX12_change_34 rfl (by first | exact Or.inl rfl | exact Or.inr rfl | assumption) ?_
        exact ⟨rfl, rfl⟩
      · rw [show chO n (nI i) (nI j) = some (i, j) by unfold chO; rw [hr1, hr2]; simp [he]]
        refine Eq_iln dX12_change_0 rfl ?_
        refine Eq_ic (v := nI 0) dX12_change_1 rfl ?_
        refine Eq_aln dX12_change_2 rfl ?_
        refine Eq_getI dX12_change_3 fl_X12_252 (ws_50 hW) rfl (by first | assumption | rfl) ?_
        refine Eq_ic (v := nI 1) dX12_change_6 rfl ?_
        refine Eam_x_pu dX12_change_7 rfl ?_
        rw [dk_sub]
        refine Eq_S3 (N := m_X12_in) dX12_change_8 lk_X12_215 mS_X12_in ((by have z := r_inm (h := h) (x := nI i) (n := n) (by omega); rw [hi1] at z; exact z)) (by decide) (Nat.le_of_ble_eq_true rfl) (Nat.le_of_ble_eq_true rfl) ?_
        refine Ef_if_eq dX12_change_11 (tgt := 33) rfl (by exact zf1) ?_
        refine Eq_iln dX12_change_14 rfl ?_
        refine Eq_ic (v := nI 0) dX12_change_15 rfl ?_
        refine Eq_aln dX12_change_16 rfl ?_
        refine Eq_getI dX12_change_17 fl_X12_252 (ws_50 hW) rfl (by first | assumption | rfl) ?_
        refine Eq_ic (v := nI 1) dX12_change_20 rfl ?_
        refine Eam_x_pu dX12_change_21 rfl ?_
        rw [dk_sub]
        refine Eq_S3 (N := m_X12_in) dX12_change_22 lk_X12_215 mS_X12_in ((by have z := r_inm (h := h) (x := nI j) (n := n) (by omega); rw [hi2] at z; exact z)) (by decide) (Nat.le_of_ble_eq_true rfl) (Nat.le_of_ble_eq_true rfl) ?_
        refine Ef_if_eq dX12_change_25 (tgt := 33) rfl (by exact zf1) ?_
        refine Eq_iln dX12_change_28 rfl ?_
        refine Eq_iln dX12_change_29 rfl ?_
        refine Et_ic_ne 35 dX12_change_30 rfl (by exact fun z => he ((nI_eq (by omega) (by omega)).mp z)) ?_
        refine Eq_aln dX12_change_35 rfl ?_
        refine Eq_iln dX12_change_36 rfl ?_
        refine Eq_iln dX12_change_37 rfl ?_
        refine Eq_W2 (N := m_X12_swap) dX12_change_38 lk_X12_294 mV_X12_swap (r_swap hW hR hi hj) (by decide) (ws_50 hW) rfl (by decide) (Nat.le_of_ble_eq_true rfl) (Nat.le_of_ble_eq_true rfl) (fun vq hq1 hq2 => ?_)
        obtain ⟨rfl, hf, hs2⟩ := hq2
        refine Eq_ic (v := nI 1) dX12_change_41 rfl ?_
        first | refine Eq_zrn dX12_change_42 rfl (by first | omega | exact b2_le) ?_ | refine Eq_zr dX12_change_42 rfl (by first | exact Or.inl rfl | exact Or.inr rfl | assumption) ?_
        exact ⟨rfl, hf, hi, hj, he, hs2⟩
set_option maxHeartbeats 2000000 in
theorem r_sit_neg {h : am_H} {n : Nat} {g : Bool} {F : Nat → Nat → Nat} {S T : Nat → Nat} (hW : Wd h) (hR : RB h n g F S T) {x : Int32} {o : am_O} (kk : ∀ z, am_Sem 2 m_X12_sit 32 [some (.ref 50), some (.int x), some (.int z), some (.int (nI n))] [] h o) : ∀ k j (z : Int32), j + k = n → am_Sem 2 m_X12_sit 4 [some (.ref 50), some (.int x), some (.int z), some (.int (nI j))] [] h o := by
  obtain ⟨hn, hg, h7, hF, hB, hS, hT⟩ := id hR
  intro k
  induction k with
  | zero =>
    intro j z hj
    have hjn : j = n := by omega
    subst hjn
    refine q_iln dX12_sit_4 rfl ?_
    refine q_aln dX12_sit_5 rfl ?_
    refine q_getI dX12_sit_6 fl_X12_252 (ws_50 hW) rfl (by first | assumption | rfl) ?_
    refine t_ic_ge 32 dX12_sit_9 rfl (by exact nI_le (by omega) (by omega)) ?_
    exact kk z
  | succ k ih =>
    intro j z hj
    have p1 := p10_0 j
    have p2 := p10 (k := j) (by omega)
    refine q_iln dX12_sit_4 rfl ?_
    refine q_aln dX12_sit_5 rfl ?_
    refine q_getI dX12_sit_6 fl_X12_252 (ws_50 hW) rfl (by first | assumption | rfl) ?_
    refine f_ic_ge dX12_sit_9 (tgt := 32) rfl (by exact nI_ge (by omega) (by omega)) ?_
    refine q_iln dX12_sit_12 rfl ?_
    refine q_ic (v := nI 1) dX12_sit_13 rfl ?_
    refine q_iln dX12_sit_14 rfl ?_
    refine q_iln dX12_sit_15 rfl ?_
    refine q_S1 (N := m_X12_ten) dX12_sit_16 lk_X12_297 mS_X12_ten (r_ten (by omega)) (by decide) (Nat.le_of_ble_eq_true rfl) (Nat.le_of_ble_eq_true rfl) ?_
    refine am_x_idiv dX12_sit_19 (nI_ne0 (by omega) (by omega)) ?_
    refine q_bp (v := nI 10) dX12_sit_20 rfl ?_
    refine am_x_irem dX12_sit_22 (by decide +kernel) ?_
    refine am_x_pu dX12_sit_23 rfl ?_
    refine am_x_pu dX12_sit_24 rfl ?_
    refine q_isn dX12_sit_25 (by decide) ?_
    refine q_inc dX12_sit_26 rfl (by decide) ?_
    refine am_x_goto (tgt := 4) dX12_sit_29 rfl ?_
    exact ih (j + 1) _ (by omega)
set_option maxHeartbeats 2000000 in
theorem r_sit_pos {h : am_H} {n : Nat} {g : Bool} {F : Nat → Nat → Nat} {S T : Nat → Nat} (hW : Wd h) (hR : RB h n g F S T) {v : Nat} {o : am_O} (hv : v < 2 ^ 31) (kk : am_Sem 2 m_X12_sit 32 [some (.ref 50), some (.int (nI v)), some (.int (nI (dbt v n))), some (.int (nI n))] [] h o) : ∀ k j, j + k = n → am_Sem 2 m_X12_sit 4 [some (.ref 50), some (.int (nI v)), some (.int (nI (dbt v j))), some (.int (nI j))] [] h o := by
  obtain ⟨hn, hg, h7, hF, hB, hS, hT⟩ := id hR
  intro k
  induction k with
  | zero =>
    intro j hj
    have hjn : j = n := by omega
    subst hjn
    refine q_iln dX12_sit_4 rfl ?_
    refine q_aln dX12_sit_5 rfl ?_
    refine q_getI dX12_sit_6 fl_X12_252 (ws_50 hW) rfl (by first | assumption | rfl) ?_
    refine t_ic_ge 32 dX12_sit_9 rfl (by exact nI_le (by omega) (by omega)) ?_
    exact kk
  | succ k ih =>
    intro j hj
    have p1 := p10_0 j
    have p2 := p10 (k := j) (by omega)
    have hdl : v / 10 ^ j ≤ v := Nat.div_le_self _ _
    have q := ih (j + 1) (by omega)
    rw [dbt_s] at q
    refine q_iln dX12_sit_4 rfl ?_
    refine q_aln dX12_sit_5 rfl ?_
    refine q_getI dX12_sit_6 fl_X12_252 (ws_50 hW) rfl (by first | assumption | rfl) ?_
    refine f_ic_ge dX12_sit_9 (tgt := 32) rfl (by exact nI_ge (by omega) (by omega)) ?_
    refine q_iln dX12_sit_12 rfl ?_
    refine q_ic (v := nI 1) dX12_sit_13 rfl ?_
    refine q_iln dX12_sit_14 rfl ?_
    refine q_iln dX12_sit_15 rfl ?_
    refine q_S1 (N := m_X12_ten) dX12_sit_16 lk_X12_297 mS_X12_ten (r_ten (by omega)) (by decide) (Nat.le_of_ble_eq_true rfl) (Nat.le_of_ble_eq_true rfl) ?_
    first | refine q_div dX12_sit_19 (by omega) (by omega) (by omega) ?_ | refine am_x_idiv dX12_sit_19 (by decide) ?_
    refine q_bp (v := nI 10) dX12_sit_20 rfl ?_
    first | refine q_rem dX12_sit_22 (by omega) (by omega) (by omega) ?_ | refine am_x_irem dX12_sit_22 (by decide) ?_
    first | refine q_shl1 dX12_sit_23 (by omega) ?_ | refine am_x_pu dX12_sit_23 rfl ?_
    first | refine q_or dX12_sit_24 ?_ | refine am_x_pu dX12_sit_24 rfl ?_
    refine q_isn dX12_sit_25 (by decide) ?_
    refine q_inc dX12_sit_26 rfl (by decide) ?_
    refine am_x_goto (tgt := 4) dX12_sit_29 rfl ?_
    exact q
set_option maxHeartbeats 2000000 in
theorem r_sit {h : am_H} {n : Nat} {g : Bool} {F : Nat → Nat → Nat} {S T : Nat → Nat} (hW : Wd h) (hR : RB h n g F S T) {x : Int32} : am_D 2 m_X12_sit [.ref 50, .int x] h (fun v h2 => match siO n x with
    | none => v = some (.int (nI 0)) ∧ h2 = h
    | some q => v = some (.int (nI 1)) ∧ Fx [63] [] h h2 ∧ isS n q ∧ RB h2 n g F (dgs n q) (fs (dgs n q) n)) := by
  obtain ⟨hn, hg, h7, hF, hB, hS, hT⟩ := id hR
  have p1 := p10_0 n
  have p2 := p10 h7
  have p3 := p2_128 h7
  have p4 : 0 < 2 ^ n := Nat.pow_pos (by omega)
  by_cases hx : x < 0
  · rw [siO_n hx]
    refine ⟨_, _, ?_, rfl, rfl⟩
    refine q_ic (v := nI 0) dX12_sit_0 rfl ?_
    refine q_isn dX12_sit_1 (by decide) ?_
    refine q_ic (v := nI 0) dX12_sit_2 rfl ?_
    refine q_isn dX12_sit_3 (by decide) ?_
    refine r_sit_neg hW hR (fun z => ?_) n 0 _ (by omega)
    by_cases h0 : n = 0
    · refine q_aln dX12_sit_32 rfl ?_
      refine q_getI dX12_sit_33 fl_X12_252 (ws_50 hW) rfl (by first | assumption | rfl) ?_
      refine t_if_eq 68 dX12_sit_36 rfl (by rw [h0]; rfl) ?_
      refine q_ic (v := nI 0) dX12_sit_68 rfl ?_
      first | refine q_zrn dX12_sit_69 rfl (by first | omega | exact b2_le) ?_ | refine q_zr dX12_sit_69 rfl (by first | exact Or.inl rfl | exact Or.inr rfl | assumption) ?_
      rfl
    · have hi : isr x (10 ^ n) = 0 := isr_f (by rw [Int32.lt_iff_toInt_lt] at hx; have h0 : (0 : Int32).toInt = 0 := (by decide +kernel); omega)
      refine q_aln dX12_sit_32 rfl ?_
      refine q_getI dX12_sit_33 fl_X12_252 (ws_50 hW) rfl (by first | assumption | rfl) ?_
      refine f_if_eq dX12_sit_36 (tgt := 68) rfl (by exact nI_ne0 (by omega) (by omega)) ?_
      refine q_iln dX12_sit_39 rfl ?_
      refine q_ic (v := nI 0) dX12_sit_40 rfl ?_
      refine q_aln dX12_sit_41 rfl ?_
      refine q_getI dX12_sit_42 fl_X12_252 (ws_50 hW) rfl (by first | assumption | rfl) ?_
      refine q_S1 (N := m_X12_ten) dX12_sit_45 lk_X12_297 mS_X12_ten (r_ten (by omega)) (by decide) (Nat.le_of_ble_eq_true rfl) (Nat.le_of_ble_eq_true rfl) ?_
      refine q_ic (v := nI 1) dX12_sit_48 rfl ?_
      first | refine q_sub dX12_sit_49 (by omega) ?_ | refine am_x_pu dX12_sit_49 rfl ?_
      refine q_S3 (N := m_X12_in) dX12_sit_50 lk_X12_215 mS_X12_in ((by have z := r_inr (h := h) (x := x) (k := 10 ^ n - 1) (by omega); rw [show 10 ^ n - 1 + 1 = 10 ^ n by omega, hi] at z; exact z)) (by decide) (Nat.le_of_ble_eq_true rfl) (Nat.le_of_ble_eq_true rfl) ?_
      refine t_if_eq 68 dX12_sit_53 rfl (by rfl) ?_
      refine q_ic (v := nI 0) dX12_sit_68 rfl ?_
      first | refine q_zrn dX12_sit_69 rfl (by first | omega | exact b2_le) ?_ | refine q_zr dX12_sit_69 rfl (by first | exact Or.inl rfl | exact Or.inr rfl | assumption) ?_
      rfl
  · obtain ⟨v, hv, rfl⟩ := of_nn hx
    rw [siO_s hv]
    have hb := dbt_lt v n
    by_cases hs : isS n v
    · rw [if_pos (isSb_iff.mpr hs)]
      have hi : isr (nI v) (10 ^ n) = 1 := isr_s (rg_nI hs.2.1 (by omega))
      have q := r_write hW hR hv (isS_pm hs) (fun s _ => rfl)
      have q2 : am_E 2 m_X12_sit 32 [some (.ref 50), some (.int (nI v)), some (.int (nI (dbt v n))), some (.int (nI n))] [] h (fun r h2 => r = some (.int (nI 1)) ∧ Fx [63] [] h h2 ∧ isS n v ∧ RB h2 n g F (dgs n v) (fs (dgs n v) n)) := by
        refine Eq_aln dX12_sit_32 rfl ?_
        refine Eq_getI dX12_sit_33 fl_X12_252 (ws_50 hW) rfl (by first | assumption | rfl) ?_
        refine Ef_if_eq dX12_sit_36 (tgt := 68) rfl (by exact nI_ne0 (Nat.pos_of_ne_zero hs.1) (by omega)) ?_
        refine Eq_iln dX12_sit_39 rfl ?_
        refine Eq_ic (v := nI 0) dX12_sit_40 rfl ?_
        refine Eq_aln dX12_sit_41 rfl ?_
        refine Eq_getI dX12_sit_42 fl_X12_252 (ws_50 hW) rfl (by first | assumption | rfl) ?_
        refine Eq_S1 (N := m_X12_ten) dX12_sit_45 lk_X12_297 mS_X12_ten (r_ten (by omega)) (by decide) (Nat.le_of_ble_eq_true rfl) (Nat.le_of_ble_eq_true rfl) ?_
        refine Eq_ic (v := nI 1) dX12_sit_48 rfl ?_
        first | refine Eq_sub dX12_sit_49 (by omega) ?_ | refine Eam_x_pu dX12_sit_49 rfl ?_
        refine Eq_S3 (N := m_X12_in) dX12_sit_50 lk_X12_215 mS_X12_in ((by have z := r_inr (h := h) (x := nI v) (k := 10 ^ n - 1) (by omega); rw [show 10 ^ n - 1 + 1 = 10 ^ n by omega, hi] at z; exact z)) (by decide) (Nat.le_of_ble_eq_true rfl) (Nat.le_of_ble_eq_true rfl) ?_
        refine Ef_if_eq dX12_sit_53 (tgt := 68) rfl (by exact zf1) ?_
        refine Eq_iln dX12_sit_56 rfl ?_
        refine Eq_ic (v := nI 1) dX12_sit_57 rfl ?_
        refine Eq_aln dX12_sit_58 rfl ?_
        refine Eq_getI dX12_sit_59 fl_X12_252 (ws_50 hW) rfl (by first | assumption | rfl) ?_
        first | refine Eq_shl1 dX12_sit_62 (by omega) ?_ | refine Eam_x_pu dX12_sit_62 rfl ?_
        refine Eq_ic (v := nI 1) dX12_sit_63 rfl ?_
        first | refine Eq_sub dX12_sit_64 (by omega) ?_ | refine Eam_x_pu dX12_sit_64 rfl ?_
        refine Et_ic_eq 70 dX12_sit_65 rfl (by rw [hs.2.2]) ?_
        refine Eq_aln dX12_sit_70 rfl ?_
        refine Eq_iln dX12_sit_71 rfl ?_
        refine Eq_W1 (N := m_X12_write) dX12_sit_72 lk_X12_300 mV_X12_write (q) (by decide) (ws_50 hW) rfl (by decide) (Nat.le_of_ble_eq_true rfl) (Nat.le_of_ble_eq_true rfl) (fun vq hq1 hq2 => ?_)
        obtain ⟨rfl, hf, hr2⟩ := hq2
        refine Eq_ic (v := nI 1) dX12_sit_75 rfl ?_
        first | refine Eq_zrn dX12_sit_76 rfl (by first | omega | exact b2_le) ?_ | refine Eq_zr dX12_sit_76 rfl (by first | exact Or.inl rfl | exact Or.inr rfl | assumption) ?_
        exact ⟨rfl, hf, hs, hr2⟩
      obtain ⟨vv, hh, k1, k2⟩ := q2
      refine ⟨vv, hh, ?_, k2⟩
      refine q_ic (v := nI 0) dX12_sit_0 rfl ?_
      refine q_isn dX12_sit_1 (by decide) ?_
      refine q_ic (v := nI 0) dX12_sit_2 rfl ?_
      refine q_isn dX12_sit_3 (by decide) ?_
      exact r_sit_pos hW hR hv k1 n 0 (by omega)
    · rw [if_neg (fun z => hs (isSb_iff.mp z))]
      refine ⟨_, _, ?_, rfl, rfl⟩
      refine q_ic (v := nI 0) dX12_sit_0 rfl ?_
      refine q_isn dX12_sit_1 (by decide) ?_
      refine q_ic (v := nI 0) dX12_sit_2 rfl ?_
      refine q_isn dX12_sit_3 (by decide) ?_
      refine r_sit_pos hW hR hv ?_ n 0 (by omega)
      by_cases h0 : n = 0
      · refine q_aln dX12_sit_32 rfl ?_
        refine q_getI dX12_sit_33 fl_X12_252 (ws_50 hW) rfl (by first | assumption | rfl) ?_
        refine t_if_eq 68 dX12_sit_36 rfl (by rw [h0]; rfl) ?_
        refine q_ic (v := nI 0) dX12_sit_68 rfl ?_
        first | refine q_zrn dX12_sit_69 rfl (by first | omega | exact b2_le) ?_ | refine q_zr dX12_sit_69 rfl (by first | exact Or.inl rfl | exact Or.inr rfl | assumption) ?_
        rfl
      · by_cases h1 : v < 10 ^ n
        · have hi : isr (nI v) (10 ^ n) = 1 := isr_s (rg_nI h1 (by omega))
          have h2 : dbt v n ≠ 2 ^ n - 1 := fun z => hs ⟨h0, h1, z⟩
          refine q_aln dX12_sit_32 rfl ?_
          refine q_getI dX12_sit_33 fl_X12_252 (ws_50 hW) rfl (by first | assumption | rfl) ?_
          refine f_if_eq dX12_sit_36 (tgt := 68) rfl (by exact nI_ne0 (by omega) (by omega)) ?_
          refine q_iln dX12_sit_39 rfl ?_
          refine q_ic (v := nI 0) dX12_sit_40 rfl ?_
          refine q_aln dX12_sit_41 rfl ?_
          refine q_getI dX12_sit_42 fl_X12_252 (ws_50 hW) rfl (by first | assumption | rfl) ?_
          refine q_S1 (N := m_X12_ten) dX12_sit_45 lk_X12_297 mS_X12_ten (r_ten (by omega)) (by decide) (Nat.le_of_ble_eq_true rfl) (Nat.le_of_ble_eq_true rfl) ?_
          refine q_ic (v := nI 1) dX12_sit_48 rfl ?_
          first | refine q_sub dX12_sit_49 (by omega) ?_ | refine am_x_pu dX12_sit_49 rfl ?_
          refine q_S3 (N := m_X12_in) dX12_sit_50 lk_X12_215 mS_X12_in ((by have z := r_inr (h := h) (x := nI v) (k := 10 ^ n - 1) (by omega); rw [show 10 ^ n - 1 + 1 = 10 ^ n by omega, hi] at z; exact z)) (by decide) (Nat.le_of_ble_eq_true rfl) (Nat.le_of_ble_eq_true rfl) ?_
          refine f_if_eq dX12_sit_53 (tgt := 68) rfl (by exact zf1) ?_
          refine q_iln dX12_sit_56 rfl ?_
          refine q_ic (v := nI 1) dX12_sit_57 rfl ?_
          refine q_aln dX12_sit_58 rfl ?_
          refine q_getI dX12_sit_59 fl_X12_252 (ws_50 hW) rfl (by first | assumption | rfl) ?_
          first | refine q_shl1 dX12_sit_62 (by omega) ?_ | refine am_x_pu dX12_sit_62 rfl ?_
          refine q_ic (v := nI 1) dX12_sit_63 rfl ?_
          first | refine q_sub dX12_sit_64 (by omega) ?_ | refine am_x_pu dX12_sit_64 rfl ?_
          refine f_ic_eq dX12_sit_65 (tgt := 70) rfl (by exact fun z => h2 ((nI_eq (by omega) (by omega)).mp z)) ?_
          refine q_ic (v := nI 0) dX12_sit_68 rfl ?_
          first | refine q_zrn dX12_sit_69 rfl (by first | omega | exact b2_le) ?_ | refine q_zr dX12_sit_69 rfl (by first | exact Or.inl rfl | exact Or.inr rfl | assumption) ?_
          rfl
        · have hi : isr (nI v) (10 ^ n) = 0 := isr_f (by rw [nI_toInt hv]; omega)
          refine q_aln dX12_sit_32 rfl ?_
          refine q_getI dX12_sit_33 fl_X12_252 (ws_50 hW) rfl (by first | assumption | rfl) ?_
          refine f_if_eq dX12_sit_36 (tgt := 68) rfl (by exact nI_ne0 (by omega) (by omega)) ?_
          refine q_iln dX12_sit_39 rfl ?_
          refine q_ic (v := nI 0) dX12_sit_40 rfl ?_
          refine q_aln dX12_sit_41 rfl ?_
          refine q_getI dX12_sit_42 fl_X12_252 (ws_50 hW) rfl (by first | assumption | rfl) ?_
          refine q_S1 (N := m_X12_ten) dX12_sit_45 lk_X12_297 mS_X12_ten (r_ten (by omega)) (by decide) (Nat.le_of_ble_eq_true rfl) (Nat.le_of_ble_eq_true rfl) ?_
          refine q_ic (v := nI 1) dX12_sit_48 rfl ?_
          first | refine q_sub dX12_sit_49 (by omega) ?_ | refine am_x_pu dX12_sit_49 rfl ?_
          refine q_S3 (N := m_X12_in) dX12_sit_50 lk_X12_215 mS_X12_in ((by have z := r_inr (h := h) (x := nI v) (k := 10 ^ n - 1) (by omega); rw [show 10 ^ n - 1 + 1 = 10 ^ n by omega, hi] at z; exact z)) (by decide) (Nat.le_of_ble_eq_true rfl) (Nat.le_of_ble_eq_true rfl) ?_
          refine t_if_eq 68 dX12_sit_53 rfl (by rfl) ?_
          refine q_ic (v := nI 0) dX12_sit_68 rfl ?_
          first | refine q_zrn dX12_sit_69 rfl (by first | omega | exact b2_le) ?_ | refine q_zr dX12_sit_69 rfl (by first | exact Or.inl rfl | exact Or.inr rfl | assumption) ?_
          rfl
