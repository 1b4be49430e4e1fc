def yv (f : Nat → Nat) (b : Option Nat) : Nat := match b with
  | none => 1000000
  | some b => f b
theorem yc_v {f : Nat → Nat} {w : Nat} {b : Option Nat} : yc f w b = if yv f b = 1000000 then 1000000 else yv f b + w := by
  cases b with
  | none => simp [yc, yv]
  | some k => rfl
theorem YA.fx {A : List Nat} {B : List (Nat × Nat)} {h h' : am_H} {r n : Nat} {f : Nat → Nat} (m : YA r h n f) (a : Fx A B h h') (ok : r ∉ A ∧ r ∉ B.map Prod.fst) : YA r h' n f := by
  unfold YA at m ⊢
  rw [a.ia ok.1 ok.2]
  exact m
theorem YA.same {r n : Nat} {h : am_H} {f f' : Nat → Nat} (m : YA r h n f) (e : ∀ i, i < n → f i = f' i) : YA r h n f' := fun i hi => by rw [← e i hi]; exact m i hi
theorem YA.put {r n : Nat} {h : am_H} {f : Nat → Nat} {k v : Nat} (m : YA r h n f) (hv : v < 1000000) : YA r (am_wI h r k (nI v)) n (up1 f k v) := fun i hi => by
  rw [wI_eq]
  by_cases e : i = k
  · rw [if_pos e, e, up1_eq, yN_s (by omega)]
  · rw [if_neg e, up1_ne e]
    exact m i hi
theorem up1_same {f : Nat → Nat} {m v : Nat} (h : v = f m) : ∀ i, f i = up1 f m v i := fun i => by
  by_cases e : i = m
  · rw [e, up1_eq, h]
  · rw [up1_ne e]
theorem ystep {n : Nat} {g : Bool} {F : Nat → Nat → Nat} {S T : Nat → Nat} {fr k B : Nat} {f : Nat → Nat} {m : Nat} (p : Pm n S T) (hY : ∀ m, m < n → F 5 m ≤ 20) (hn : n ≤ 7) (hk : k ≤ 8) (y : Yb n g F S T fr k B f) (hm : m < n) (hs : sus F fr m = true) (hB : B ≤ 50000) : Yb n g F S T fr k (B + 40) (up1 (up1 f m (min (f m) (yc f (F 5 m) (nb1 n g S T m)))) m (min (up1 f m (min (f m) (yc f (F 5 m) (nb1 n g S T m))) m) (yc (up1 f m (min (f m) (yc f (F 5 m) (nb1 n g S T m)))) (F 5 m) (nb2 n g S T m)))) ∧ (up1 (up1 f m (min (f m) (yc f (F 5 m) (nb1 n g S T m)))) m (min (up1 f m (min (f m) (yc f (F 5 m) (nb1 n g S T m))) m) (yc (up1 f m (min (f m) (yc f (F 5 m) (nb1 n g S T m)))) (F 5 m) (nb2 n g S T m)))) m ≤ yd n g F S T fr (k + 1) m := by
  have y1 := y.rl p hY hn hm hs (Or.inl rfl) (by omega)
  have y2 := y1.rl p hY hn hm hs (Or.inr rfl) (by omega)
  refine ⟨y2, ?_⟩
  have c1 := y.cand (b := nb1 n g S T m) p hY hk hm (fun q hq => nb1_lt p hm hq) (by omega)
  have c2 := y1.cand (b := nb2 n g S T m) p hY hk hm (fun q hq => nb2_lt p hm hq) (by omega)
  have c3 := y.1 m hm
  rw [up1_eq, up1_eq, yd_s]
  unfold yst
  rw [if_pos hs]
  omega
theorem sus_f {n : Nat} {g : Bool} {F : Nat → Nat → Nat} {S T : Nat → Nat} {fr k m : Nat} (h : ¬ sus F fr m = true) : yd n g F S T fr (k + 1) m = yd n g F S T fr k m := by
  rw [yd_s]
  unfold yst
  rw [if_neg h]
def yl (f : Nat → Nat) : Nat → Nat
  | 0 => 0
  | k + 1 => max (yl f k) (if f k = 1000000 then 0 else f k)
theorem yl_le {f : Nat → Nat} {B : Nat} : ∀ k, (∀ i, i < k → f i = 1000000 ∨ f i ≤ B) → yl f k ≤ B
  | 0, _ => by simp [yl]
  | k + 1, h => by
    have ih := yl_le k (fun i hi => h i (by omega))
    have := h k (by omega)
    simp only [yl]
    split <;> omega
theorem ymax {a v : Nat} (ha : a < 2 ^ 31) (hv : v < 2 ^ 31) : (if nI a < yN v then yN v else nI a) = nI (max a (if v = 1000000 then 0 else v)) := by
  by_cases e : v = 1000000
  · rw [yN_n e, if_neg, if_pos e]
    · congr 1; omega
    · intro z
      have := Int32.lt_trans z m1_neg
      exact nI_ge0 ha this
  · rw [yN_s e, if_neg e]
    by_cases h : a < v
    · rw [if_pos (nI_lt h hv)]; congr 1; omega
    · rw [if_neg (nI_nlt (by omega) ha)]; congr 1; omega
theorem yN_m1 {v : Nat} (h : v < 2 ^ 31) : yN v = -1 ↔ v = 1000000 := by
  constructor
  · intro z
    by_cases e : v = 1000000
    · exact e
    · rw [yN_s e] at z; exact absurd z (nI_m1 h)
  · exact yN_n
theorem yinit {i j fr : Nat} {v w : Int32} (hv : v = yN (if j = fr then 0 else 1000000)) (hw : i ≠ j → w = yN (if i = fr then 0 else 1000000)) : (if i = j then v else w) = yN (if i = fr then 0 else 1000000) := by
  by_cases e : i = j
  · rw [if_pos e, e, hv]
  · rw [if_neg e]; exact hw e
def yaV (n : Nat) (g : Bool) (F : Nat → Nat → Nat) (S T : Nat → Nat) (x1 x2 : Int32) : Int32 := if lvs n F x1 = 0 then -1 else match rg x2 n with
  | none => -1
  | some m => yN (yd n g F S T ((rg x1 n).getD 0) n m)
def ysV (n : Nat) (g : Bool) (F : Nat → Nat → Nat) (S T : Nat → Nat) (x1 x2 : Int32) : Int32 := if lvs n F x1 = 0 then -1 else match rg x2 2 with
  | none => -1
  | some w => if w = 0 then nI (yl (yd n g F S T ((rg x1 n).getD 0) n) n) else nI (bt (fun m => decide (yd n g F S T ((rg x1 n).getD 0) n m = 1000000)) n)
set_option maxHeartbeats 2000000 in
theorem c_yawnedAt {h : am_H} {n : Nat} {g : Bool} {F : Nat → Nat → Nat} (hW : Wd h) (hM : MB h n g F) {f : Nat → Nat} (hA : YA 15 h n f) {b : Option Nat} (hb : ∀ k, b = some k → k < n) : am_C 1 m_X8_yawnedAt [.ref 14, .int (oN b)] h (some (.int (yN (yv f b))), h) := by
  obtain ⟨hn, hg, h7, hF, hB⟩ := id hM
  cases b with
  | none =>
    refine q_aln dX8_yawnedAt_0 rfl ?_
    refine q_getR dX8_yawnedAt_1 fl_X8_9 (ws_14 hW) rfl (wp_14_0 hW) ?_
    refine q_iln dX8_yawnedAt_4 rfl ?_
    refine q_V1 (N := m_X5_has) dX8_yawnedAt_5 lk_X8_81 mV_X5_has ((by have z := c_hasX hW hM (x := -1); rw [isr_f (by have e : (-1 : Int32).toInt = -1 := (by decide +kernel); omega)] at z; exact z)) (by decide) (ws_9 hW) rfl (by decide) (Nat.le_of_ble_eq_true rfl) (Nat.le_of_ble_eq_true rfl) ?_
    refine t_if_eq 20 dX8_yawnedAt_8 rfl (by rfl) ?_
    refine q_ic (v := -1) dX8_yawnedAt_20 rfl ?_
    refine q_ir dX8_yawnedAt_21 rfl ?_
    rfl
  | some k =>
    have hk := hb k rfl
    refine q_aln dX8_yawnedAt_0 rfl ?_
    refine q_getR dX8_yawnedAt_1 fl_X8_9 (ws_14 hW) rfl (wp_14_0 hW) ?_
    refine q_iln dX8_yawnedAt_4 rfl ?_
    refine q_V1 (N := m_X5_has) dX8_yawnedAt_5 lk_X8_81 mV_X5_has (c_has hW hM hk) (by decide) (ws_9 hW) rfl (by decide) (Nat.le_of_ble_eq_true rfl) (Nat.le_of_ble_eq_true rfl) ?_
    refine f_if_eq dX8_yawnedAt_8 (tgt := 20) rfl (by exact zf1) ?_
    refine q_aln dX8_yawnedAt_11 rfl ?_
    refine q_getR dX8_yawnedAt_12 fl_X8_19 (ws_14 hW) rfl (wp_14_2 hW) ?_
    refine q_iln dX8_yawnedAt_15 rfl ?_
    refine q_ald dX8_yawnedAt_16 (ws_15 hW) (by omega) (by omega) (hA k hk) ?_
    refine am_x_goto (tgt := 21) dX8_yawnedAt_17 rfl ?_
    refine q_ir dX8_yawnedAt_21 rfl ?_
    rfl
set_option maxHeartbeats 2000000 in
theorem c_catchYawn {h : am_H} {n : Nat} {g : Bool} {F : Nat → Nat → Nat} (hW : Wd h) (hM : MB h n g F) {f : Nat → Nat} (hA : YA 15 h n f) {B : Nat} (hfB : ∀ i, i < n → f i = 1000000 ∨ f i ≤ B) (hB : B ≤ 100000) {m : Nat} (hm : m < n) {b : Option Nat} (hb : ∀ k, b = some k → k < n) : am_D 2 m_X8_catchYawn [.ref 14, .int (nI m), .int (oN b)] h (fun v h2 => v = none ∧ Fx [15] [] h h2 ∧ YA 15 h2 n (up1 f m (min (f m) (yc f (F 5 m) b)))) := by
  obtain ⟨hn, hg, h7, hF, hB9⟩ := id hM
  have hw := (hB9 m hm).2.2.2.2
  have hfm := hfB m hm
  have hvB : yv f b = 1000000 ∨ yv f b ≤ B := by
    cases b with
    | none => exact Or.inl rfl
    | some k => exact hfB k (hb k rfl)
  rw [yc_v]
  by_cases hv : yv f b = 1000000
  · rw [if_pos hv]
    refine Eq_aln dX8_catchYawn_0 rfl ?_
    refine Eq_iln dX8_catchYawn_1 rfl ?_
    refine Eq_V1 (N := m_X8_yawnedAt) dX8_catchYawn_2 lk_X8_78 mV_X8_yawnedAt (c_yawnedAt hW hM hA hb) (by decide) (ws_14 hW) rfl (by decide) (Nat.le_of_ble_eq_true rfl) (Nat.le_of_ble_eq_true rfl) ?_
    refine Eq_isn dX8_catchYawn_5 (by decide) ?_
    refine Eam_nl (pc' := 6) (l' := [_, _, _, _, _]) rfl rfl ?_
    refine Eq_iln dX8_catchYawn_6 rfl ?_
    refine Eq_ic (v := -1) dX8_catchYawn_7 rfl ?_
    refine Et_ic_eq 22 dX8_catchYawn_8 rfl (by rw [hv]; rfl) ?_
    refine Eq_vr dX8_catchYawn_22 rfl ?_
    exact ⟨rfl, Fx.rf, hA.same (fun i _ => up1_same (by omega) i)⟩
  · rw [if_neg hv]
    have ya1 : am_C 1 m_X8_yawnedAt [.ref 14, .int (oN b)] h (some (.int (nI (yv f b))), h) := by
      have z := c_yawnedAt hW hM hA hb
      rw [yN_s hv] at z
      exact z
    by_cases hm1 : f m = 1000000
    · rw [show min (f m) (yv f b + F 5 m) = yv f b + F 5 m by omega]
      refine Eq_aln dX8_catchYawn_0 rfl ?_
      refine Eq_iln dX8_catchYawn_1 rfl ?_
      refine Eq_V1 (N := m_X8_yawnedAt) dX8_catchYawn_2 lk_X8_78 mV_X8_yawnedAt (ya1) (by decide) (ws_14 hW) rfl (by decide) (Nat.le_of_ble_eq_true rfl) (Nat.le_of_ble_eq_true rfl) ?_
      refine Eq_isn dX8_catchYawn_5 (by decide) ?_
      refine Eam_nl (pc' := 6) (l' := [_, _, _, _, _]) rfl rfl ?_
      refine Eq_iln dX8_catchYawn_6 rfl ?_
      refine Eq_ic (v := -1) dX8_catchYawn_7 rfl ?_
      refine Ef_ic_eq dX8_catchYawn_8 (tgt := 22) rfl (by exact nI_m1 (by omega)) ?_
      refine Eq_aln dX8_catchYawn_11 rfl ?_
      refine Eq_getR dX8_catchYawn_12 fl_X8_9 (ws_14 hW) rfl (wp_14_0 hW) ?_
      refine Eq_iln dX8_catchYawn_15 rfl ?_
      refine Eq_V1 (N := m_X5_has) dX8_catchYawn_16 lk_X8_81 mV_X5_has (c_has hW hM hm) (by decide) (ws_9 hW) rfl (by decide) (Nat.le_of_ble_eq_true rfl) (Nat.le_of_ble_eq_true rfl) ?_
      refine Et_if_ne 23 dX8_catchYawn_19 rfl (by exact zf1) ?_
      refine Eq_iln dX8_catchYawn_23 rfl ?_
      refine Eq_aln dX8_catchYawn_24 rfl ?_
      refine Eq_getR dX8_catchYawn_25 fl_X8_9 (ws_14 hW) rfl (wp_14_0 hW) ?_
      refine Eq_ic (v := nI 5) dX8_catchYawn_28 rfl ?_
      refine Eq_iln dX8_catchYawn_29 rfl ?_
      refine Eq_V2 (N := m_X5_fact) dX8_catchYawn_30 lk_X8_57 mV_X5_fact (c_fact hW hM (by omega) hm) (by decide) (ws_9 hW) rfl (by decide) (Nat.le_of_ble_eq_true rfl) (Nat.le_of_ble_eq_true rfl) ?_
      first | refine Eq_add dX8_catchYawn_33 ?_ | refine Eam_x_pu dX8_catchYawn_33 rfl ?_
      refine Eq_is dX8_catchYawn_34 (by decide) ?_
      refine Eam_nl (pc' := 36) (l' := [_, _, _, _, _]) rfl rfl ?_
      refine Eq_aln dX8_catchYawn_36 rfl ?_
      refine Eq_getR dX8_catchYawn_37 fl_X8_19 (ws_14 hW) rfl (wp_14_2 hW) ?_
      refine Eq_iln dX8_catchYawn_40 rfl ?_
      refine Eq_ald dX8_catchYawn_41 (ws_15 hW) (by omega) (by omega) (hA m hm) ?_
      refine Eq_ic (v := -1) dX8_catchYawn_42 rfl ?_
      refine Et_ic_eq 57 dX8_catchYawn_43 rfl (by rw [hm1]; rfl) ?_
      refine Eq_aln dX8_catchYawn_57 rfl ?_
      refine Eq_getR dX8_catchYawn_58 fl_X8_19 (ws_14 hW) rfl (wp_14_2 hW) ?_
      refine Eq_iln dX8_catchYawn_61 rfl ?_
      refine Eq_il dX8_catchYawn_62 rfl ?_
      refine Eq_ast dX8_catchYawn_64 (ws_15 hW) (by omega) (by omega) ?_
      refine Eq_vr dX8_catchYawn_65 rfl ?_
      exact ⟨rfl, Fx.wI (Or.inl (by decide)), hA.put (by omega)⟩
    · by_cases hlt : yv f b + F 5 m < f m
      · rw [show min (f m) (yv f b + F 5 m) = yv f b + F 5 m by omega]
        refine Eq_aln dX8_catchYawn_0 rfl ?_
        refine Eq_iln dX8_catchYawn_1 rfl ?_
        refine Eq_V1 (N := m_X8_yawnedAt) dX8_catchYawn_2 lk_X8_78 mV_X8_yawnedAt (ya1) (by decide) (ws_14 hW) rfl (by decide) (Nat.le_of_ble_eq_true rfl) (Nat.le_of_ble_eq_true rfl) ?_
        refine Eq_isn dX8_catchYawn_5 (by decide) ?_
        refine Eam_nl (pc' := 6) (l' := [_, _, _, _, _]) rfl rfl ?_
        refine Eq_iln dX8_catchYawn_6 rfl ?_
        refine Eq_ic (v := -1) dX8_catchYawn_7 rfl ?_
        refine Ef_ic_eq dX8_catchYawn_8 (tgt := 22) rfl (by exact nI_m1 (by omega)) ?_
        refine Eq_aln dX8_catchYawn_11 rfl ?_
        refine Eq_getR dX8_catchYawn_12 fl_X8_9 (ws_14 hW) rfl (wp_14_0 hW) ?_
        refine Eq_iln dX8_catchYawn_15 rfl ?_
        refine Eq_V1 (N := m_X5_has) dX8_catchYawn_16 lk_X8_81 mV_X5_has (c_has hW hM hm) (by decide) (ws_9 hW) rfl (by decide) (Nat.le_of_ble_eq_true rfl) (Nat.le_of_ble_eq_true rfl) ?_
        refine Et_if_ne 23 dX8_catchYawn_19 rfl (by exact zf1) ?_
        refine Eq_iln dX8_catchYawn_23 rfl ?_
        refine Eq_aln dX8_catchYawn_24 rfl ?_
        refine Eq_getR dX8_catchYawn_25 fl_X8_9 (ws_14 hW) rfl (wp_14_0 hW) ?_
        refine Eq_ic (v := nI 5) dX8_catchYawn_28 rfl ?_
        refine Eq_iln dX8_catchYawn_29 rfl ?_
        refine Eq_V2 (N := m_X5_fact) dX8_catchYawn_30 lk_X8_57 mV_X5_fact (c_fact hW hM (by omega) hm) (by decide) (ws_9 hW) rfl (by decide) (Nat.le_of_ble_eq_true rfl) (Nat.le_of_ble_eq_true rfl) ?_
        first | refine Eq_add dX8_catchYawn_33 ?_ | refine Eam_x_pu dX8_catchYawn_33 rfl ?_
        refine Eq_is dX8_catchYawn_34 (by decide) ?_
        refine Eam_nl (pc' := 36) (l' := [_, _, _, _, _]) rfl rfl ?_
        refine Eq_aln dX8_catchYawn_36 rfl ?_
        refine Eq_getR dX8_catchYawn_37 fl_X8_19 (ws_14 hW) rfl (wp_14_2 hW) ?_
        refine Eq_iln dX8_catchYawn_40 rfl ?_
        refine Eq_ald dX8_catchYawn_41 (ws_15 hW) (by omega) (by omega) (hA m hm) ?_
        refine Eq_ic (v := -1) dX8_catchYawn_42 rfl ?_
        refine Ef_ic_eq dX8_catchYawn_43 (tgt := 57) rfl (by rw [yN_s hm1]; exact nI_m1 (by omega)) ?_
        refine Eq_il dX8_catchYawn_46 rfl ?_
        refine Eq_aln dX8_catchYawn_48 rfl ?_
        refine Eq_getR dX8_catchYawn_49 fl_X8_19 (ws_14 hW) rfl (wp_14_2 hW) ?_
        refine Eq_iln dX8_catchYawn_52 rfl ?_
        refine Eq_ald dX8_catchYawn_53 (ws_15 hW) (by omega) (by omega) (hA m hm) ?_
        refine Ef_ic_ge dX8_catchYawn_54 (tgt := 65) rfl (by rw [yN_s hm1]; exact nI_ge hlt (by omega)) ?_
        refine Eq_aln dX8_catchYawn_57 rfl ?_
        refine Eq_getR dX8_catchYawn_58 fl_X8_19 (ws_14 hW) rfl (wp_14_2 hW) ?_
        refine Eq_iln dX8_catchYawn_61 rfl ?_
        refine Eq_il dX8_catchYawn_62 rfl ?_
        refine Eq_ast dX8_catchYawn_64 (ws_15 hW) (by omega) (by omega) ?_
        refine Eq_vr dX8_catchYawn_65 rfl ?_
        exact ⟨rfl, Fx.wI (Or.inl (by decide)), hA.put (by omega)⟩
      · rw [show min (f m) (yv f b + F 5 m) = f m by omega]
        refine Eq_aln dX8_catchYawn_0 rfl ?_
        refine Eq_iln dX8_catchYawn_1 rfl ?_
        refine Eq_V1 (N := m_X8_yawnedAt) dX8_catchYawn_2 lk_X8_78 mV_X8_yawnedAt (ya1) (by decide) (ws_14 hW) rfl (by decide) (Nat.le_of_ble_eq_true rfl) (Nat.le_of_ble_eq_true rfl) ?_
        refine Eq_isn dX8_catchYawn_5 (by decide) ?_
        refine Eam_nl (pc' := 6) (l' := [_, _, _, _, _]) rfl rfl ?_
        refine Eq_iln dX8_catchYawn_6 rfl ?_
        refine Eq_ic (v := -1) dX8_catchYawn_7 rfl ?_
        refine Ef_ic_eq dX8_catchYawn_8 (tgt := 22) rfl (by exact nI_m1 (by omega)) ?_
        refine Eq_aln dX8_catchYawn_11 rfl ?_
        refine Eq_getR dX8_catchYawn_12 fl_X8_9 (ws_14 hW) rfl (wp_14_0 hW) ?_
        refine Eq_iln dX8_catchYawn_15 rfl ?_
        refine Eq_V1 (N := m_X5_has) dX8_catchYawn_16 lk_X8_81 mV_X5_has (c_has hW hM hm) (by decide) (ws_9 hW) rfl (by decide) (Nat.le_of_ble_eq_true rfl) (Nat.le_of_ble_eq_true rfl) ?_
        refine Et_if_ne 23 dX8_catchYawn_19 rfl (by exact zf1) ?_
        refine Eq_iln dX8_catchYawn_23 rfl ?_
        refine Eq_aln dX8_catchYawn_24 rfl ?_
        refine Eq_getR dX8_catchYawn_25 fl_X8_9 (ws_14 hW) rfl (wp_14_0 hW) ?_
        refine Eq_ic (v := nI 5) dX8_catchYawn_28 rfl ?_
        refine Eq_iln dX8_catchYawn_29 rfl ?_
        refine Eq_V2 (N := m_X5_fact) dX8_catchYawn_30 lk_X8_57 mV_X5_fact (c_fact hW hM (by omega) hm) (by decide) (ws_9 hW) rfl (by decide) (Nat.le_of_ble_eq_true rfl) (Nat.le_of_ble_eq_true rfl) ?_
        first | refine Eq_add dX8_catchYawn_33 ?_ | refine Eam_x_pu dX8_catchYawn_33 rfl ?_
        refine Eq_is dX8_catchYawn_34 (by decide) ?_
        refine Eam_nl (pc' := 36) (l' := [_, _, _, _, _]) rfl rfl ?_
        refine Eq_aln dX8_catchYawn_36 rfl ?_
        refine Eq_getR dX8_catchYawn_37 fl_X8_19 (ws_14 hW) rfl (wp_14_2 hW) ?_
        refine Eq_iln dX8_catchYawn_40 rfl ?_
        refine Eq_ald dX8_catchYawn_41 (ws_15 hW) (by omega) (by omega) (hA m hm) ?_
        refine Eq_ic (v := -1) dX8_catchYawn_42 rfl ?_
        refine Ef_ic_eq dX8_catchYawn_43 (tgt := 57) rfl (by rw [yN_s hm1]; exact nI_m1 (by omega)) ?_
        refine Eq_il dX8_catchYawn_46 rfl ?_
        refine Eq_aln dX8_catchYawn_48 rfl ?_
        refine Eq_getR dX8_catchYawn_49 fl_X8_19 (ws_14 hW) rfl (wp_14_2 hW) ?_
        refine Eq_iln dX8_catchYawn_52 rfl ?_
        refine Eq_ald dX8_catchYawn_53 (ws_15 hW) (by omega) (by omega) (hA m hm) ?_
        refine Et_ic_ge 65 dX8_catchYawn_54 rfl (by rw [yN_s hm1]; exact nI_le (by omega) (by omega)) ?_
        refine Eq_vr dX8_catchYawn_65 rfl ?_
        exact ⟨rfl, Fx.rf, hA.same (fun i _ => up1_same rfl i)⟩
set_option maxHeartbeats 2000000 in
theorem c_spread_m {h : am_H} {n : Nat} {g : Bool} {F : Nat → Nat → Nat} (hW : Wd h) (hM : MB h n g F) {S T : Nat → Nat} (hS : SB 11 12 13 h n S T) {fr k : Nat} (hfn : fr < n) (hk : k < n) {P : Option Value → am_H → Prop} (kk : ∀ hc f x4, Fx [15] [] h hc → YA 15 hc n f → Yb n g F S T fr (k + 1) (280 * (k + 1)) f → am_E 3 m_X8_spreadYawn 159 [some (.ref 14), some (.int (nI fr)), some (.int (nI k)), some (.int (nI n)), x4] [] hc P) : ∀ q j hc (x4 : Option Value) f, j + q = n → Fx [15] [] h hc → YA 15 hc n f → Yb n g F S T fr k (280 * k + 40 * j) f → (∀ i, i < j → f i ≤ yd n g F S T fr (k + 1) i) → am_E 3 m_X8_spreadYawn 48 [some (.ref 14), some (.int (nI fr)), some (.int (nI k)), some (.int (nI j)), x4] [] hc P := by
  obtain ⟨hn9, hg9, h7, hF9, hB9⟩ := id hM
  have hY : ∀ m, m < n → F 5 m ≤ 20 := fun m hm => (hB9 m hm).2.2.2.2
  intro q
  induction q with
  | zero =>
    intro j hc x4 f hj hfr hA y0 hdone
    have hjn : j = n := by omega
    subst hjn
    have hWc := hfr.Wd hW
    have hMc := hM.fx hfr (by decide)
    have hSc := hS.fx hfr (by decide)
    have hn := hMc.1
    have hg := hMc.2.1
    refine Eq_iln dX8_spreadYawn_48 rfl ?_
    refine Eq_aln dX8_spreadYawn_49 rfl ?_
    refine Eq_getR dX8_spreadYawn_50 fl_X8_9 (ws_14 hWc) rfl (wp_14_0 hWc) ?_
    refine Eq_getI dX8_spreadYawn_53 fl_X8_35 (ws_9 hWc) rfl (by first | assumption | rfl) ?_
    refine Et_ic_ge 159 dX8_spreadYawn_56 rfl (by exact nI_le (by omega) (by omega)) ?_
    exact kk hc f x4 hfr hA ⟨hdone, y0.2.1, fun i hi => by have := y0.2.2 i hi; omega⟩
  | succ q ih =>
    intro j hc x4 f hj hfr hA y0 hdone
    have hWc := hfr.Wd hW
    have hMc := hM.fx hfr (by decide)
    have hSc := hS.fx hfr (by decide)
    have hn := hMc.1
    have hg := hMc.2.1
    have hb := hB9 j (by omega)
    have skip : ¬ sus F fr j = true → ∀ x4, am_E 3 m_X8_spreadYawn 48 [some (.ref 14), some (.int (nI fr)), some (.int (nI k)), some (.int (nI (j + 1))), x4] [] hc P := fun hs x4 => ih (j + 1) hc x4 f (by omega) hfr hA (y0.wk (by omega)) (fun i hi => by
      by_cases e : i = j
      · subst e; rw [sus_f hs]; exact y0.1 i (by omega)
      · exact hdone i (by omega))
    by_cases he : j = fr
    · refine Eq_iln dX8_spreadYawn_48 rfl ?_
      refine Eq_aln dX8_spreadYawn_49 rfl ?_
      refine Eq_getR dX8_spreadYawn_50 fl_X8_9 (ws_14 hWc) rfl (wp_14_0 hWc) ?_
      refine Eq_getI dX8_spreadYawn_53 fl_X8_35 (ws_9 hWc) rfl (by first | assumption | rfl) ?_
      refine Ef_ic_ge dX8_spreadYawn_56 (tgt := 159) rfl (by exact nI_ge (by omega) (by omega)) ?_
      refine Eq_iln dX8_spreadYawn_59 rfl ?_
      refine Eq_iln dX8_spreadYawn_60 rfl ?_
      refine Et_ic_eq 153 dX8_spreadYawn_61 rfl (by rw [he]) ?_
      refine Eq_inc dX8_spreadYawn_153 rfl (by decide) ?_
      refine Eam_nl (pc' := 156) (l' := [_, _, _, _, _]) rfl rfl ?_
      refine Eam_x_goto (tgt := 48) dX8_spreadYawn_156 rfl ?_
      exact skip (by simp [sus, he]) _
    · by_cases hl : F 3 j ≠ 1
      · by_cases hw0 : 0 < F 5 j
        · have hs : sus F fr j = true := by simp only [sus, decide_eq_true he, decide_eq_true hl, decide_eq_true hw0]; rfl
          have st := ystep hS.pm hY h7 (by omega) y0 (show j < n by omega) hs (by omega)
          have y1 := y0.rl hS.pm hY h7 (show j < n by omega) hs (Or.inl rfl) (by omega)
          refine Eq_iln dX8_spreadYawn_48 rfl ?_
          refine Eq_aln dX8_spreadYawn_49 rfl ?_
          refine Eq_getR dX8_spreadYawn_50 fl_X8_9 (ws_14 hWc) rfl (wp_14_0 hWc) ?_
          refine Eq_getI dX8_spreadYawn_53 fl_X8_35 (ws_9 hWc) rfl (by first | assumption | rfl) ?_
          refine Ef_ic_ge dX8_spreadYawn_56 (tgt := 159) rfl (by exact nI_ge (by omega) (by omega)) ?_
          refine Eq_iln dX8_spreadYawn_59 rfl ?_
          refine Eq_iln dX8_spreadYawn_60 rfl ?_
          refine Ef_ic_eq dX8_spreadYawn_61 (tgt := 153) rfl (by exact fun z => he ((nI_eq (by omega) (by omega)).mp z)) ?_
          refine Eq_aln dX8_spreadYawn_64 rfl ?_
          refine Eq_getR dX8_spreadYawn_65 fl_X8_9 (ws_14 hWc) rfl (wp_14_0 hWc) ?_
          refine Eq_iln dX8_spreadYawn_68 rfl ?_
          refine Eq_V1 (N := m_X5_lives) dX8_spreadYawn_69 lk_X8_23 mV_X5_lives (c_lives hWc hMc (by omega)) (by decide) (ws_9 hWc) rfl (by decide) (Nat.le_of_ble_eq_true rfl) (Nat.le_of_ble_eq_true rfl) ?_
          refine Ef_if_eq dX8_spreadYawn_72 (tgt := 153) rfl (by rw [if_pos hl]; exact zf1) ?_
          refine Eq_aln dX8_spreadYawn_75 rfl ?_
          refine Eq_getR dX8_spreadYawn_76 fl_X8_9 (ws_14 hWc) rfl (wp_14_0 hWc) ?_
          refine Eq_ic (v := nI 5) dX8_spreadYawn_79 rfl ?_
          refine Eq_iln dX8_spreadYawn_80 rfl ?_
          refine Eq_V2 (N := m_X5_fact) dX8_spreadYawn_81 lk_X8_57 mV_X5_fact (c_fact hWc hMc (by omega) (by omega)) (by decide) (ws_9 hWc) rfl (by decide) (Nat.le_of_ble_eq_true rfl) (Nat.le_of_ble_eq_true rfl) ?_
          refine Ef_if_le dX8_spreadYawn_84 (tgt := 153) rfl (by exact nI_ge (a := 0) (by omega) (by omega)) ?_
          refine Eq_aln dX8_spreadYawn_87 rfl ?_
          refine Eq_getR dX8_spreadYawn_88 fl_X8_15 (ws_14 hWc) rfl (wp_14_1 hWc) ?_
          refine Eq_iln dX8_spreadYawn_91 rfl ?_
          refine Eq_V1 (N := m_X6_seatOf) dX8_spreadYawn_92 lk_X8_29 mV_X6_seatOf (c_seatOf11 hWc hSc (by omega)) (by decide) (ws_11 hWc) rfl (by decide) (Nat.le_of_ble_eq_true rfl) (Nat.le_of_ble_eq_true rfl) ?_
          refine Eq_is dX8_spreadYawn_95 (by decide) ?_
          refine Eam_nl (pc' := 97) (l' := [_, _, _, _, _]) rfl rfl ?_
          refine Eq_aln dX8_spreadYawn_97 rfl ?_
          refine Eq_iln dX8_spreadYawn_98 rfl ?_
          refine Eq_aln dX8_spreadYawn_99 rfl ?_
          refine Eq_getR dX8_spreadYawn_100 fl_X8_15 (ws_14 hWc) rfl (wp_14_1 hWc) ?_
          refine Eq_aln dX8_spreadYawn_103 rfl ?_
          refine Eq_getR dX8_spreadYawn_104 fl_X8_15 (ws_14 hWc) rfl (wp_14_1 hWc) ?_
          refine Eq_il dX8_spreadYawn_107 rfl ?_
          refine Eq_aln dX8_spreadYawn_109 rfl ?_
          refine Eq_getR dX8_spreadYawn_110 fl_X8_9 (ws_14 hWc) rfl (wp_14_0 hWc) ?_
          refine Eq_getI dX8_spreadYawn_113 fl_X8_39 (ws_9 hWc) rfl (by first | assumption | rfl) ?_
          refine Eq_V2 (N := m_X6_leftOf) dX8_spreadYawn_116 lk_X8_43 mV_X6_leftOf (c_leftOf11 hWc hSc (hS.T j (by omega))) (by decide) (ws_11 hWc) rfl (by decide) (Nat.le_of_ble_eq_true rfl) (Nat.le_of_ble_eq_true rfl) ?_
          refine Eq_V1 (N := m_X6_memberOn) dX8_spreadYawn_119 lk_X8_47 mV_X6_memberOn (c_memberOnO11 hWc hSc (fun s hq => lf_lt (hS.T j (by omega)) hq)) (by decide) (ws_11 hWc) rfl (by decide) (Nat.le_of_ble_eq_true rfl) (Nat.le_of_ble_eq_true rfl) ?_
          refine Eq_W2 (N := m_X8_catchYawn) dX8_spreadYawn_122 lk_X8_71 mV_X8_catchYawn (c_catchYawn hWc hMc hA y0.2.2 (by omega) (by omega) (fun q hq => nb1_lt (g := g) hS.pm (show j < n by omega) hq)) (by decide) (ws_14 hWc) rfl (by decide) (Nat.le_of_ble_eq_true rfl) (Nat.le_of_ble_eq_true rfl) (fun vq hq1 hq2 => ?_)
          obtain ⟨rfl, hf1, hA1⟩ := hq2
          have hW1 := hf1.Wd hWc
          have hM1 := hMc.fx hf1 (by decide)
          have hS1 := hSc.fx hf1 (by decide)
          have hg1 := hM1.2.1
          refine Eq_aln dX8_spreadYawn_125 rfl ?_
          refine Eq_iln dX8_spreadYawn_126 rfl ?_
          refine Eq_aln dX8_spreadYawn_127 rfl ?_
          refine Eq_getR dX8_spreadYawn_128 fl_X8_15 (ws_14 hW1) rfl (wp_14_1 hW1) ?_
          refine Eq_aln dX8_spreadYawn_131 rfl ?_
          refine Eq_getR dX8_spreadYawn_132 fl_X8_15 (ws_14 hW1) rfl (wp_14_1 hW1) ?_
          refine Eq_il dX8_spreadYawn_135 rfl ?_
          refine Eq_aln dX8_spreadYawn_137 rfl ?_
          refine Eq_getR dX8_spreadYawn_138 fl_X8_9 (ws_14 hW1) rfl (wp_14_0 hW1) ?_
          refine Eq_getI dX8_spreadYawn_141 fl_X8_39 (ws_9 hW1) rfl (by first | assumption | rfl) ?_
          refine Eq_V2 (N := m_X6_rightOf) dX8_spreadYawn_144 lk_X8_75 mV_X6_rightOf (c_rightOf11 hW1 hS1 (hS.T j (by omega))) (by decide) (ws_11 hW1) rfl (by decide) (Nat.le_of_ble_eq_true rfl) (Nat.le_of_ble_eq_true rfl) ?_
          refine Eq_V1 (N := m_X6_memberOn) dX8_spreadYawn_147 lk_X8_47 mV_X6_memberOn (c_memberOnO11 hW1 hS1 (fun s hq => rt_lt (hS.T j (by omega)) hq)) (by decide) (ws_11 hW1) rfl (by decide) (Nat.le_of_ble_eq_true rfl) (Nat.le_of_ble_eq_true rfl) ?_
          refine Eq_W2 (N := m_X8_catchYawn) dX8_spreadYawn_150 lk_X8_71 mV_X8_catchYawn (c_catchYawn hW1 hM1 hA1 y1.2.2 (by omega) (by omega) (fun q hq => nb2_lt (g := g) hS.pm (show j < n by omega) hq)) (by decide) (ws_14 hW1) rfl (by decide) (Nat.le_of_ble_eq_true rfl) (Nat.le_of_ble_eq_true rfl) (fun vq hq1 hq5 => ?_)
          obtain ⟨rfl, hf2, hA2⟩ := hq5
          refine Eq_inc dX8_spreadYawn_153 rfl (by decide) ?_
          refine Eam_nl (pc' := 156) (l' := [_, _, _, _, _]) rfl rfl ?_
          refine Eam_x_goto (tgt := 48) dX8_spreadYawn_156 rfl ?_
          refine ih (j + 1) _ _ _ (by omega) ((hfr.tr hf1).tr hf2) hA2 (st.1.wk (by omega)) (fun i hi => ?_)
          by_cases e : i = j
          · subst e; exact st.2
          · rw [up1_ne e, up1_ne e]; exact hdone i (by omega)
        · refine Eq_iln dX8_spreadYawn_48 rfl ?_
          refine Eq_aln dX8_spreadYawn_49 rfl ?_
          refine Eq_getR dX8_spreadYawn_50 fl_X8_9 (ws_14 hWc) rfl (wp_14_0 hWc) ?_
          refine Eq_getI dX8_spreadYawn_53 fl_X8_35 (ws_9 hWc) rfl (by first | assumption | rfl) ?_
          refine Ef_ic_ge dX8_spreadYawn_56 (tgt := 159) rfl (by exact nI_ge (by omega) (by omega)) ?_
          refine Eq_iln dX8_spreadYawn_59 rfl ?_
          refine Eq_iln dX8_spreadYawn_60 rfl ?_
          refine Ef_ic_eq dX8_spreadYawn_61 (tgt := 153) rfl (by exact fun z => he ((nI_eq (by omega) (by omega)).mp z)) ?_
          refine Eq_aln dX8_spreadYawn_64 rfl ?_
          refine Eq_getR dX8_spreadYawn_65 fl_X8_9 (ws_14 hWc) rfl (wp_14_0 hWc) ?_
          refine Eq_iln dX8_spreadYawn_68 rfl ?_
          refine Eq_V1 (N := m_X5_lives) dX8_spreadYawn_69 lk_X8_23 mV_X5_lives (c_lives hWc hMc (by omega)) (by decide) (ws_9 hWc) rfl (by decide) (Nat.le_of_ble_eq_true rfl) (Nat.le_of_ble_eq_true rfl) ?_
          refine Ef_if_eq dX8_spreadYawn_72 (tgt := 153) rfl (by rw [if_pos hl]; exact zf1) ?_
          refine Eq_aln dX8_spreadYawn_75 rfl ?_
          refine Eq_getR dX8_spreadYawn_76 fl_X8_9 (ws_14 hWc) rfl (wp_14_0 hWc) ?_
          refine Eq_ic (v := nI 5) dX8_spreadYawn_79 rfl ?_
          refine Eq_iln dX8_spreadYawn_80 rfl ?_
          refine Eq_V2 (N := m_X5_fact) dX8_spreadYawn_81 lk_X8_57 mV_X5_fact (c_fact hWc hMc (by omega) (by omega)) (by decide) (ws_9 hWc) rfl (by decide) (Nat.le_of_ble_eq_true rfl) (Nat.le_of_ble_eq_true rfl) ?_
          refine Et_if_le 153 dX8_spreadYawn_84 rfl (by exact nI_le (b := 0) (by omega) (by omega)) ?_
          refine Eq_inc dX8_spreadYawn_153 rfl (by decide) ?_
          refine Eam_nl (pc' := 156) (l' := [_, _, _, _, _]) rfl rfl ?_
          refine Eam_x_goto (tgt := 48) dX8_spreadYawn_156 rfl ?_
          exact skip (by simp [sus]; omega) _
      · refine Eq_iln dX8_spreadYawn_48 rfl ?_
        refine Eq_aln dX8_spreadYawn_49 rfl ?_
        refine Eq_getR dX8_spreadYawn_50 fl_X8_9 (ws_14 hWc) rfl (wp_14_0 hWc) ?_
        refine Eq_getI dX8_spreadYawn_53 fl_X8_35 (ws_9 hWc) rfl (by first | assumption | rfl) ?_
        refine Ef_ic_ge dX8_spreadYawn_56 (tgt := 159) rfl (by exact nI_ge (by omega) (by omega)) ?_
        refine Eq_iln dX8_spreadYawn_59 rfl ?_
        refine Eq_iln dX8_spreadYawn_60 rfl ?_
        refine Ef_ic_eq dX8_spreadYawn_61 (tgt := 153) rfl (by exact fun z => he ((nI_eq (by omega) (by omega)).mp z)) ?_
        refine Eq_aln dX8_spreadYawn_64 rfl ?_
        refine Eq_getR dX8_spreadYawn_65 fl_X8_9 (ws_14 hWc) rfl (wp_14_0 hWc) ?_
        refine Eq_iln dX8_spreadYawn_68 rfl ?_
        refine Eq_V1 (N := m_X5_lives) dX8_spreadYawn_69 lk_X8_23 mV_X5_lives (c_lives hWc hMc (by omega)) (by decide) (ws_9 hWc) rfl (by decide) (Nat.le_of_ble_eq_true rfl) (Nat.le_of_ble_eq_true rfl) ?_
        refine Et_if_eq 153 dX8_spreadYawn_72 rfl (by rw [if_neg hl]; rfl) ?_
        refine Eq_inc dX8_spreadYawn_153 rfl (by decide) ?_
        refine Eam_nl (pc' := 156) (l' := [_, _, _, _, _]) rfl rfl ?_
        refine Eam_x_goto (tgt := 48) dX8_spreadYawn_156 rfl ?_
        exact skip (by simp at hl; simp [sus, hl]) _
set_option maxHeartbeats 2000000 in
theorem c_spread_p {h : am_H} {n : Nat} {g : Bool} {F : Nat → Nat → Nat} (hW : Wd h) (hM : MB h n g F) {S T : Nat → Nat} (hS : SB 11 12 13 h n S T) {fr : Nat} (hfn : fr < n) : ∀ q k hc (x3 x4 : Option Value) f, k + q = n → Fx [15] [] h hc → YA 15 hc n f → Yb n g F S T fr k (280 * k) f → (∀ z, x3 = some z → z.category ≠ 2) → am_E 3 m_X8_spreadYawn 35 [some (.ref 14), some (.int (nI fr)), some (.int (nI k)), x3, x4] [] hc (fun v h2 => v = none ∧ Fx [15] [] h h2 ∧ YA 15 h2 n (yd n g F S T fr n)) := by
  obtain ⟨hn9, hg9, h7, hF9, hB9⟩ := id hM
  have hY : ∀ m, m < n → F 5 m ≤ 20 := fun m hm => (hB9 m hm).2.2.2.2
  intro q
  induction q with
  | zero =>
    intro k hc x3 x4 f hj hfr hA y0 hx
    have hjn : k = n := by omega
    subst hjn
    have hWc := hfr.Wd hW
    have hMc := hM.fx hfr (by decide)
    have hSc := hS.fx hfr (by decide)
    have hn := hMc.1
    have hg := hMc.2.1
    refine Eq_iln dX8_spreadYawn_35 rfl ?_
    refine Eq_aln dX8_spreadYawn_36 rfl ?_
    refine Eq_getR dX8_spreadYawn_37 fl_X8_9 (ws_14 hWc) rfl (wp_14_0 hWc) ?_
    refine Eq_getI dX8_spreadYawn_40 fl_X8_35 (ws_9 hWc) rfl (by first | assumption | rfl) ?_
    refine Et_ic_ge 165 dX8_spreadYawn_43 rfl (by exact nI_le (by omega) (by omega)) ?_
    refine Eq_vr dX8_spreadYawn_165 rfl ?_
    exact ⟨rfl, hfr, hA.same (fun i hi => y0.fin i hi)⟩
  | succ q ih =>
    intro k hc x3 x4 f hj hfr hA y0 hx
    have hWc := hfr.Wd hW
    have hMc := hM.fx hfr (by decide)
    have hSc := hS.fx hfr (by decide)
    have hn := hMc.1
    have hg := hMc.2.1
    refine Eq_iln dX8_spreadYawn_35 rfl ?_
    refine Eq_aln dX8_spreadYawn_36 rfl ?_
    refine Eq_getR dX8_spreadYawn_37 fl_X8_9 (ws_14 hWc) rfl (wp_14_0 hWc) ?_
    refine Eq_getI dX8_spreadYawn_40 fl_X8_35 (ws_9 hWc) rfl (by first | assumption | rfl) ?_
    refine Ef_ic_ge dX8_spreadYawn_43 (tgt := 165) rfl (by exact nI_ge (by omega) (by omega)) ?_
    refine Eq_ic (v := nI 0) dX8_spreadYawn_46 rfl ?_
    refine Eq_isn dX8_spreadYawn_47 (by decide) ?_
    refine Eam_nl (pc' := 48) (l' := [_, _, _, _, _]) rfl rfl ?_
    refine c_spread_m hWc hMc hSc hfn (show k < n by omega) ?_ n 0 hc _ f (by omega) Fx.rf hA (y0.wk (by omega)) (fun i hi => by omega)
    intro hc2 f2 x4' hfr2 hA2 y2
    have hWc := hfr2.Wd hWc
    refine Eq_inc dX8_spreadYawn_159 rfl (by decide) ?_
    refine Eam_nl (pc' := 162) (l' := [_, _, _, _, _]) rfl rfl ?_
    refine Eam_x_goto (tgt := 35) dX8_spreadYawn_162 rfl ?_
    exact ih (k + 1) hc2 _ _ f2 (by omega) (hfr.tr hfr2) hA2 y2 (fun z hz => by cases hz; exact (by decide : (1 : Nat) ≠ 2))
set_option maxHeartbeats 2000000 in
theorem c_spread_i {h : am_H} {n : Nat} {g : Bool} {F : Nat → Nat → Nat} (hW : Wd h) (hM : MB h n g F) {S T : Nat → Nat} (hS : SB 11 12 13 h n S T) {fr : Nat} (hfn : fr < n) : ∀ q j hc (x3 x4 : Option Value), j + q = 7 → Fx [15] [] h hc → (∀ i, i < j → am_i hc 15 i = yN (if i = fr then 0 else 1000000)) → (∀ z, x3 = some z → z.category ≠ 2) → am_E 3 m_X8_spreadYawn 2 [some (.ref 14), some (.int (nI fr)), some (.int (nI j)), x3, x4] [] hc (fun v h2 => v = none ∧ Fx [15] [] h h2 ∧ YA 15 h2 n (yd n g F S T fr n)) := by
  obtain ⟨hn9, hg9, h7, hF9, hB9⟩ := id hM
  have hY : ∀ m, m < n → F 5 m ≤ 20 := fun m hm => (hB9 m hm).2.2.2.2
  intro q
  induction q with
  | zero =>
    intro j hc x3 x4 hj hfr hA hx
    have hjn : j = 7 := by omega
    subst hjn
    have hWc := hfr.Wd hW
    refine Eq_iln dX8_spreadYawn_2 rfl ?_
    refine Eq_aln dX8_spreadYawn_3 rfl ?_
    refine Eq_getR dX8_spreadYawn_4 fl_X8_19 (ws_14 hWc) rfl (wp_14_2 hWc) ?_
    refine Eam_x_alen dX8_spreadYawn_7 (ws_15 hWc) (by decide) ?_
    refine Et_ic_ge 33 dX8_spreadYawn_8 rfl (by decide +kernel) ?_
    refine Eq_ic (v := nI 0) dX8_spreadYawn_33 rfl ?_
    refine Eq_isn dX8_spreadYawn_34 (by decide) ?_
    refine Eam_nl (pc' := 35) (l' := [_, _, _, _, _]) rfl rfl ?_
    exact c_spread_p hW hM hS hfn n 0 hc _ _ _ (by omega) hfr (fun i hi => hA i (by omega)) Yb.start hx
  | succ q ih =>
    intro j hc x3 x4 hj hfr hA hx
    have hWc := hfr.Wd hW
    refine Eq_iln dX8_spreadYawn_2 rfl ?_
    refine Eq_aln dX8_spreadYawn_3 rfl ?_
    refine Eq_getR dX8_spreadYawn_4 fl_X8_19 (ws_14 hWc) rfl (wp_14_2 hWc) ?_
    refine Eam_x_alen dX8_spreadYawn_7 (ws_15 hWc) (by decide) ?_
    refine Ef_ic_ge dX8_spreadYawn_8 (tgt := 33) rfl (by exact nI_ge (by omega) (by omega)) ?_
    refine Eq_aln dX8_spreadYawn_11 rfl ?_
    refine Eq_getR dX8_spreadYawn_12 fl_X8_19 (ws_14 hWc) rfl (wp_14_2 hWc) ?_
    refine Eq_iln dX8_spreadYawn_15 rfl ?_
    refine Eq_iln dX8_spreadYawn_16 rfl ?_
    refine Eq_iln dX8_spreadYawn_17 rfl ?_
    first | refine En_ic_ne 25 dX8_spreadYawn_18 rfl (by omega) (by omega) (fun c18 => ?_) (fun c18 => ?_) | refine Eb_ic_ne 25 dX8_spreadYawn_18 rfl (fun c18 => ?_) (fun c18 => ?_)
    · first
      | (exfalso; omega)
      | (refine Eq_ic (v := -1) dX8_spreadYawn_25 rfl ?_
         refine Eq_ast dX8_spreadYawn_26 (ws_15 hWc) (by omega) (by omega) ?_
         refine Eq_inc dX8_spreadYawn_27 rfl (by decide) ?_
         refine Eam_nl (pc' := 30) (l' := [_, _, _, _, _]) rfl rfl ?_
         refine Eam_x_goto (tgt := 2) dX8_spreadYawn_30 rfl ?_
         (refine ih (j + 1) _ _ _ (by omega) (hfr.tr (Fx.wI (Or.inl (by decide)))) (fun i hi => ?_) hx; rw [wI_eq]; exact yinit (by first | (rw [if_pos (by omega)]; rfl) | (rw [if_neg (by omega)]; rfl)) (fun e => hA i (by omega))))
    · first
      | (exfalso; omega)
      | (refine Eq_ic (v := nI 0) dX8_spreadYawn_21 rfl ?_
         refine Eam_x_goto (tgt := 26) dX8_spreadYawn_22 rfl ?_
         refine Eq_ast dX8_spreadYawn_26 (ws_15 hWc) (by omega) (by omega) ?_
         refine Eq_inc dX8_spreadYawn_27 rfl (by decide) ?_
         refine Eam_nl (pc' := 30) (l' := [_, _, _, _, _]) rfl rfl ?_
         refine Eam_x_goto (tgt := 2) dX8_spreadYawn_30 rfl ?_
         (refine ih (j + 1) _ _ _ (by omega) (hfr.tr (Fx.wI (Or.inl (by decide)))) (fun i hi => ?_) hx; rw [wI_eq]; exact yinit (by first | (rw [if_pos (by omega)]; rfl) | (rw [if_neg (by omega)]; rfl)) (fun e => hA i (by omega))))
set_option maxHeartbeats 2000000 in
theorem c_spreadYawn {h : am_H} {n : Nat} {g : Bool} {F : Nat → Nat → Nat} (hW : Wd h) (hM : MB h n g F) {S T : Nat → Nat} (hS : SB 11 12 13 h n S T) {fr : Nat} (hfn : fr < n) : am_D 3 m_X8_spreadYawn [.ref 14, .int (nI fr)] h (fun v h2 => v = none ∧ Fx [15] [] h h2 ∧ YA 15 h2 n (yd n g F S T fr n)) := by
  have h7 := hM.2.2.1
  refine Eq_ic (v := nI 0) dX8_spreadYawn_0 rfl ?_
  refine Eq_isn dX8_spreadYawn_1 (by decide) ?_
  refine Eam_nl (pc' := 2) (l' := [_, _, _, _, _]) rfl rfl ?_
  exact c_spread_i hW hM hS hfn 7 0 h _ _ (by omega) Fx.rf (fun i hi => by omega) (fun z hz => nomatch hz)
set_option maxHeartbeats 2000000 in
theorem c_lastYawn_lp {h : am_H} {n : Nat} {g : Bool} {F : Nat → Nat → Nat} (hW : Wd h) (hM : MB h n g F) {f : Nat → Nat} (hA : YA 15 h n f) {B : Nat} (hfB : ∀ i, i < n → f i = 1000000 ∨ f i ≤ B) (hB : B ≤ 100000)  : ∀ k j, j + k = n → am_Sem 2 m_X8_lastYawn 4 [some (.ref 14), some (.int (nI (yl f j))), some (.int (nI j))] [] h (some (.int (nI (yl f n))), h) := by
  obtain ⟨hn, hg, h7, hF, hB9⟩ := id hM
  intro k
  induction k with
  | zero =>
    intro j hj
    have hjn : j = n := by omega
    subst hjn
    refine q_iln dX8_lastYawn_4 rfl ?_
    refine q_aln dX8_lastYawn_5 rfl ?_
    refine q_getR dX8_lastYawn_6 fl_X8_9 (ws_14 hW) rfl (wp_14_0 hW) ?_
    refine q_getI dX8_lastYawn_9 fl_X8_35 (ws_9 hW) rfl (by first | assumption | rfl) ?_
    refine t_ic_ge 31 dX8_lastYawn_12 rfl (by exact nI_le (by omega) (by omega)) ?_
    refine q_iln dX8_lastYawn_31 rfl ?_
    refine q_ir dX8_lastYawn_32 rfl ?_
    rfl
  | succ k ih =>
    intro j hj
    have q := ih (j + 1) (by omega)
    have hl := yl_le j (fun i hi => hfB i (by omega))
    have hj2 := hfB j (by omega)
    have em := ymax (a := yl f j) (v := f j) (by omega) (by omega)
    refine q_iln dX8_lastYawn_4 rfl ?_
    refine q_aln dX8_lastYawn_5 rfl ?_
    refine q_getR dX8_lastYawn_6 fl_X8_9 (ws_14 hW) rfl (wp_14_0 hW) ?_
    refine q_getI dX8_lastYawn_9 fl_X8_35 (ws_9 hW) rfl (by first | assumption | rfl) ?_
    refine f_ic_ge dX8_lastYawn_12 (tgt := 31) rfl (by exact nI_ge (by omega) (by omega)) ?_
    refine q_iln dX8_lastYawn_15 rfl ?_
    refine q_aln dX8_lastYawn_16 rfl ?_
    refine q_iln dX8_lastYawn_17 rfl ?_
    refine q_V1 (N := m_X8_yawnedAt) dX8_lastYawn_18 lk_X8_78 mV_X8_yawnedAt (c_yawnedAt (b := some j) hW hM hA (fun k hk => by cases hk; omega)) (by decide) (ws_14 hW) rfl (by decide) (Nat.le_of_ble_eq_true rfl) (Nat.le_of_ble_eq_true rfl) ?_
    refine q_max dX8_lastYawn_21 lk_X8_84 js_J9_max_7cf53 in_J9 jc_J9_max_7cf53 (by decide) (Nat.le_of_ble_eq_true rfl) ?_
    rw [show yv f (some j) = f j from rfl, em]
    refine q_isn dX8_lastYawn_24 (by decide) ?_
    refine q_inc dX8_lastYawn_25 rfl (by decide) ?_
    refine am_nl (pc' := 28) (l' := [_, _, _]) rfl rfl ?_
    refine am_x_goto (tgt := 4) dX8_lastYawn_28 rfl ?_
    exact q
set_option maxHeartbeats 2000000 in
theorem c_lastYawn {h : am_H} {n : Nat} {g : Bool} {F : Nat → Nat → Nat} (hW : Wd h) (hM : MB h n g F) {f : Nat → Nat} (hA : YA 15 h n f) {B : Nat} (hfB : ∀ i, i < n → f i = 1000000 ∨ f i ≤ B) (hB : B ≤ 100000)  : am_C 2 m_X8_lastYawn [.ref 14] h (some (.int (nI (yl f n))), h) := by
  refine q_ic (v := nI 0) dX8_lastYawn_0 rfl ?_
  refine q_isn dX8_lastYawn_1 (by decide) ?_
  refine am_nl (pc' := 2) (l' := [_, _, _]) rfl rfl ?_
  refine q_ic (v := nI 0) dX8_lastYawn_2 rfl ?_
  refine q_isn dX8_lastYawn_3 (by decide) ?_
  refine am_nl (pc' := 4) (l' := [_, _, _]) rfl rfl ?_
  exact c_lastYawn_lp hW hM hA hfB hB n 0 (by omega)
set_option maxHeartbeats 2000000 in
theorem c_sleepy_lp {h : am_H} {n : Nat} {g : Bool} {F : Nat → Nat → Nat} (hW : Wd h) (hM : MB h n g F) {f : Nat → Nat} (hA : YA 15 h n f) {B : Nat} (hfB : ∀ i, i < n → f i = 1000000 ∨ f i ≤ B) (hB : B ≤ 100000)  : ∀ k j, j + k = n → am_Sem 2 m_X8_sleepy 4 [some (.ref 14), some (.int (nI (bt (fun m => decide (f m = 1000000)) j))), some (.int (nI j))] [] h (some (.int (nI (bt (fun m => decide (f m = 1000000)) n))), h) := by
  obtain ⟨hn, hg, h7, hF, hB9⟩ := id hM
  intro k
  induction k with
  | zero =>
    intro j hj
    have hjn : j = n := by omega
    subst hjn
    refine q_iln dX8_sleepy_4 rfl ?_
    refine q_aln dX8_sleepy_5 rfl ?_
    refine q_getR dX8_sleepy_6 fl_X8_9 (ws_14 hW) rfl (wp_14_0 hW) ?_
    refine q_getI dX8_sleepy_9 fl_X8_35 (ws_9 hW) rfl (by first | assumption | rfl) ?_
    refine t_ic_ge 40 dX8_sleepy_12 rfl (by exact nI_le (by omega) (by omega)) ?_
    refine q_iln dX8_sleepy_40 rfl ?_
    refine q_ir dX8_sleepy_41 rfl ?_
    rfl
  | succ k ih =>
    intro j hj
    have q := ih (j + 1) (by omega)
    have hj2 := hfB j (by omega)
    by_cases e : f j = 1000000
    · rw [bt_t (p := fun m => decide (f m = 1000000)) (by simp [e])] at q
      refine q_iln dX8_sleepy_4 rfl ?_
      refine q_aln dX8_sleepy_5 rfl ?_
      refine q_getR dX8_sleepy_6 fl_X8_9 (ws_14 hW) rfl (wp_14_0 hW) ?_
      refine q_getI dX8_sleepy_9 fl_X8_35 (ws_9 hW) rfl (by first | assumption | rfl) ?_
      refine f_ic_ge dX8_sleepy_12 (tgt := 40) rfl (by exact nI_ge (by omega) (by omega)) ?_
      refine q_iln dX8_sleepy_15 rfl ?_
      refine q_aln dX8_sleepy_16 rfl ?_
      refine q_iln dX8_sleepy_17 rfl ?_
      refine q_V1 (N := m_X8_yawnedAt) dX8_sleepy_18 lk_X8_78 mV_X8_yawnedAt (c_yawnedAt (b := some j) hW hM hA (fun k hk => by cases hk; omega)) (by decide) (ws_14 hW) rfl (by decide) (Nat.le_of_ble_eq_true rfl) (Nat.le_of_ble_eq_true rfl) ?_
      refine q_ic (v := -1) dX8_sleepy_21 rfl ?_
      refine f_ic_ne dX8_sleepy_22 (tgt := 31) rfl (by exact yN_n e) ?_
      refine q_ic (v := nI 1) dX8_sleepy_25 rfl ?_
      refine q_iln dX8_sleepy_26 rfl ?_
      first | refine q_shl1 dX8_sleepy_27 (by omega) ?_ | refine am_x_pu dX8_sleepy_27 rfl ?_
      refine am_x_goto (tgt := 32) dX8_sleepy_28 rfl ?_
      first | refine q_or dX8_sleepy_32 ?_ | refine am_x_pu dX8_sleepy_32 rfl ?_
      refine q_isn dX8_sleepy_33 (by decide) ?_
      refine am_nl (pc' := 34) (l' := [_, _, _]) rfl rfl ?_
      refine q_inc dX8_sleepy_34 rfl (by decide) ?_
      refine am_nl (pc' := 37) (l' := [_, _, _]) rfl rfl ?_
      refine am_x_goto (tgt := 4) dX8_sleepy_37 rfl ?_
      exact q
    · rw [bt_f0 (p := fun m => decide (f m = 1000000)) (by simp [e])] at q
      refine q_iln dX8_sleepy_4 rfl ?_
      refine q_aln dX8_sleepy_5 rfl ?_
      refine q_getR dX8_sleepy_6 fl_X8_9 (ws_14 hW) rfl (wp_14_0 hW) ?_
      refine q_getI dX8_sleepy_9 fl_X8_35 (ws_9 hW) rfl (by first | assumption | rfl) ?_
      refine f_ic_ge dX8_sleepy_12 (tgt := 40) rfl (by exact nI_ge (by omega) (by omega)) ?_
      refine q_iln dX8_sleepy_15 rfl ?_
      refine q_aln dX8_sleepy_16 rfl ?_
      refine q_iln dX8_sleepy_17 rfl ?_
      refine q_V1 (N := m_X8_yawnedAt) dX8_sleepy_18 lk_X8_78 mV_X8_yawnedAt (c_yawnedAt (b := some j) hW hM hA (fun k hk => by cases hk; omega)) (by decide) (ws_14 hW) rfl (by decide) (Nat.le_of_ble_eq_true rfl) (Nat.le_of_ble_eq_true rfl) ?_
      refine q_ic (v := -1) dX8_sleepy_21 rfl ?_
      refine t_ic_ne 31 dX8_sleepy_22 rfl (by exact fun z => e ((yN_m1 (by omega)).mp z)) ?_
      refine q_ic (v := nI 0) dX8_sleepy_31 rfl ?_
      first | refine q_or dX8_sleepy_32 ?_ | refine am_x_pu dX8_sleepy_32 rfl ?_
      refine q_isn dX8_sleepy_33 (by decide) ?_
      refine am_nl (pc' := 34) (l' := [_, _, _]) rfl rfl ?_
      refine q_inc dX8_sleepy_34 rfl (by decide) ?_
      refine am_nl (pc' := 37) (l' := [_, _, _]) rfl rfl ?_
      refine am_x_goto (tgt := 4) dX8_sleepy_37 rfl ?_
      exact q
set_option maxHeartbeats 2000000 in
theorem c_sleepy {h : am_H} {n : Nat} {g : Bool} {F : Nat → Nat → Nat} (hW : Wd h) (hM : MB h n g F) {f : Nat → Nat} (hA : YA 15 h n f) {B : Nat} (hfB : ∀ i, i < n → f i = 1000000 ∨ f i ≤ B) (hB : B ≤ 100000)  : am_C 2 m_X8_sleepy [.ref 14] h (some (.int (nI (bt (fun m => decide (f m = 1000000)) n))), h) := by
  refine q_ic (v := nI 0) dX8_sleepy_0 rfl ?_
  refine q_isn dX8_sleepy_1 (by decide) ?_
  refine am_nl (pc' := 2) (l' := [_, _, _]) rfl rfl ?_
  refine q_ic (v := nI 0) dX8_sleepy_2 rfl ?_
  refine q_isn dX8_sleepy_3 (by decide) ?_
  refine am_nl (pc' := 4) (l' := [_, _, _]) rfl rfl ?_
  exact c_sleepy_lp hW hM hA hfB hB n 0 (by omega)
set_option maxHeartbeats 2000000 in
theorem c_yawn {h : am_H} {n : Nat} {g : Bool} {F : Nat → Nat → Nat} (hW : Wd h) (hM : MB h n g F) {S T : Nat → Nat} (hS : SB 11 12 13 h n S T) {x1 x2 : Int32} : am_D 4 m_X11_yawn [.ref 0, .int x1, .int x2] h (fun v h2 => v = some (.int (yaV n g F S T x1 x2)) ∧ Fx [15] [] h h2) := by
  have hY : ∀ m, m < n → F 5 m ≤ 20 := fun m hm => (hM.2.2.2.2 m hm).2.2.2.2
  have h7 := hM.2.2.1
  unfold yaV
  by_cases hl : lvs n F x1 = 0
  · rw [if_pos hl]
    refine Eq_aln dX11_yawn_0 rfl ?_
    refine Eq_getR dX11_yawn_1 fl_X11_48 (ws_0 hW) rfl (wp_0_6 hW) ?_
    refine Eq_iln dX11_yawn_4 rfl ?_
    refine Eq_V1 (N := m_X5_lives) dX11_yawn_5 lk_X11_209 mV_X5_lives ((by have z := c_livesX hW hM (x := x1); rw [hl] at z; exact z)) (by decide) (ws_9 hW) rfl (by decide) (Nat.le_of_ble_eq_true rfl) (Nat.le_of_ble_eq_true rfl) ?_
    refine Et_if_eq 22 dX11_yawn_8 rfl (by rfl) ?_
    refine Eq_ic (v := -1) dX11_yawn_22 rfl ?_
    refine Eq_ir dX11_yawn_23 rfl ?_
    exact ⟨rfl, Fx.rf⟩
  · rw [if_neg hl]
    obtain ⟨m, hr1, hal, hl1⟩ := lvs_1 hl
    cases hr2 : rg x2 n with
    | none =>
      refine Eq_aln dX11_yawn_0 rfl ?_
      refine Eq_getR dX11_yawn_1 fl_X11_48 (ws_0 hW) rfl (wp_0_6 hW) ?_
      refine Eq_iln dX11_yawn_4 rfl ?_
      refine Eq_V1 (N := m_X5_lives) dX11_yawn_5 lk_X11_209 mV_X5_lives ((by have z := c_livesX hW hM (x := x1); rw [hl1] at z; exact z)) (by decide) (ws_9 hW) rfl (by decide) (Nat.le_of_ble_eq_true rfl) (Nat.le_of_ble_eq_true rfl) ?_
      refine Ef_if_eq dX11_yawn_8 (tgt := 22) rfl (by exact zf1) ?_
      refine Eq_aln dX11_yawn_11 rfl ?_
      refine Eq_getR dX11_yawn_12 fl_X11_48 (ws_0 hW) rfl (wp_0_6 hW) ?_
      refine Eq_iln dX11_yawn_15 rfl ?_
      refine Eq_V1 (N := m_X5_has) dX11_yawn_16 lk_X11_165 mV_X5_has ((by have z := c_hasX hW hM (x := x2); rw [isr_n hr2] at z; exact z)) (by decide) (ws_9 hW) rfl (by decide) (Nat.le_of_ble_eq_true rfl) (Nat.le_of_ble_eq_true rfl) ?_
      refine Ef_if_ne dX11_yawn_19 (tgt := 24) rfl (by rfl) ?_
      refine Eq_ic (v := -1) dX11_yawn_22 rfl ?_
      refine Eq_ir dX11_yawn_23 rfl ?_
      exact ⟨rfl, Fx.rf⟩
    | some b =>
      have hi := isr_s hr2
      rw [hr1]
      obtain ⟨rfl, hm⟩ := rg_some (by omega) hr1
      obtain ⟨rfl, hb⟩ := rg_some (by omega) hr2
      refine Eq_aln dX11_yawn_0 rfl ?_
      refine Eq_getR dX11_yawn_1 fl_X11_48 (ws_0 hW) rfl (wp_0_6 hW) ?_
      refine Eq_iln dX11_yawn_4 rfl ?_
      refine Eq_V1 (N := m_X5_lives) dX11_yawn_5 lk_X11_209 mV_X5_lives ((by have z := c_livesX hW hM (x := nI m); rw [hl1] at z; exact z)) (by decide) (ws_9 hW) rfl (by decide) (Nat.le_of_ble_eq_true rfl) (Nat.le_of_ble_eq_true rfl) ?_
      refine Ef_if_eq dX11_yawn_8 (tgt := 22) rfl (by exact zf1) ?_
      refine Eq_aln dX11_yawn_11 rfl ?_
      refine Eq_getR dX11_yawn_12 fl_X11_48 (ws_0 hW) rfl (wp_0_6 hW) ?_
      refine Eq_iln dX11_yawn_15 rfl ?_
      refine Eq_V1 (N := m_X5_has) dX11_yawn_16 lk_X11_165 mV_X5_has ((by have z := c_hasX hW hM (x := nI b); rw [hi] at z; exact z)) (by decide) (ws_9 hW) rfl (by decide) (Nat.le_of_ble_eq_true rfl) (Nat.le_of_ble_eq_true rfl) ?_
      refine Et_if_ne 24 dX11_yawn_19 rfl (by exact zf1) ?_
      refine Eq_aln dX11_yawn_24 rfl ?_
      refine Eq_getR dX11_yawn_25 fl_X11_64 (ws_0 hW) rfl (wp_0_8 hW) ?_
      refine Eq_iln dX11_yawn_28 rfl ?_
      refine Eq_W1 (N := m_X8_spreadYawn) dX11_yawn_29 lk_X11_240 mV_X8_spreadYawn (c_spreadYawn hW hM hS hm) (by decide) (ws_14 hW) rfl (by decide) (Nat.le_of_ble_eq_true rfl) (Nat.le_of_ble_eq_true rfl) (fun vq hq1 hq2 => ?_)
      obtain ⟨rfl, hf, hA⟩ := hq2
      have hW2 := hf.Wd hW
      have hM2 := hM.fx hf (by decide)
      refine Eq_aln dX11_yawn_32 rfl ?_
      refine Eq_getR dX11_yawn_33 fl_X11_64 (ws_0 hW2) rfl (wp_0_8 hW2) ?_
      refine Eq_iln dX11_yawn_36 rfl ?_
      refine Eq_V1 (N := m_X8_yawnedAt) dX11_yawn_37 lk_X11_243 mV_X8_yawnedAt (c_yawnedAt (b := some b) hW2 hM2 hA (fun k hk => by cases hk; exact hb)) (by decide) (ws_14 hW2) rfl (by decide) (Nat.le_of_ble_eq_true rfl) (Nat.le_of_ble_eq_true rfl) ?_
      refine Eq_ir dX11_yawn_40 rfl ?_
      exact ⟨rfl, hf⟩
set_option maxHeartbeats 2000000 in
theorem c_yawns {h : am_H} {n : Nat} {g : Bool} {F : Nat → Nat → Nat} (hW : Wd h) (hM : MB h n g F) {S T : Nat → Nat} (hS : SB 11 12 13 h n S T) {x1 x2 : Int32} : am_D 4 m_X11_yawns [.ref 0, .int x1, .int x2] h (fun v h2 => v = some (.int (ysV n g F S T x1 x2)) ∧ Fx [15] [] h h2) := by
  have hY : ∀ m, m < n → F 5 m ≤ 20 := fun m hm => (hM.2.2.2.2 m hm).2.2.2.2
  have h7 := hM.2.2.1
  unfold ysV
  by_cases hl : lvs n F x1 = 0
  · rw [if_pos hl]
    refine Eq_aln dX11_yawns_0 rfl ?_
    refine Eq_getR dX11_yawns_1 fl_X11_48 (ws_0 hW) rfl (wp_0_6 hW) ?_
    refine Eq_iln dX11_yawns_4 rfl ?_
    refine Eq_V1 (N := m_X5_lives) dX11_yawns_5 lk_X11_209 mV_X5_lives ((by have z := c_livesX hW hM (x := x1); rw [hl] at z; exact z)) (by decide) (ws_9 hW) rfl (by decide) (Nat.le_of_ble_eq_true rfl) (Nat.le_of_ble_eq_true rfl) ?_
    refine Et_if_eq 20 dX11_yawns_8 rfl (by rfl) ?_
    refine Eq_ic (v := -1) dX11_yawns_20 rfl ?_
    refine Eq_ir dX11_yawns_21 rfl ?_
    exact ⟨rfl, Fx.rf⟩
  · rw [if_neg hl]
    obtain ⟨m, hr1, hal, hl1⟩ := lvs_1 hl
    cases hr : rg x2 (2) with
    | none =>
      rcases rg_none (by omega) hr with hx | ⟨hx, hy⟩
      · refine Eq_aln dX11_yawns_0 rfl ?_
        refine Eq_getR dX11_yawns_1 fl_X11_48 (ws_0 hW) rfl (wp_0_6 hW) ?_
        refine Eq_iln dX11_yawns_4 rfl ?_
        refine Eq_V1 (N := m_X5_lives) dX11_yawns_5 lk_X11_209 mV_X5_lives ((by have z := c_livesX hW hM (x := x1); rw [hl1] at z; exact z)) (by decide) (ws_9 hW) rfl (by decide) (Nat.le_of_ble_eq_true rfl) (Nat.le_of_ble_eq_true rfl) ?_
        refine Ef_if_eq dX11_yawns_8 (tgt := 20) rfl (by exact zf1) ?_
        refine Eq_iln dX11_yawns_11 rfl ?_
        refine Et_if_lt 20 dX11_yawns_12 rfl (by exact hx) ?_
        refine Eq_ic (v := -1) dX11_yawns_20 rfl ?_
        refine Eq_ir dX11_yawns_21 rfl ?_
        exact ⟨rfl, Fx.rf⟩
      · refine Eq_aln dX11_yawns_0 rfl ?_
        refine Eq_getR dX11_yawns_1 fl_X11_48 (ws_0 hW) rfl (wp_0_6 hW) ?_
        refine Eq_iln dX11_yawns_4 rfl ?_
        refine Eq_V1 (N := m_X5_lives) dX11_yawns_5 lk_X11_209 mV_X5_lives ((by have z := c_livesX hW hM (x := x1); rw [hl1] at z; exact z)) (by decide) (ws_9 hW) rfl (by decide) (Nat.le_of_ble_eq_true rfl) (Nat.le_of_ble_eq_true rfl) ?_
        refine Ef_if_eq dX11_yawns_8 (tgt := 20) rfl (by exact zf1) ?_
        refine Eq_iln dX11_yawns_11 rfl ?_
        refine Ef_if_lt dX11_yawns_12 (tgt := 20) rfl (by exact hx) ?_
        refine Eq_iln dX11_yawns_15 rfl ?_
        refine Eq_ic (v := nI 1) dX11_yawns_16 rfl ?_
        refine Ef_ic_le dX11_yawns_17 (tgt := 22) rfl (by exact rg_gt (by omega) hy) ?_
        refine Eq_ic (v := -1) dX11_yawns_20 rfl ?_
        refine Eq_ir dX11_yawns_21 rfl ?_
        exact ⟨rfl, Fx.rf⟩
    | some w =>
      obtain ⟨rfl, hw⟩ := rg_some (by omega) hr
      rw [hr1]
      obtain ⟨rfl, hm⟩ := rg_some (by omega) hr1
      have hyB : ∀ i, i < n → yd n g F S T m n i = 1000000 ∨ yd n g F S T m n i ≤ 20 * n := fun i hi => yd_b (g := g) hS.pm hY n i hi
      refine Eq_aln dX11_yawns_0 rfl ?_
      refine Eq_getR dX11_yawns_1 fl_X11_48 (ws_0 hW) rfl (wp_0_6 hW) ?_
      refine Eq_iln dX11_yawns_4 rfl ?_
      refine Eq_V1 (N := m_X5_lives) dX11_yawns_5 lk_X11_209 mV_X5_lives ((by have z := c_livesX hW hM (x := nI m); rw [hl1] at z; exact z)) (by decide) (ws_9 hW) rfl (by decide) (Nat.le_of_ble_eq_true rfl) (Nat.le_of_ble_eq_true rfl) ?_
      refine Ef_if_eq dX11_yawns_8 (tgt := 20) rfl (by exact zf1) ?_
      refine Eq_iln dX11_yawns_11 rfl ?_
      refine En_if_lt (tgt := 20) dX11_yawns_12 rfl (by omega) ?_
      refine Eq_iln dX11_yawns_15 rfl ?_
      refine Eq_ic (v := nI 1) dX11_yawns_16 rfl ?_
      refine Et_ic_le 22 dX11_yawns_17 rfl (by exact nI_le (by omega) (by omega)) ?_
      refine Eq_aln dX11_yawns_22 rfl ?_
      refine Eq_getR dX11_yawns_23 fl_X11_64 (ws_0 hW) rfl (wp_0_8 hW) ?_
      refine Eq_iln dX11_yawns_26 rfl ?_
      refine Eq_W1 (N := m_X8_spreadYawn) dX11_yawns_27 lk_X11_240 mV_X8_spreadYawn (c_spreadYawn hW hM hS hm) (by decide) (ws_14 hW) rfl (by decide) (Nat.le_of_ble_eq_true rfl) (Nat.le_of_ble_eq_true rfl) (fun vq hq1 hq2 => ?_)
      obtain ⟨rfl, hf, hA⟩ := hq2
      have hW2 := hf.Wd hW
      have hM2 := hM.fx hf (by decide)
      refine Eq_iln dX11_yawns_30 rfl ?_
      first | refine En_if_ne 44 dX11_yawns_31 rfl (by omega) (fun c31 => ?_) (fun c31 => ?_) | refine Eb_if_ne 44 dX11_yawns_31 rfl (fun c31 => ?_) (fun c31 => ?_)
      · first
        | (exfalso; omega)
        | (refine Eq_aln dX11_yawns_44 rfl ?_
           refine Eq_getR dX11_yawns_45 fl_X11_64 (ws_0 hW2) rfl (wp_0_8 hW2) ?_
           refine Eq_V0 (N := m_X8_sleepy) dX11_yawns_48 lk_X11_249 mV_X8_sleepy (c_sleepy hW2 hM2 hA hyB (by omega)) (by decide) (ws_14 hW2) rfl (by decide) (Nat.le_of_ble_eq_true rfl) (Nat.le_of_ble_eq_true rfl) ?_
           refine Eq_ir dX11_yawns_51 rfl ?_
           (refine ⟨?_, hf⟩; first | rw [show w = 0 by omega]; rfl | rw [show w = 1 by omega]; rfl))
      · first
        | (exfalso; omega)
        | (refine Eq_aln dX11_yawns_34 rfl ?_
           refine Eq_getR dX11_yawns_35 fl_X11_64 (ws_0 hW2) rfl (wp_0_8 hW2) ?_
           refine Eq_V0 (N := m_X8_lastYawn) dX11_yawns_38 lk_X11_246 mV_X8_lastYawn (c_lastYawn hW2 hM2 hA hyB (by omega)) (by decide) (ws_14 hW2) rfl (by decide) (Nat.le_of_ble_eq_true rfl) (Nat.le_of_ble_eq_true rfl) ?_
           refine Eam_x_goto (tgt := 51) dX11_yawns_41 rfl ?_
           refine Eq_ir dX11_yawns_51 rfl ?_
           (refine ⟨?_, hf⟩; first | rw [show w = 0 by omega]; rfl | rw [show w = 1 by omega]; rfl))
