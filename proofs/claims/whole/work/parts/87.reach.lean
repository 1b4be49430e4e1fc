/-! the class's changes: ranks, what is reached -/
abbrev g64 (x : Int64) (i : Nat) : Bool := x.toBitVec.getLsbD i
theorem l1sh : ∀ k, k < 64 → lN 1 <<< ((nI k).toInt64 &&& 63) = Int64.ofBitVec (BitVec.twoPow 64 k) := by decide +kernel
theorem g64_and {x : Int64} {k : Nat} (hk : k < 64) : x &&& Int64.ofBitVec (BitVec.twoPow 64 k) = if g64 x k = true then Int64.ofBitVec (BitVec.twoPow 64 k) else 0 := by
  apply Int64.toBitVec_inj.mp
  rw [Int64.toBitVec_and]
  show x.toBitVec &&& BitVec.twoPow 64 k = _
  rw [BitVec.and_twoPow]
  show (if x.toBitVec.getLsbD k = true then _ else _) = _
  by_cases h : x.toBitVec.getLsbD k = true
  · rw [if_pos h, if_pos h]; rfl
  · rw [if_neg h, if_neg h]; rfl
theorem tp_ne : ∀ k, k < 64 → ¬ Int64.ofBitVec (BitVec.twoPow 64 k) = 0 := by decide +kernel
theorem g64_or {x : Int64} {k i : Nat} (hk : k < 64) (hi : i < 64) : g64 (x ||| Int64.ofBitVec (BitVec.twoPow 64 k)) i = (g64 x i || decide (i = k)) := by
  show (x ||| Int64.ofBitVec (BitVec.twoPow 64 k)).toBitVec.getLsbD i = _
  rw [Int64.toBitVec_or]
  show (x.toBitVec ||| BitVec.twoPow 64 k).getLsbD i = _
  rw [BitVec.getLsbD_or, BitVec.getLsbD_twoPow]
  by_cases e : i = k
  · subst e; simp [hi]
  · have e2 : ¬ k = i := fun z => e z.symm
    simp [e, e2]
theorem lcmp0 {x y : Int64} : lg_cmp x y = 0 ↔ x = y := by
  unfold lg_cmp
  constructor
  · intro h
    split at h
    · exact absurd h (by decide)
    · split at h
      · assumption
      · exact absurd h (by decide)
  · intro h
    subst h
    rw [if_neg (Int64.lt_irrefl), if_pos rfl]
/-- the seatings reached, in the order in which they were -/
def CR (h : am_H) (n : Nat) (R : List (List Nat)) : Prop := am_i h 29 5 = nI R.length ∧ (∀ i, i < R.length → am_i h 35 i = nI (dgl n (R.getD i []))) ∧ (∀ k, k < 5040 → g64 (am_l h 36 (k / 64)) (k % 64) = decide (k ∈ R.map (rk n))) ∧ R.Nodup ∧ ∀ l ∈ R, PL n l
theorem CR.fx {A : List Nat} {B : List (Nat × Nat)} {h h' : am_H} {n : Nat} {R : List (List Nat)} (m : CR h n R) (a : Fx A B h h') (ok : 29 ∉ A ∧ 35 ∉ A ∧ 36 ∉ A ∧ (29, 5) ∉ B ∧ 35 ∉ B.map Prod.fst ∧ 36 ∉ B.map Prod.fst) : CR h' n R := by
  unfold CR at m ⊢
  rw [a.i ok.1 ok.2.2.2.1, a.ia ok.2.1 ok.2.2.2.2.1, a.la ok.2.2.1 ok.2.2.2.2.2]
  exact m
def addR (R : List (List Nat)) (l : List Nat) : List (List Nat) := if l ∈ R then R else R ++ [l]
theorem addR_mem {R : List (List Nat)} {l x : List Nat} : x ∈ addR R l ↔ x ∈ R ∨ x = l := by
  unfold addR
  by_cases h : l ∈ R
  · rw [if_pos h]
    exact ⟨Or.inl, fun z => z.elim id (fun e => e ▸ h)⟩
  · rw [if_neg h]
    simp
theorem rkf_b {n : Nat} (h7 : n ≤ 7) {S : Nat → Nat} : ∀ k, (rkf n S k).2 < 128
  | 0 => by
    show 2 ^ n - 1 < 128
    have : 2 ^ n ≤ 2 ^ 7 := Nat.pow_le_pow_right (by omega) h7
    omega
  | k + 1 => clr_lt
theorem getD_app1 {R : List (List Nat)} {l : List Nat} {i : Nat} (h : i < R.length) : (R ++ [l]).getD i [] = R.getD i [] := by
  rw [List.getD_eq_getElem?_getD, List.getD_eq_getElem?_getD, List.getElem?_append_left h]
theorem getD_app2 {R : List (List Nat)} {l : List Nat} : (R ++ [l]).getD R.length [] = l := by simp [List.getD_eq_getElem?_getD]
theorem CR.put {h : am_H} {n : Nat} (h7 : n ≤ 7) {R : List (List Nat)} (m : CR h n R) {l : List Nat} (hl : PL n l) (hn : l ∉ R) : CR (am_wI (am_wI (am_wL h 36 (rk n l / 64) (am_l h 36 (rk n l / 64) ||| Int64.ofBitVec (BitVec.twoPow 64 (rk n l % 64)))) 35 R.length (nI (dgl n l))) 29 5 (nI (R.length + 1))) n (R ++ [l]) := by
  obtain ⟨m1, m2, m3, m4, m5⟩ := m
  refine ⟨by rw [wI_e0]; simp, fun i hi => ?_, fun k hk => ?_, ?_, fun x hx => ?_⟩
  · simp only [List.length_append, List.length_cons, List.length_nil] at hi
    rw [wI_ne (by decide), wI_eq]
    by_cases e : i = R.length
    · rw [if_pos e, e, getD_app2]
    · rw [if_neg e, getD_app1 (by omega)]
      exact m2 i (by omega)
  · show g64 (am_l (am_wL h 36 (rk n l / 64) (am_l h 36 (rk n l / 64) ||| Int64.ofBitVec (BitVec.twoPow 64 (rk n l % 64)))) 36 (k / 64)) (k % 64) = _
    rw [wL_eq, List.map_append]
    have hm : decide (k ∈ R.map (rk n) ++ [l].map (rk n)) = (decide (k ∈ R.map (rk n)) || decide (k = rk n l)) := by
      by_cases e1 : k ∈ R.map (rk n)
      · simp only [List.mem_append, e1, true_or, decide_true, Bool.true_or]
      · by_cases e2 : k = rk n l
        · simp [e2]
        · simp only [List.mem_append, e1, false_or, List.map_cons, List.map_nil, List.mem_singleton, e2, decide_false, Bool.or_self]
    rw [hm]
    by_cases e : k / 64 = rk n l / 64
    · rw [if_pos e, g64_or (Nat.mod_lt _ (by omega)) (Nat.mod_lt _ (by omega)), ← e, m3 k hk]
      congr 1
      by_cases e2 : k = rk n l
      · rw [e2]; simp
      · have : ¬ k % 64 = rk n l % 64 := by omega
        simp only [this, e2, decide_false]
    · rw [if_neg e, m3 k hk]
      have : ¬ k = rk n l := fun z => e (by rw [z])
      simp only [this, decide_false, Bool.or_false]
  · rw [List.nodup_append]
    refine ⟨m4, by simp, fun a ha b hb => ?_⟩
    rw [List.mem_singleton.mp hb]
    exact fun z => hn (z ▸ ha)
  · rcases List.mem_append.mp hx with z | z
    · exact m5 x z
    · rw [List.mem_singleton.mp z]; exact hl
theorem CR.bit {h : am_H} {n : Nat} (h7 : n ≤ 7) {R : List (List Nat)} (m : CR h n R) {l : List Nat} (hl : PL n l) : g64 (am_l h 36 (rk n l / 64)) (rk n l % 64) = true ↔ l ∈ R := by
  rw [m.2.2.1 _ (rk_lt h7 hl), decide_eq_true_eq, List.mem_map]
  constructor
  · rintro ⟨x, hx, e⟩
    rw [← rk_inj h7 (m.2.2.2.2 x hx) hl e]
    exact hx
  · intro hx
    exact ⟨l, hx, rfl⟩
set_option maxHeartbeats 2000000 in
theorem c_rank_lp {h : am_H} {n : Nat} {g : Bool} {F : Nat → Nat → Nat} (hW : Wd h) (hM : MB h n g F) {S T : Nat → Nat} (hS : SB 30 31 32 h n S T)  : ∀ q j, j + q = n → ∀ l4, am_Sem 1 m_X1_rankOfTrial 16 [some (.ref 29), some (.int (nI (rkf n S j).1)), some (.int (nI (rkf n S j).2)), some (.int (nI j)), l4] [] h (some (.int (nI (rkf n S n).1)), h) := by
  have h7 := hM.2.2.1
  intro q
  induction q with
  | zero =>
    intro j hj l4
    have hjn : j = n := by omega
    subst hjn
    refine q_iln dX1_rankOfTrial_16 rfl ?_
    refine q_aln dX1_rankOfTrial_17 rfl ?_
    refine q_getR dX1_rankOfTrial_18 fl_X1_9 (ws_29 hW) rfl (wp_29_0 hW) ?_
    refine q_getI dX1_rankOfTrial_21 fl_X1_76 (ws_9 hW) rfl hM.1 ?_
    refine t_ic_ge 74 dX1_rankOfTrial_24 rfl (by exact nI_le (by omega) (by omega)) ?_
    refine q_iln dX1_rankOfTrial_74 rfl ?_
    refine q_ir dX1_rankOfTrial_75 rfl ?_
    rfl
  | succ q ih =>
    intro j hj l4
    have hs := hS.S j (by omega)
    have hb := rkf_b h7 (S := S) j
    have hp := Nat.two_pow_pos (S j)
    have hca := clr_and (rkf n S j).2 hb (S j) (by omega)
    refine q_iln dX1_rankOfTrial_16 rfl ?_
    refine q_aln dX1_rankOfTrial_17 rfl ?_
    refine q_getR dX1_rankOfTrial_18 fl_X1_9 (ws_29 hW) rfl (wp_29_0 hW) ?_
    refine q_getI dX1_rankOfTrial_21 fl_X1_76 (ws_9 hW) rfl hM.1 ?_
    refine f_ic_ge dX1_rankOfTrial_24 (tgt := 74) rfl (by exact nI_ge (by omega) (by omega)) ?_
    refine q_ic (v := nI 1) dX1_rankOfTrial_27 rfl ?_
    refine q_aln dX1_rankOfTrial_28 rfl ?_
    refine q_getR dX1_rankOfTrial_29 fl_X1_22 (ws_29 hW) rfl (wp_29_2 hW) ?_
    refine q_iln dX1_rankOfTrial_32 rfl ?_
    refine q_V1 (N := m_X6_memberOn) dX1_rankOfTrial_33 lk_X1_126 mV_X6_memberOn (c_memberOn30 hW hS (by omega)) (by decide) (ws_30 hW) rfl (by decide) (Nat.le_of_ble_eq_true rfl) (Nat.le_of_ble_eq_true rfl) ?_
    first | refine q_shl1 dX1_rankOfTrial_36 (by omega) ?_ | refine am_x_pu dX1_rankOfTrial_36 rfl ?_
    refine q_is dX1_rankOfTrial_37 (by decide) ?_
    refine am_nl (pc' := 39) (l' := [_, _, _, _, _]) rfl rfl ?_
    refine q_iln dX1_rankOfTrial_39 rfl ?_
    refine q_aln dX1_rankOfTrial_40 rfl ?_
    refine q_getR dX1_rankOfTrial_41 fl_X1_9 (ws_29 hW) rfl (wp_29_0 hW) ?_
    refine q_getI dX1_rankOfTrial_44 fl_X1_76 (ws_9 hW) rfl hM.1 ?_
    refine q_iln dX1_rankOfTrial_47 rfl ?_
    first | refine q_sub dX1_rankOfTrial_48 (by omega) ?_ | refine am_x_pu dX1_rankOfTrial_48 rfl ?_
    first | refine q_mul dX1_rankOfTrial_49 ?_ | refine am_x_pu dX1_rankOfTrial_49 rfl ?_
    refine q_iln dX1_rankOfTrial_50 rfl ?_
    refine q_il dX1_rankOfTrial_51 rfl ?_
    refine q_ic (v := nI 1) dX1_rankOfTrial_53 rfl ?_
    first | refine q_sub dX1_rankOfTrial_54 (by omega) ?_ | refine am_x_pu dX1_rankOfTrial_54 rfl ?_
    first | refine q_and dX1_rankOfTrial_55 ?_ | refine am_x_pu dX1_rankOfTrial_55 rfl ?_
    refine q_S1 (N := m_J6_bitCount_0f7a4) dX1_rankOfTrial_56 lk_X1_130 mS_J6_bitCount_0f7a4 (c_bitCount (and_128 hb)) (by decide) (Nat.le_of_ble_eq_true rfl) (Nat.le_of_ble_eq_true rfl) ?_
    first | refine q_add dX1_rankOfTrial_59 ?_ | refine am_x_pu dX1_rankOfTrial_59 rfl ?_
    refine q_isn dX1_rankOfTrial_60 (by decide) ?_
    refine am_nl (pc' := 61) (l' := [_, _, _, _, _]) rfl rfl ?_
    refine q_iln dX1_rankOfTrial_61 rfl ?_
    refine q_il dX1_rankOfTrial_62 rfl ?_
    refine q_ic (v := -1) dX1_rankOfTrial_64 rfl ?_
    refine am_x_pu dX1_rankOfTrial_65 rfl ?_
    refine am_x_pu dX1_rankOfTrial_66 rfl ?_
    rw [hca]
    refine q_isn dX1_rankOfTrial_67 (by decide) ?_
    refine am_nl (pc' := 68) (l' := [_, _, _, _, _]) rfl rfl ?_
    refine q_inc dX1_rankOfTrial_68 rfl (by decide) ?_
    refine am_nl (pc' := 71) (l' := [_, _, _, _, _]) rfl rfl ?_
    refine am_x_goto (tgt := 16) dX1_rankOfTrial_71 rfl ?_
    exact ih (j + 1) (by omega) _
set_option maxHeartbeats 2000000 in
theorem c_rankOfTrial {h : am_H} {n : Nat} {g : Bool} {F : Nat → Nat → Nat} (hW : Wd h) (hM : MB h n g F) {S T : Nat → Nat} (hS : SB 30 31 32 h n S T)  : am_C 1 m_X1_rankOfTrial [.ref 29] h (some (.int (nI (rkf n S n).1)), h) := by
  have h7 := hM.2.2.1
  have hp := Nat.two_pow_pos n
  refine q_ic (v := nI 0) dX1_rankOfTrial_0 rfl ?_
  refine q_isn dX1_rankOfTrial_1 (by decide) ?_
  refine am_nl (pc' := 2) (l' := [_, _, _, _, _]) rfl rfl ?_
  refine q_ic (v := nI 1) dX1_rankOfTrial_2 rfl ?_
  refine q_aln dX1_rankOfTrial_3 rfl ?_
  refine q_getR dX1_rankOfTrial_4 fl_X1_9 (ws_29 hW) rfl (wp_29_0 hW) ?_
  refine q_getI dX1_rankOfTrial_7 fl_X1_76 (ws_9 hW) rfl hM.1 ?_
  first | refine q_shl1 dX1_rankOfTrial_10 (by omega) ?_ | refine am_x_pu dX1_rankOfTrial_10 rfl ?_
  refine q_ic (v := nI 1) dX1_rankOfTrial_11 rfl ?_
  first | refine q_sub dX1_rankOfTrial_12 (by omega) ?_ | refine am_x_pu dX1_rankOfTrial_12 rfl ?_
  refine q_isn dX1_rankOfTrial_13 (by decide) ?_
  refine am_nl (pc' := 14) (l' := [_, _, _, _, _]) rfl rfl ?_
  refine q_ic (v := nI 0) dX1_rankOfTrial_14 rfl ?_
  refine q_isn dX1_rankOfTrial_15 (by decide) ?_
  refine am_nl (pc' := 16) (l' := [_, _, _, _, _]) rfl rfl ?_
  exact c_rank_lp hW hM hS n 0 (by omega) none
set_option maxHeartbeats 2000000 in
theorem c_reach {h : am_H} {n : Nat} {g : Bool} {F : Nat → Nat → Nat} (hW : Wd h) (hM : MB h n g F) {S T : Nat → Nat} (hS : SB 30 31 32 h n S T) {R : List (List Nat)} (hR : CR h n R) : am_D 2 m_X1_reach [.ref 29] h (fun v h2 => v = none ∧ Fx [35, 36] [(29, 5)] h h2 ∧ CR h2 n (addR R (lS n S))) := by
  have h7 := hM.2.2.1
  have hl : PL n (lS n S) := lS_PL hS.pm
  have hrk : (rkf n S n).1 = rk n (lS n S) := by
    show _ = (rkf n (sl (lS n S)) n).1
    rw [rkf_cong n (fun s hs => (lS_sl hs).symm)]
  have hr5 := rk_lt h7 hl
  have hcr := c_rankOfTrial hW hM hS
  rw [hrk] at hcr
  have hdg := c_digits30 hW hS
  rw [← dgl_lS] at hdg
  have hbit := hR.bit h7 hl
  have hlen := nd_len h7 hR.2.2.2.1 hR.2.2.2.2
  by_cases hm : lS n S ∈ R
  · rw [show addR R (lS n S) = R from if_pos hm]
    have hb := hbit.mpr hm
    have hand : am_l h 36 (rk n (lS n S) / 64) &&& (lN 1 <<< ((nI (rk n (lS n S) % 64)).toInt64 &&& 63)) = Int64.ofBitVec (BitVec.twoPow 64 (rk n (lS n S) % 64)) := by
      rw [l1sh _ (Nat.mod_lt _ (by omega)), g64_and (Nat.mod_lt _ (by omega)), if_pos hb]
    by_cases hc : R.length < 5040
    · refine Eq_aln dX1_reach_0 rfl ?_
      refine Eq_V0 (N := m_X1_rankOfTrial) dX1_reach_1 lk_X1_120 mV_X1_rankOfTrial (hcr) (by decide) (ws_29 hW) rfl (by decide) (Nat.le_of_ble_eq_true rfl) (Nat.le_of_ble_eq_true rfl) ?_
      refine Eq_isn dX1_reach_4 (by decide) ?_
      refine Eam_nl (pc' := 5) (l' := [_, _, _, _]) rfl rfl ?_
      refine Eq_iln dX1_reach_5 rfl ?_
      refine En_if_lt (tgt := 33) dX1_reach_6 rfl (by omega) ?_
      refine Eq_iln dX1_reach_9 rfl ?_
      refine Eq_sp (v := nI 5040) dX1_reach_10 rfl ?_
      refine Ef_ic_ge dX1_reach_13 (tgt := 33) rfl (by exact nI_ge (b := 5040) (by omega) (by omega)) ?_
      refine Eq_aln dX1_reach_16 rfl ?_
      refine Eq_getI dX1_reach_17 fl_X1_38 (ws_29 hW) rfl hR.1 ?_
      refine En_if_lt (tgt := 33) dX1_reach_20 rfl (by omega) ?_
      refine Eq_aln dX1_reach_23 rfl ?_
      refine Eq_getI dX1_reach_24 fl_X1_38 (ws_29 hW) rfl hR.1 ?_
      refine Eq_sp (v := nI 5040) dX1_reach_27 rfl ?_
      refine Et_ic_lt 34 dX1_reach_30 rfl (by exact nI_lt (b := 5040) (by omega) (by omega)) ?_
      refine Eq_lc (v := lN 1) dX1_reach_34 rfl ?_
      refine Eq_iln dX1_reach_35 rfl ?_
      refine Eq_bp (v := nI 64) dX1_reach_36 rfl ?_
      first | refine Eq_rem dX1_reach_38 (by omega) (by omega) (by omega) ?_ | refine Eam_x_irem dX1_reach_38 (by decide) ?_
      refine Eam_x_pu dX1_reach_39 rfl ?_
      refine Eq_lsn dX1_reach_40 (by decide) ?_
      refine Eam_nl (pc' := 41) (l' := [_, _, _, _]) rfl rfl ?_
      refine Eq_aln dX1_reach_41 rfl ?_
      refine Eq_getR dX1_reach_42 fl_X1_42 (ws_29 hW) rfl (wp_29_6 hW) ?_
      refine Eq_iln dX1_reach_45 rfl ?_
      refine Eq_bp (v := nI 64) dX1_reach_46 rfl ?_
      first | refine Eq_div dX1_reach_48 (by omega) (by omega) (by omega) ?_ | refine Eam_x_idiv dX1_reach_48 (by decide) ?_
      refine Eq_lld dX1_reach_49 (ws_36 hW) (by omega) (by omega) rfl ?_
      refine Eq_lln dX1_reach_50 rfl ?_
      refine Eam_x_pu dX1_reach_51 rfl ?_
      refine Eq_lc (v := lN 0) dX1_reach_52 rfl ?_
      refine Eam_x_pu dX1_reach_53 rfl ?_
      refine Et_if_ne 96 dX1_reach_54 rfl (by rw [hand]; exact fun z => tp_ne _ (Nat.mod_lt _ (by omega)) (lcmp0.mp z)) ?_
      refine Eq_vr dX1_reach_96 rfl ?_
      exact ⟨rfl, Fx.rf, hR⟩
    · refine Eq_aln dX1_reach_0 rfl ?_
      refine Eq_V0 (N := m_X1_rankOfTrial) dX1_reach_1 lk_X1_120 mV_X1_rankOfTrial (hcr) (by decide) (ws_29 hW) rfl (by decide) (Nat.le_of_ble_eq_true rfl) (Nat.le_of_ble_eq_true rfl) ?_
      refine Eq_isn dX1_reach_4 (by decide) ?_
      refine Eam_nl (pc' := 5) (l' := [_, _, _, _]) rfl rfl ?_
      refine Eq_iln dX1_reach_5 rfl ?_
      refine En_if_lt (tgt := 33) dX1_reach_6 rfl (by omega) ?_
      refine Eq_iln dX1_reach_9 rfl ?_
      refine Eq_sp (v := nI 5040) dX1_reach_10 rfl ?_
      refine Ef_ic_ge dX1_reach_13 (tgt := 33) rfl (by exact nI_ge (b := 5040) (by omega) (by omega)) ?_
      refine Eq_aln dX1_reach_16 rfl ?_
      refine Eq_getI dX1_reach_17 fl_X1_38 (ws_29 hW) rfl hR.1 ?_
      refine En_if_lt (tgt := 33) dX1_reach_20 rfl (by omega) ?_
      refine Eq_aln dX1_reach_23 rfl ?_
      refine Eq_getI dX1_reach_24 fl_X1_38 (ws_29 hW) rfl hR.1 ?_
      refine Eq_sp (v := nI 5040) dX1_reach_27 rfl ?_
      refine Ef_ic_lt dX1_reach_30 (tgt := 34) rfl (by exact nI_nlt (b := 5040) (by omega) (by omega)) ?_
      refine Eq_vr dX1_reach_33 rfl ?_
      exact ⟨rfl, Fx.rf, hR⟩
  · rw [show addR R (lS n S) = R ++ [lS n S] from if_neg hm]
    have hb : ¬ g64 (am_l h 36 (rk n (lS n S) / 64)) (rk n (lS n S) % 64) = true := fun z => hm (hbit.mp z)
    have hand : am_l h 36 (rk n (lS n S) / 64) &&& (lN 1 <<< ((nI (rk n (lS n S) % 64)).toInt64 &&& 63)) = 0 := by
      rw [l1sh _ (Nat.mod_lt _ (by omega)), g64_and (Nat.mod_lt _ (by omega)), if_neg hb]
    have hput := hR.put h7 hl hm
    have hor : am_l h 36 (rk n (lS n S) / 64) ||| (lN 1 <<< ((nI (rk n (lS n S) % 64)).toInt64 &&& 63)) = am_l h 36 (rk n (lS n S) / 64) ||| Int64.ofBitVec (BitVec.twoPow 64 (rk n (lS n S) % 64)) := by rw [l1sh _ (Nat.mod_lt _ (by omega))]
    have hc : R.length < 5040 := by
      have z := nd_len h7 hput.2.2.2.1 hput.2.2.2.2
      simp only [List.length_append, List.length_cons, List.length_nil] at z
      omega
    have hdg2 := c_digits30 (h := am_wL h 36 (rk n (lS n S) / 64) (am_l h 36 (rk n (lS n S) / 64) ||| Int64.ofBitVec (BitVec.twoPow 64 (rk n (lS n S) % 64)))) hW hS
    rw [← dgl_lS] at hdg2
    refine Eq_aln dX1_reach_0 rfl ?_
    refine Eq_V0 (N := m_X1_rankOfTrial) dX1_reach_1 lk_X1_120 mV_X1_rankOfTrial (hcr) (by decide) (ws_29 hW) rfl (by decide) (Nat.le_of_ble_eq_true rfl) (Nat.le_of_ble_eq_true rfl) ?_
    refine Eq_isn dX1_reach_4 (by decide) ?_
    refine Eam_nl (pc' := 5) (l' := [_, _, _, _]) rfl rfl ?_
    refine Eq_iln dX1_reach_5 rfl ?_
    refine En_if_lt (tgt := 33) dX1_reach_6 rfl (by omega) ?_
    refine Eq_iln dX1_reach_9 rfl ?_
    refine Eq_sp (v := nI 5040) dX1_reach_10 rfl ?_
    refine Ef_ic_ge dX1_reach_13 (tgt := 33) rfl (by exact nI_ge (b := 5040) (by omega) (by omega)) ?_
    refine Eq_aln dX1_reach_16 rfl ?_
    refine Eq_getI dX1_reach_17 fl_X1_38 (ws_29 hW) rfl hR.1 ?_
    refine En_if_lt (tgt := 33) dX1_reach_20 rfl (by omega) ?_
    refine Eq_aln dX1_reach_23 rfl ?_
    refine Eq_getI dX1_reach_24 fl_X1_38 (ws_29 hW) rfl hR.1 ?_
    refine Eq_sp (v := nI 5040) dX1_reach_27 rfl ?_
    refine Et_ic_lt 34 dX1_reach_30 rfl (by exact nI_lt (b := 5040) (by omega) (by omega)) ?_
    refine Eq_lc (v := lN 1) dX1_reach_34 rfl ?_
    refine Eq_iln dX1_reach_35 rfl ?_
    refine Eq_bp (v := nI 64) dX1_reach_36 rfl ?_
    first | refine Eq_rem dX1_reach_38 (by omega) (by omega) (by omega) ?_ | refine Eam_x_irem dX1_reach_38 (by decide) ?_
    refine Eam_x_pu dX1_reach_39 rfl ?_
    refine Eq_lsn dX1_reach_40 (by decide) ?_
    refine Eam_nl (pc' := 41) (l' := [_, _, _, _]) rfl rfl ?_
    refine Eq_aln dX1_reach_41 rfl ?_
    refine Eq_getR dX1_reach_42 fl_X1_42 (ws_29 hW) rfl (wp_29_6 hW) ?_
    refine Eq_iln dX1_reach_45 rfl ?_
    refine Eq_bp (v := nI 64) dX1_reach_46 rfl ?_
    first | refine Eq_div dX1_reach_48 (by omega) (by omega) (by omega) ?_ | refine Eam_x_idiv dX1_reach_48 (by decide) ?_
    refine Eq_lld dX1_reach_49 (ws_36 hW) (by omega) (by omega) rfl ?_
    refine Eq_lln dX1_reach_50 rfl ?_
    refine Eam_x_pu dX1_reach_51 rfl ?_
    refine Eq_lc (v := lN 0) dX1_reach_52 rfl ?_
    refine Eam_x_pu dX1_reach_53 rfl ?_
    refine Ef_if_ne dX1_reach_54 (tgt := 96) rfl (by rw [hand]; exact lcmp0.mpr rfl) ?_
    refine Eq_aln dX1_reach_57 rfl ?_
    refine Eq_getR dX1_reach_58 fl_X1_42 (ws_29 hW) rfl (wp_29_6 hW) ?_
    refine Eq_iln dX1_reach_61 rfl ?_
    refine Eq_bp (v := nI 64) dX1_reach_62 rfl ?_
    first | refine Eq_div dX1_reach_64 (by omega) (by omega) (by omega) ?_ | refine Eam_x_idiv dX1_reach_64 (by decide) ?_
    refine Eam_x_pu dX1_reach_65 rfl ?_
    refine Eq_lld dX1_reach_66 (ws_36 hW) (by omega) (by omega) rfl ?_
    refine Eq_lln dX1_reach_67 rfl ?_
    refine Eam_x_pu dX1_reach_68 rfl ?_
    rw [hor]
    refine Eq_lst dX1_reach_69 (ws_36 hW) (by omega) (by omega) ?_
    refine Eq_aln dX1_reach_70 rfl ?_
    refine Eq_getR dX1_reach_71 fl_X1_34 (ws_29 hW) rfl (wp_29_4 hW) ?_
    refine Eq_aln dX1_reach_74 rfl ?_
    refine Eq_getI dX1_reach_75 fl_X1_38 (ws_29 hW) rfl hR.1 ?_
    refine Eq_aln dX1_reach_78 rfl ?_
    refine Eq_getR dX1_reach_79 fl_X1_22 (ws_29 hW) rfl (wp_29_2 hW) ?_
    refine Eq_V0 (N := m_X6_digits) dX1_reach_82 lk_X1_123 mV_X6_digits (hdg2) (by decide) (ws_30 hW) rfl (by decide) (Nat.le_of_ble_eq_true rfl) (Nat.le_of_ble_eq_true rfl) ?_
    refine Eq_ast dX1_reach_85 (ws_35 hW) (by omega) (by omega) ?_
    refine Eq_aln dX1_reach_86 rfl ?_
    refine Eam_x_pu dX1_reach_87 rfl ?_
    refine Eq_getI dX1_reach_88 fl_X1_38 (ws_29 hW) rfl hR.1 ?_
    refine Eq_ic (v := nI 1) dX1_reach_91 rfl ?_
    first | refine Eq_add dX1_reach_92 ?_ | refine Eam_x_pu dX1_reach_92 rfl ?_
    refine Eam_x_putI dX1_reach_93 (fw_X1_38 rfl) (ws_29 hW) (Or.inl rfl) ?_
    refine Eq_vr dX1_reach_96 rfl ?_
    exact ⟨rfl, (Fx.wL (Or.inl (by decide))).tr ((Fx.wI (Or.inl (by decide))).tr (Fx.wI (Or.inr (by decide)))), hput⟩
/-- the seatings beside l, by the seats ahead of k -/
def ex1 (n : Nat) (g : Bool) (l : List Nat) (R : List (List Nat)) : Nat → List (List Nat)
  | 0 => R
  | k + 1 => match rt n g k with
    | none => ex1 n g l R k
    | some t => addR (ex1 n g l R k) (nbl n l k t)
theorem ex1_mem {n : Nat} {g : Bool} {l : List Nat} {R : List (List Nat)} {x : List Nat} : ∀ k, x ∈ ex1 n g l R k ↔ x ∈ R ∨ ∃ s t, s < k ∧ rt n g s = some t ∧ x = nbl n l s t
  | 0 => by
    simp only [ex1]
    exact ⟨Or.inl, fun z => z.elim id (fun ⟨s, t, h, _⟩ => by omega)⟩
  | k + 1 => by
    have ih := ex1_mem (n := n) (g := g) (l := l) (R := R) (x := x) k
    simp only [ex1]
    cases hr : rt n g k with
    | none =>
      simp only
      rw [ih]
      constructor
      · rintro (z | ⟨s, t, h1, h2, h3⟩)
        · exact Or.inl z
        · exact Or.inr ⟨s, t, by omega, h2, h3⟩
      · rintro (z | ⟨s, t, h1, h2, h3⟩)
        · exact Or.inl z
        · refine Or.inr ⟨s, t, ?_, h2, h3⟩
          have : s ≠ k := fun e => by rw [e, hr] at h2; cases h2
          omega
    | some t0 =>
      simp only
      rw [addR_mem, ih]
      constructor
      · rintro ((z | ⟨s, t, h1, h2, h3⟩) | z)
        · exact Or.inl z
        · exact Or.inr ⟨s, t, by omega, h2, h3⟩
        · exact Or.inr ⟨k, t0, by omega, hr, z⟩
      · rintro (z | ⟨s, t, h1, h2, h3⟩)
        · exact Or.inl (Or.inl z)
        · by_cases e : s = k
          · subst e
            rw [hr] at h2
            cases h2
            exact Or.inr h3
          · exact Or.inl (Or.inr ⟨s, t, by omega, h2, h3⟩)
theorem ex1_nb {n : Nat} {g : Bool} {l : List Nat} {R : List (List Nat)} {x : List Nat} : x ∈ ex1 n g l R n ↔ x ∈ R ∨ nb n g l x := by
  rw [ex1_mem, nb_rt]
set_option maxHeartbeats 2000000 in
theorem c_exAll_lp {n : Nat} {g : Bool} {F : Nat → Nat → Nat} {l : List Nat} {R : List (List Nat)} (hl : PL n l) {h0 : am_H} {v : Int32} : ∀ q j h T, j + q = n → Wd h → MB h n g F → SB 30 31 32 h n (sl l) T → CR h n (ex1 n g l R j) → Fx [31, 32, 35, 36] [(29, 5)] h0 h → ∀ l3, am_E 3 m_X1_exchangeAll 10 [some (.ref 29), some (.int v), some (.int (nI j)), l3] [] h (fun v h2 => v = none ∧ Fx [31, 32, 35, 36] [(29, 5)] h0 h2 ∧ CR h2 n (ex1 n g l R n) ∧ ∃ T, SB 30 31 32 h2 n (sl l) T) := by
  intro q
  induction q with
  | zero =>
    intro j h T hj hW hM hS hR hf l3
    have h7 := hM.2.2.1
    have hjn : j = n := by omega
    subst hjn
    refine Eq_iln dX1_exchangeAll_10 rfl ?_
    refine Eq_aln dX1_exchangeAll_11 rfl ?_
    refine Eq_getR dX1_exchangeAll_12 fl_X1_9 (ws_29 hW) rfl (wp_29_0 hW) ?_
    refine Eq_getI dX1_exchangeAll_15 fl_X1_76 (ws_9 hW) rfl hM.1 ?_
    refine Et_ic_ge 70 dX1_exchangeAll_18 rfl (by exact nI_le (by omega) (by omega)) ?_
    refine Eq_vr dX1_exchangeAll_70 rfl ?_
    exact ⟨rfl, hf, hR, T, hS⟩
  | succ q ih =>
    intro j h T hj hW hM hS hR hf l3
    have h7 := hM.2.2.1
    have hro := c_rightOf30 hW hS (g := g) (s := j) (by omega)
    cases hrt : rt n g j with
    | none =>
      rw [hrt] at hro
      have hR2 : CR h n (ex1 n g l R (j + 1)) := by simp only [ex1, hrt]; exact hR
      refine Eq_iln dX1_exchangeAll_10 rfl ?_
      refine Eq_aln dX1_exchangeAll_11 rfl ?_
      refine Eq_getR dX1_exchangeAll_12 fl_X1_9 (ws_29 hW) rfl (wp_29_0 hW) ?_
      refine Eq_getI dX1_exchangeAll_15 fl_X1_76 (ws_9 hW) rfl (by first | exact hM.1 | exact hM.2.1) ?_
      refine Ef_ic_ge dX1_exchangeAll_18 (tgt := 70) rfl (by exact nI_ge (by omega) (by omega)) ?_
      refine Eq_aln dX1_exchangeAll_21 rfl ?_
      refine Eq_getR dX1_exchangeAll_22 fl_X1_22 (ws_29 hW) rfl (wp_29_2 hW) ?_
      refine Eq_iln dX1_exchangeAll_25 rfl ?_
      refine Eq_aln dX1_exchangeAll_26 rfl ?_
      refine Eq_getR dX1_exchangeAll_27 fl_X1_9 (ws_29 hW) rfl (wp_29_0 hW) ?_
      refine Eq_getI dX1_exchangeAll_30 fl_X1_69 (ws_9 hW) rfl (by first | exact hM.1 | exact hM.2.1) ?_
      refine Eq_V2 (N := m_X6_rightOf) dX1_exchangeAll_33 lk_X1_112 mV_X6_rightOf (hro) (by decide) (ws_30 hW) rfl (by decide) (Nat.le_of_ble_eq_true rfl) (Nat.le_of_ble_eq_true rfl) ?_
      refine Eq_isn dX1_exchangeAll_36 (by decide) ?_
      refine Eam_nl (pc' := 37) (l' := [_, _, _, _]) rfl rfl ?_
      refine Eq_iln dX1_exchangeAll_37 rfl ?_
      refine Eq_ic (v := -1) dX1_exchangeAll_38 rfl ?_
      refine Et_ic_eq 64 dX1_exchangeAll_39 rfl (by rfl) ?_
      refine Eq_inc dX1_exchangeAll_64 rfl (by decide) ?_
      refine Eam_nl (pc' := 67) (l' := [_, _, _, _]) rfl rfl ?_
      refine Eam_x_goto (tgt := 10) dX1_exchangeAll_67 rfl ?_
      exact ih (j + 1) h T (by omega) hW hM hS hR2 hf _
    | some t =>
      rw [hrt] at hro
      have ht := rt_lt (show j < n by omega) hrt
      have hx1 := c_exchange30 hW hS (i := j) (j := t) (by omega) ht
      refine Eq_iln dX1_exchangeAll_10 rfl ?_
      refine Eq_aln dX1_exchangeAll_11 rfl ?_
      refine Eq_getR dX1_exchangeAll_12 fl_X1_9 (ws_29 hW) rfl (wp_29_0 hW) ?_
      refine Eq_getI dX1_exchangeAll_15 fl_X1_76 (ws_9 hW) rfl (by first | exact hM.1 | exact hM.2.1) ?_
      refine Ef_ic_ge dX1_exchangeAll_18 (tgt := 70) rfl (by exact nI_ge (by omega) (by omega)) ?_
      refine Eq_aln dX1_exchangeAll_21 rfl ?_
      refine Eq_getR dX1_exchangeAll_22 fl_X1_22 (ws_29 hW) rfl (wp_29_2 hW) ?_
      refine Eq_iln dX1_exchangeAll_25 rfl ?_
      refine Eq_aln dX1_exchangeAll_26 rfl ?_
      refine Eq_getR dX1_exchangeAll_27 fl_X1_9 (ws_29 hW) rfl (wp_29_0 hW) ?_
      refine Eq_getI dX1_exchangeAll_30 fl_X1_69 (ws_9 hW) rfl (by first | exact hM.1 | exact hM.2.1) ?_
      refine Eq_V2 (N := m_X6_rightOf) dX1_exchangeAll_33 lk_X1_112 mV_X6_rightOf (hro) (by decide) (ws_30 hW) rfl (by decide) (Nat.le_of_ble_eq_true rfl) (Nat.le_of_ble_eq_true rfl) ?_
      refine Eq_isn dX1_exchangeAll_36 (by decide) ?_
      refine Eam_nl (pc' := 37) (l' := [_, _, _, _]) rfl rfl ?_
      refine Eq_iln dX1_exchangeAll_37 rfl ?_
      refine Eq_ic (v := -1) dX1_exchangeAll_38 rfl ?_
      refine Ef_ic_eq dX1_exchangeAll_39 (tgt := 64) rfl (by exact nI_m1 (by omega)) ?_
      refine Eq_aln dX1_exchangeAll_42 rfl ?_
      refine Eq_getR dX1_exchangeAll_43 fl_X1_22 (ws_29 hW) rfl (wp_29_2 hW) ?_
      refine Eq_iln (x := nI j) dX1_exchangeAll_46 rfl ?_
      refine Eq_iln (x := nI t) dX1_exchangeAll_47 rfl ?_
      refine Eq_W2 (N := m_X6_exchange) dX1_exchangeAll_48 lk_X1_116 mV_X6_exchange (hx1) (by decide) (ws_30 hW) rfl (by decide) (Nat.le_of_ble_eq_true rfl) (Nat.le_of_ble_eq_true rfl) (fun vq hq1 hq2 => ?_)
      obtain ⟨rfl, hf2, hS2⟩ := hq2
      have hW2 := hf2.Wd hW
      have hM2 := hM.fx hf2 (by decide)
      refine Eq_aln dX1_exchangeAll_51 rfl ?_
      refine Eq_W0 (N := m_X1_reach) dX1_exchangeAll_52 lk_X1_89 mV_X1_reach (c_reach hW2 hM2 hS2 (hR.fx hf2 (by decide))) (by decide) (ws_29 hW2) rfl (by decide) (Nat.le_of_ble_eq_true rfl) (Nat.le_of_ble_eq_true rfl) (fun vq hq1 hq4 => ?_)
      obtain ⟨rfl, hf4, hR4⟩ := hq4
      have hW4 := hf4.Wd hW2
      have hS4 := hS2.fx hf4 (by decide)
      refine Eq_aln dX1_exchangeAll_55 rfl ?_
      refine Eq_getR dX1_exchangeAll_56 fl_X1_22 (ws_29 hW4) rfl (wp_29_2 hW4) ?_
      refine Eq_iln (x := nI j) dX1_exchangeAll_59 rfl ?_
      refine Eq_iln (x := nI t) dX1_exchangeAll_60 rfl ?_
      refine Eq_W2 (N := m_X6_exchange) dX1_exchangeAll_61 lk_X1_116 mV_X6_exchange (c_exchange30 hW4 hS4 (i := j) (j := t) (by omega) ht) (by decide) (ws_30 hW4) rfl (by decide) (Nat.le_of_ble_eq_true rfl) (Nat.le_of_ble_eq_true rfl) (fun vq hq1 hq6 => ?_)
      obtain ⟨rfl, hf6, hS6⟩ := hq6
      have hW6 := hf6.Wd hW4
      rw [sw_sw] at hS6
      refine Eq_inc dX1_exchangeAll_64 rfl (by decide) ?_
      refine Eam_nl (pc' := 67) (l' := [_, _, _, _]) rfl rfl ?_
      refine Eam_x_goto (tgt := 10) dX1_exchangeAll_67 rfl ?_
      exact ih (j + 1) _ _ (by omega) hW6 ((hM2.fx hf4 (by decide)).fx hf6 (by decide)) hS6 (by simp only [ex1, hrt]; exact hR4.fx hf6 (by decide)) (hf.tr ((hf2.mono (by decide) (by decide)).tr ((hf4.mono (by decide) (by decide)).tr (hf6.mono (by decide) (by decide))))) _
set_option maxHeartbeats 2000000 in
theorem c_exchangeAll {h : am_H} {n : Nat} {g : Bool} {F : Nat → Nat → Nat} (hW : Wd h) (hM : MB h n g F) (hn : am_i h 30 0 = nI n) {l : List Nat} (hl : PL n l) {R : List (List Nat)} (hR : CR h n R) : am_D 3 m_X1_exchangeAll [.ref 29, .int (nI (dgl n l))] h (fun v h2 => v = none ∧ Fx [31, 32, 35, 36] [(29, 5)] h h2 ∧ CR h2 n (ex1 n g l R n) ∧ ∃ T, SB 30 31 32 h2 n (sl l) T) := by
  have h7 := hM.2.2.1
  have hd := dgl_lt h7 hl.2.1 hl.2.2
  have htk := c_take30 hW hn h7 (v := dgl n l) (by omega) hl.pm (fun s hs => dgs_dg (fun s hs => by have := (hl.pm.1 s hs).1; omega) hs)
  refine Eq_aln dX1_exchangeAll_0 rfl ?_
  refine Eq_getR dX1_exchangeAll_1 fl_X1_22 (ws_29 hW) rfl (wp_29_2 hW) ?_
  refine Eq_iln dX1_exchangeAll_4 rfl ?_
  refine Eq_W1 (N := m_X6_take) dX1_exchangeAll_5 lk_X1_105 mV_X6_take (htk) (by decide) (ws_30 hW) rfl (by decide) (Nat.le_of_ble_eq_true rfl) (Nat.le_of_ble_eq_true rfl) (fun vq hq1 hq2 => ?_)
  obtain ⟨rfl, hf2, hS2⟩ := hq2
  refine Eq_ic (v := nI 0) dX1_exchangeAll_8 rfl ?_
  refine Eq_isn dX1_exchangeAll_9 (by decide) ?_
  refine Eam_nl (pc' := 10) (l' := [_, _, _, _]) rfl rfl ?_
  exact c_exAll_lp hl n 0 _ _ (by omega) (hf2.Wd hW) (hM.fx hf2 (by decide)) hS2 (hR.fx hf2 (by decide)) (hf2.mono (by decide) (by decide)) _
