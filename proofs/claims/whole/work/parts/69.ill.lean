/-! how ill all sit -/
def enm (F : Nat → Nat → Nat) (a b : Nat) : Bool := decide (F 4 a = b) || decide (F 4 b = a)
def wsv (F : Nat → Nat → Nat) (a b s : Nat) : Nat → Int32 := fun i => if i = 0 then nI (F 0 a) else if i = 1 then nI (F 0 b) else if i = 2 then nI (F 1 a) else if i = 3 then nI (slp F a) else if i = 4 then nI (if enm F a b = true then 1 else 0) else nI s
/-- how ill b sits to the right of a, on seat s -/
def pwt (hm : Option (List (Tks × Tks))) (F : Nat → Nat → Nat) (a b s : Nat) : Int32 := match hm with
  | none => nI (if enm F a b = true then 1 else 0)
  | some M => wth (wsv F a b s) M
def ils (hm : Option (List (Tks × Tks))) (n : Nat) (g : Bool) (F : Nat → Nat → Nat) (S : Nat → Nat) : Nat → Int32
  | 0 => nI 0
  | k + 1 => match lf n g k with
    | none => ils hm n g F S k
    | some l => ils hm n g F S k + pwt hm F (S l) (S k) k
theorem ils_n {hm : Option (List (Tks × Tks))} {n : Nat} {g : Bool} {F : Nat → Nat → Nat} {S : Nat → Nat} {k : Nat} (h : lf n g k = none) : ils hm n g F S (k + 1) = ils hm n g F S k := by simp only [ils, h]
theorem ils_s {hm : Option (List (Tks × Tks))} {n : Nat} {g : Bool} {F : Nat → Nat → Nat} {S : Nat → Nat} {k l : Nat} (h : lf n g k = some l) : ils hm n g F S (k + 1) = ils hm n g F S k + pwt hm F (S l) (S k) k := by simp only [ils, h]
theorem tokE_cong {H : Nat} {ws ws' : Nat → Int32} (hw : ∀ j, j < 6 → ws j = ws' j) {t : Nat × Nat} {ty ty' : List Bool} {st : List Int32} (h : tyt H t ty = some ty') : tokE ws t st = tokE ws' t st := by
  rcases tyt_c h with ⟨e, _, _, _⟩ | ⟨e, _, e6, _⟩ | ⟨e, s, _, _⟩ | ⟨e1, e2, s, _, _⟩ | ⟨e1, e2, s, _, _⟩ | ⟨e1, e2, s, _, _⟩
  · unfold tokE; rw [if_pos e, if_pos e]
  · unfold tokE; rw [if_neg (by omega), if_pos e, if_neg (by omega), if_pos e, hw _ e6]
  · have n0 : ¬ t.1 = 0 := by omega
    have n1 : ¬ t.1 = 1 := by omega
    simp only [tokE, if_neg n0, if_neg n1]
  · have n0 : ¬ t.1 = 0 := by omega
    have n1 : ¬ t.1 = 1 := by omega
    simp only [tokE, if_neg n0, if_neg n1]
  · have n0 : ¬ t.1 = 0 := by omega
    have n1 : ¬ t.1 = 1 := by omega
    simp only [tokE, if_neg n0, if_neg n1]
  · have n0 : ¬ t.1 = 0 := by omega
    have n1 : ¬ t.1 = 1 := by omega
    simp only [tokE, if_neg n0, if_neg n1]
theorem run_cong {H : Nat} {ws ws' : Nat → Int32} (hw : ∀ j, j < 6 → ws j = ws' j) : ∀ {ts : Tks} {ty ty' : List Bool} {st : List Int32}, tyc H ts ty = some ty' → run ws ts st = run ws' ts st
  | [], _, _, _, _ => rfl
  | t :: r, ty, ty', st, h => by
    simp only [tyc] at h
    cases hq : tyt H t ty with
    | none => rw [hq] at h; cases h
    | some s =>
      rw [hq] at h
      simp only [run]
      rw [tokE_cong hw hq]
      exact run_cong hw h
theorem wth_cong {ws ws' : Nat → Int32} (hw : ∀ j, j < 6 → ws j = ws' j) : ∀ {M : List (Tks × Tks)}, (∀ c ∈ M, ClT c) → wth ws M = wth ws' M
  | [], _ => rfl
  | c :: r, h => by
    have hc := h c (by simp)
    have ih := wth_cong hw (M := r) (fun d hd => h d (by simp [hd]))
    simp only [wth]
    rw [run_cong hw hc.2, ih]
    by_cases e : c.1 = []
    · rw [if_pos e, if_pos e]
    · rw [if_neg e, if_neg e, run_cong hw (hc.1.resolve_left e)]
/-- what the class holds -/
def CHd (h : am_H) (q : Option (Nat × Nat × Nat × List (Tks × Tks))) : Prop := match q with
  | none => am_p h 20 1 = none
  | some z => am_p h 20 1 = some z.1 ∧ MN h z.1 z.2.1 z.2.2.1 (lay 0 z.2.2.2) ∧ ∀ c ∈ z.2.2.2, ClT c
def hmo (q : Option (Nat × Nat × Nat × List (Tks × Tks))) : Option (List (Tks × Tks)) := q.map (fun z => z.2.2.2)
def FL (q : Option (Nat × Nat × Nat × List (Tks × Tks))) : List Nat := match q with
  | none => [21]
  | some z => [21, z.1, z.2.2.1]
theorem FLn {h : am_H} {q : Option (Nat × Nat × Nat × List (Tks × Tks))} (hq : CHd h q) {x : Nat} (h1 : x < 80) (h2 : x ≠ 21) : x ∉ FL q := by
  cases q with
  | none => simp [FL]; exact h2
  | some z =>
    have h3 := hq.2.1.2.2.2.2.2.2.2.2.2.2
    simp only [FL, List.mem_cons, List.not_mem_nil, or_false, not_or]
    exact ⟨h2, by omega, by omega⟩
theorem CHd.fx {B : List (Nat × Nat)} {h h' : am_H} {q : Option (Nat × Nat × Nat × List (Tks × Tks))} {A : List Nat} (m : CHd h q) (a : Fx A B h h') (hA : ∀ x ∈ A, x < 80 ∨ x ∈ FL q) (hB : ∀ x ∈ B, x.1 < 80) : CHd h' q := by
  have e2 : am_p h' = am_p h := by unfold am_p; rw [a.2.1]
  cases q with
  | none => show am_p h' 20 1 = none; rw [e2]; exact m
  | some z =>
    refine ⟨by rw [e2]; exact m.1, m.2.1.fx a (fun hz => ?_) (fun hz => ?_), m.2.2⟩
    · have h3 := m.2.1.2.2.2.2.2.2.2
      rcases hA _ hz with z1 | z1
      · have := h3.2.2.2.2.1; omega
      · simp only [FL, List.mem_cons, List.not_mem_nil, or_false] at z1
        rcases z1 with z1 | z1 | z1
        · have := h3.2.2.2.2.1; omega
        · exact h3.1 z1
        · exact h3.2.1 z1
    · obtain ⟨y, hy, he⟩ := List.mem_map.mp hz
      have := hB y hy
      have h3 := m.2.1.2.2.2.2.2.2.2.2.2.2.2.1
      omega
theorem Eq_getN {d : Nat} {M : am_M} {pc : Nat} {l : List (Option Value)} {st : List Value} {h : am_H} {Ps : Option Value → am_H → Prop} {idx k0 j r n : Nat} (hd : decode M.2.1 pc = .ok (.getfield idx, 3)) (hf : am_fl M.1.cls idx k0 j) (hs : am_s h r = some (k0, n)) (ht : am_fa h k0 r j = am_rv (am_p h r j)) (hv : am_p h r j = none) (k : am_E d M (pc + 3) l (.null :: st) h Ps) : am_E d M pc l (.ref r :: st) h Ps := Eam_x_get hd hf hs ht (by rw [hv]; exact k)
theorem mem_self {l : List Nat} : ∀ x ∈ l, x < 80 ∨ x ∈ l := fun x hx => Or.inr hx
set_option maxHeartbeats 2000000 in
theorem c_areEnemies {h : am_H} {n : Nat} {g : Bool} {F : Nat → Nat → Nat} (hW : Wd h) (hM : MB h n g F) {a b : Nat} (ha : a < n) (hb : b < n) : am_C 1 m_X5_areEnemies [.ref 9, .int (nI a), .int (nI b)] h (some (.int (nI (if enm F a b = true then 1 else 0))), h) := by
  have h7 := hM.2.2.1
  have f1 := (hM.2.2.2.1 4 a (by omega) ha).2
  have f2 := (hM.2.2.2.1 4 b (by omega) hb).2
  by_cases e1 : F 4 a = b
  · rw [if_pos (by simp [enm, e1])]
    refine q_aln dX5_areEnemies_0 rfl ?_
    refine q_ic (v := nI 4) dX5_areEnemies_1 rfl ?_
    refine q_iln dX5_areEnemies_2 rfl ?_
    refine q_V2 (N := m_X5_fact) dX5_areEnemies_3 lk_X5_39 mV_X5_fact (c_fact hW hM (by omega) (by omega)) (by decide) (ws_9 hW) rfl (by decide) (Nat.le_of_ble_eq_true rfl) (Nat.le_of_ble_eq_true rfl) ?_
    refine q_iln dX5_areEnemies_6 rfl ?_
    refine t_ic_eq 20 dX5_areEnemies_7 rfl (by rw [e1]) ?_
    refine q_ic (v := nI 1) dX5_areEnemies_20 rfl ?_
    refine am_x_goto (tgt := 25) dX5_areEnemies_21 rfl ?_
    first | refine q_zrn dX5_areEnemies_25 rfl (by first | omega | exact b2_le) ?_ | refine q_zr dX5_areEnemies_25 rfl (by first | exact Or.inl rfl | exact Or.inr rfl | assumption) ?_
    rfl
  · by_cases e2 : F 4 b = a
    · rw [if_pos (by simp [enm, e2])]
      refine q_aln dX5_areEnemies_0 rfl ?_
      refine q_ic (v := nI 4) dX5_areEnemies_1 rfl ?_
      refine q_iln dX5_areEnemies_2 rfl ?_
      refine q_V2 (N := m_X5_fact) dX5_areEnemies_3 lk_X5_39 mV_X5_fact (c_fact hW hM (by omega) (by omega)) (by decide) (ws_9 hW) rfl (by decide) (Nat.le_of_ble_eq_true rfl) (Nat.le_of_ble_eq_true rfl) ?_
      refine q_iln dX5_areEnemies_6 rfl ?_
      refine f_ic_eq dX5_areEnemies_7 (tgt := 20) rfl (by exact fun z => e1 ((nI_eq (by omega) (by omega)).mp z)) ?_
      refine q_aln dX5_areEnemies_10 rfl ?_
      refine q_ic (v := nI 4) dX5_areEnemies_11 rfl ?_
      refine q_iln dX5_areEnemies_12 rfl ?_
      refine q_V2 (N := m_X5_fact) dX5_areEnemies_13 lk_X5_39 mV_X5_fact (c_fact hW hM (by omega) (by omega)) (by decide) (ws_9 hW) rfl (by decide) (Nat.le_of_ble_eq_true rfl) (Nat.le_of_ble_eq_true rfl) ?_
      refine q_iln dX5_areEnemies_16 rfl ?_
      refine f_ic_ne dX5_areEnemies_17 (tgt := 24) rfl (by rw [e2]) ?_
      refine q_ic (v := nI 1) dX5_areEnemies_20 rfl ?_
      refine am_x_goto (tgt := 25) dX5_areEnemies_21 rfl ?_
      first | refine q_zrn dX5_areEnemies_25 rfl (by first | omega | exact b2_le) ?_ | refine q_zr dX5_areEnemies_25 rfl (by first | exact Or.inl rfl | exact Or.inr rfl | assumption) ?_
      rfl
    · rw [if_neg (by simp [enm, e1, e2])]
      refine q_aln dX5_areEnemies_0 rfl ?_
      refine q_ic (v := nI 4) dX5_areEnemies_1 rfl ?_
      refine q_iln dX5_areEnemies_2 rfl ?_
      refine q_V2 (N := m_X5_fact) dX5_areEnemies_3 lk_X5_39 mV_X5_fact (c_fact hW hM (by omega) (by omega)) (by decide) (ws_9 hW) rfl (by decide) (Nat.le_of_ble_eq_true rfl) (Nat.le_of_ble_eq_true rfl) ?_
      refine q_iln dX5_areEnemies_6 rfl ?_
      refine f_ic_eq dX5_areEnemies_7 (tgt := 20) rfl (by exact fun z => e1 ((nI_eq (by omega) (by omega)).mp z)) ?_
      refine q_aln dX5_areEnemies_10 rfl ?_
      refine q_ic (v := nI 4) dX5_areEnemies_11 rfl ?_
      refine q_iln dX5_areEnemies_12 rfl ?_
      refine q_V2 (N := m_X5_fact) dX5_areEnemies_13 lk_X5_39 mV_X5_fact (c_fact hW hM (by omega) (by omega)) (by decide) (ws_9 hW) rfl (by decide) (Nat.le_of_ble_eq_true rfl) (Nat.le_of_ble_eq_true rfl) ?_
      refine q_iln dX5_areEnemies_16 rfl ?_
      refine t_ic_ne 24 dX5_areEnemies_17 rfl (by exact fun z => e2 ((nI_eq (by omega) (by omega)).mp z)) ?_
      refine q_ic (v := nI 0) dX5_areEnemies_24 rfl ?_
      first | refine q_zrn dX5_areEnemies_25 rfl (by first | omega | exact b2_le) ?_ | refine q_zr dX5_areEnemies_25 rfl (by first | exact Or.inl rfl | exact Or.inr rfl | assumption) ?_
      rfl
set_option maxHeartbeats 2000000 in
theorem c_pworth {h : am_H} {n : Nat} {g : Bool} {F : Nat → Nat → Nat} (hW : Wd h) (hM : MB h n g F) {q : Option (Nat × Nat × Nat × List (Tks × Tks))} (hq : CHd h q) {a b s : Nat} (ha : a < n) (hb : b < n) : am_D 3 m_X0_worthOf [.ref 20, .int (nI a), .int (nI b), .int (nI s)] h (fun w h2 => w = some (.int (pwt (hmo q) F a b s)) ∧ Fx (FL q) [] h h2) := by
  have h7 := hM.2.2.1
  have f3 := (hM.2.2.2.1 3 a (by omega) ha).2
  cases q with
  | none =>
    have hp : am_p h 20 1 = none := hq
    by_cases he : enm F a b = true
    · have hr : pwt (hmo none) F a b s = nI 1 := by simp only [hmo, Option.map, pwt]; rw [if_pos he]
      rw [hr]
      refine Eq_aln dX0_worthOf_0 rfl ?_
      refine Eq_getR dX0_worthOf_1 fl_X0_9 (ws_20 hW) rfl (wp_20_0 hW) ?_
      refine Eq_iln dX0_worthOf_4 rfl ?_
      refine Eq_iln dX0_worthOf_5 rfl ?_
      refine Eq_V2 (N := m_X5_areEnemies) dX0_worthOf_6 lk_X0_77 mV_X5_areEnemies (c_areEnemies hW hM ha hb) (by decide) (ws_9 hW) rfl (by decide) (Nat.le_of_ble_eq_true rfl) (Nat.le_of_ble_eq_true rfl) ?_
      refine Ef_if_eq dX0_worthOf_9 (tgt := 16) rfl (by rw [if_pos he]; exact zf1) ?_
      refine Eq_ic (v := nI 1) dX0_worthOf_12 rfl ?_
      refine Eam_x_goto (tgt := 17) dX0_worthOf_13 rfl ?_
      refine Eq_is dX0_worthOf_17 (by decide) ?_
      refine Eam_nl (pc' := 19) (l' := [_, _, _, _, _]) rfl rfl ?_
      refine Eq_aln dX0_worthOf_19 rfl ?_
      refine Eq_getN dX0_worthOf_20 fl_X0_15 (ws_20 hW) rfl hp ?_
      refine Eam_x_nnN dX0_worthOf_23 ?_
      refine Eq_il dX0_worthOf_26 rfl ?_
      refine Eq_ir dX0_worthOf_28 rfl ?_
      exact ⟨rfl, Fx.rf⟩
    · have hr : pwt (hmo none) F a b s = nI 0 := by simp only [hmo, Option.map, pwt]; rw [if_neg he]
      rw [hr]
      refine Eq_aln dX0_worthOf_0 rfl ?_
      refine Eq_getR dX0_worthOf_1 fl_X0_9 (ws_20 hW) rfl (wp_20_0 hW) ?_
      refine Eq_iln dX0_worthOf_4 rfl ?_
      refine Eq_iln dX0_worthOf_5 rfl ?_
      refine Eq_V2 (N := m_X5_areEnemies) dX0_worthOf_6 lk_X0_77 mV_X5_areEnemies (c_areEnemies hW hM ha hb) (by decide) (ws_9 hW) rfl (by decide) (Nat.le_of_ble_eq_true rfl) (Nat.le_of_ble_eq_true rfl) ?_
      refine Et_if_eq 16 dX0_worthOf_9 rfl (by rw [if_neg he]; rfl) ?_
      refine Eq_ic (v := nI 0) dX0_worthOf_16 rfl ?_
      refine Eq_is dX0_worthOf_17 (by decide) ?_
      refine Eam_nl (pc' := 19) (l' := [_, _, _, _, _]) rfl rfl ?_
      refine Eq_aln dX0_worthOf_19 rfl ?_
      refine Eq_getN dX0_worthOf_20 fl_X0_15 (ws_20 hW) rfl hp ?_
      refine Eam_x_nnN dX0_worthOf_23 ?_
      refine Eq_il dX0_worthOf_26 rfl ?_
      refine Eq_ir dX0_worthOf_28 rfl ?_
      exact ⟨rfl, Fx.rf⟩
  | some z =>
    obtain ⟨hp, hN, hT⟩ := hq
    by_cases he : enm F a b = true
    · by_cases hd : F 3 a = 2
      · have hsl : slp F a = 0 := if_pos hd
        have k1 : Fx [21] [] h (am_wI (h) 21 0 (nI (F 0 a))) := Fx.wI (Or.inl (by decide))
        have W1 := k1.Wd hW
        have m1 := hM.fx k1 (by decide)
        have k2 : Fx [21] [] h (am_wI (am_wI (h) 21 0 (nI (F 0 a))) 21 1 (nI (F 0 b))) := k1.tr (Fx.wI (Or.inl (by decide)))
        have W2 := k2.Wd hW
        have m2 := hM.fx k2 (by decide)
        have k3 : Fx [21] [] h (am_wI (am_wI (am_wI (h) 21 0 (nI (F 0 a))) 21 1 (nI (F 0 b))) 21 2 (nI (F 1 a))) := k2.tr (Fx.wI (Or.inl (by decide)))
        have W3 := k3.Wd hW
        have m3 := hM.fx k3 (by decide)
        have k4 : Fx [21] [] h (am_wI (am_wI (am_wI (am_wI (h) 21 0 (nI (F 0 a))) 21 1 (nI (F 0 b))) 21 2 (nI (F 1 a))) 21 3 (nI 0)) := k3.tr (Fx.wI (Or.inl (by decide)))
        have W4 := k4.Wd hW
        have m4 := hM.fx k4 (by decide)
        have k5 : Fx [21] [] h (am_wI (am_wI (am_wI (am_wI (am_wI (h) 21 0 (nI (F 0 a))) 21 1 (nI (F 0 b))) 21 2 (nI (F 1 a))) 21 3 (nI 0)) 21 4 (nI 1)) := k4.tr (Fx.wI (Or.inl (by decide)))
        have W5 := k5.Wd hW
        have m5 := hM.fx k5 (by decide)
        have k6 : Fx [21] [] h (am_wI (am_wI (am_wI (am_wI (am_wI (am_wI (h) 21 0 (nI (F 0 a))) 21 1 (nI (F 0 b))) 21 2 (nI (F 1 a))) 21 3 (nI 0)) 21 4 (nI 1)) 21 5 (nI s)) := k5.tr (Fx.wI (Or.inl (by decide)))
        have W6 := k6.Wd hW
        have m6 := hM.fx k6 (by decide)
        have hws : ∀ j, j < 6 → am_i (am_wI (am_wI (am_wI (am_wI (am_wI (am_wI (h) 21 0 (nI (F 0 a))) 21 1 (nI (F 0 b))) 21 2 (nI (F 1 a))) 21 3 (nI 0)) 21 4 (nI 1)) 21 5 (nI s)) 21 j = wsv F a b s j := fun j hj => by
          rcases (show j = 0 ∨ j = 1 ∨ j = 2 ∨ j = 3 ∨ j = 4 ∨ j = 5 by omega) with rfl | rfl | rfl | rfl | rfl | rfl
          · rfl
          · rfl
          · rfl
          · show nI 0 = nI (slp F a); rw [hsl]
          · show nI 1 = nI (if enm F a b = true then 1 else 0); rw [if_pos he]
          · rfl
        have hN6 := hN.fx k6 (by have := hN.2.2.2.2.2.2.2.2.2.2.2.1; simp; omega) (by simp)
        refine Eq_aln dX0_worthOf_0 rfl ?_
        refine Eq_getR dX0_worthOf_1 fl_X0_9 (ws_20 hW) rfl (wp_20_0 hW) ?_
        refine Eq_iln dX0_worthOf_4 rfl ?_
        refine Eq_iln dX0_worthOf_5 rfl ?_
        refine Eq_V2 (N := m_X5_areEnemies) dX0_worthOf_6 lk_X0_77 mV_X5_areEnemies (c_areEnemies hW hM ha hb) (by decide) (ws_9 hW) rfl (by decide) (Nat.le_of_ble_eq_true rfl) (Nat.le_of_ble_eq_true rfl) ?_
        refine Ef_if_eq dX0_worthOf_9 (tgt := 16) rfl (by rw [if_pos he]; exact zf1) ?_
        refine Eq_ic (v := nI 1) dX0_worthOf_12 rfl ?_
        refine Eam_x_goto (tgt := 17) dX0_worthOf_13 rfl ?_
        refine Eq_is dX0_worthOf_17 (by decide) ?_
        refine Eam_nl (pc' := 19) (l' := [_, _, _, _, _]) rfl rfl ?_
        refine Eq_aln dX0_worthOf_19 rfl ?_
        refine Eq_getR dX0_worthOf_20 fl_X0_15 (ws_20 hW) rfl (by assumption) ?_
        refine Eam_x_nnR (tgt := 29) dX0_worthOf_23 rfl ?_
        refine Eq_aln dX0_worthOf_29 rfl ?_
        refine Eq_getR dX0_worthOf_30 fl_X0_25 (ws_20 hW) rfl (wp_20_2 hW) ?_
        refine Eq_ic (v := nI 0) dX0_worthOf_33 rfl ?_
        refine Eq_aln dX0_worthOf_34 rfl ?_
        refine Eq_getR dX0_worthOf_35 fl_X0_9 (ws_20 hW) rfl (wp_20_0 hW) ?_
        refine Eq_ic (v := nI 0) dX0_worthOf_38 rfl ?_
        refine Eq_iln dX0_worthOf_39 rfl ?_
        refine Eq_V2 (N := m_X5_fact) dX0_worthOf_40 lk_X0_81 mV_X5_fact (c_fact hW hM (by omega) (by omega)) (by decide) (ws_9 hW) rfl (by decide) (Nat.le_of_ble_eq_true rfl) (Nat.le_of_ble_eq_true rfl) ?_
        refine Eq_ast dX0_worthOf_43 (ws_21 hW) (by omega) (by omega) ?_
        refine Eq_aln dX0_worthOf_44 rfl ?_
        refine Eq_getR dX0_worthOf_45 fl_X0_25 (ws_20 hW) rfl (wp_20_2 hW) ?_
        refine Eq_ic (v := nI 1) dX0_worthOf_48 rfl ?_
        refine Eq_aln dX0_worthOf_49 rfl ?_
        refine Eq_getR dX0_worthOf_50 fl_X0_9 (ws_20 hW) rfl (wp_20_0 hW) ?_
        refine Eq_ic (v := nI 0) dX0_worthOf_53 rfl ?_
        refine Eq_iln dX0_worthOf_54 rfl ?_
        refine Eq_V2 (N := m_X5_fact) dX0_worthOf_55 lk_X0_81 mV_X5_fact (c_fact W1 m1 (by omega) (by omega)) (by decide) (ws_9 hW) rfl (by decide) (Nat.le_of_ble_eq_true rfl) (Nat.le_of_ble_eq_true rfl) ?_
        refine Eq_ast dX0_worthOf_58 (ws_21 hW) (by omega) (by omega) ?_
        refine Eq_aln dX0_worthOf_59 rfl ?_
        refine Eq_getR dX0_worthOf_60 fl_X0_25 (ws_20 hW) rfl (wp_20_2 hW) ?_
        refine Eq_ic (v := nI 2) dX0_worthOf_63 rfl ?_
        refine Eq_aln dX0_worthOf_64 rfl ?_
        refine Eq_getR dX0_worthOf_65 fl_X0_9 (ws_20 hW) rfl (wp_20_0 hW) ?_
        refine Eq_ic (v := nI 1) dX0_worthOf_68 rfl ?_
        refine Eq_iln dX0_worthOf_69 rfl ?_
        refine Eq_V2 (N := m_X5_fact) dX0_worthOf_70 lk_X0_81 mV_X5_fact (c_fact W2 m2 (by omega) (by omega)) (by decide) (ws_9 hW) rfl (by decide) (Nat.le_of_ble_eq_true rfl) (Nat.le_of_ble_eq_true rfl) ?_
        refine Eq_ast dX0_worthOf_73 (ws_21 hW) (by omega) (by omega) ?_
        refine Eq_aln dX0_worthOf_74 rfl ?_
        refine Eq_getR dX0_worthOf_75 fl_X0_25 (ws_20 hW) rfl (wp_20_2 hW) ?_
        refine Eq_ic (v := nI 3) dX0_worthOf_78 rfl ?_
        refine Eq_aln dX0_worthOf_79 rfl ?_
        refine Eq_getR dX0_worthOf_80 fl_X0_9 (ws_20 hW) rfl (wp_20_0 hW) ?_
        refine Eq_ic (v := nI 3) dX0_worthOf_83 rfl ?_
        refine Eq_iln dX0_worthOf_84 rfl ?_
        refine Eq_V2 (N := m_X5_fact) dX0_worthOf_85 lk_X0_81 mV_X5_fact (c_fact W3 m3 (by omega) (by omega)) (by decide) (ws_9 hW) rfl (by decide) (Nat.le_of_ble_eq_true rfl) (Nat.le_of_ble_eq_true rfl) ?_
        refine Eq_ic (v := nI 2) dX0_worthOf_88 rfl ?_
        refine Ef_ic_ne dX0_worthOf_89 (tgt := 96) rfl (by rw [hd]) ?_
        refine Eq_ic (v := nI 0) dX0_worthOf_92 rfl ?_
        refine Eam_x_goto (tgt := 105) dX0_worthOf_93 rfl ?_
        refine Eq_ast dX0_worthOf_105 (ws_21 hW) (by omega) (by omega) ?_
        refine Eq_aln dX0_worthOf_106 rfl ?_
        refine Eq_getR dX0_worthOf_107 fl_X0_25 (ws_20 hW) rfl (wp_20_2 hW) ?_
        refine Eq_ic (v := nI 4) dX0_worthOf_110 rfl ?_
        refine Eq_il dX0_worthOf_111 rfl ?_
        refine Eq_ast dX0_worthOf_113 (ws_21 hW) (by omega) (by omega) ?_
        refine Eq_aln dX0_worthOf_114 rfl ?_
        refine Eq_getR dX0_worthOf_115 fl_X0_25 (ws_20 hW) rfl (wp_20_2 hW) ?_
        refine Eq_ic (v := nI 5) dX0_worthOf_118 rfl ?_
        refine Eq_iln dX0_worthOf_119 rfl ?_
        refine Eq_ast dX0_worthOf_120 (ws_21 hW) (by omega) (by omega) ?_
        refine Eq_aln dX0_worthOf_121 rfl ?_
        refine Eq_getR dX0_worthOf_122 fl_X0_15 (ws_20 hW) rfl (by assumption) ?_
        refine Eq_aln dX0_worthOf_125 rfl ?_
        refine Eq_getR dX0_worthOf_126 fl_X0_25 (ws_20 hW) rfl (wp_20_2 hW) ?_
        refine Eq_W1 (N := m_X3_worthBy) dX0_worthOf_129 lk_X0_85 mV_X3_worthBy (c_worthBy W6 hN6 hT) (by decide) hN.1 rfl (by decide) (Nat.le_of_ble_eq_true rfl) (Nat.le_of_ble_eq_true rfl) (fun vq hq1 hq2 => ?_)
        obtain ⟨rfl, hf2⟩ := hq2
        refine Eq_ir dX0_worthOf_132 rfl ?_
        exact ⟨by rw [wth_cong hws hT]; rfl, (k6.mono (by simp [FL]) (by simp)).tr (hf2.mono (by simp [FL]) (by simp))⟩
      · have hsl : slp F a = F 2 a := if_neg hd
        have k1 : Fx [21] [] h (am_wI (h) 21 0 (nI (F 0 a))) := Fx.wI (Or.inl (by decide))
        have W1 := k1.Wd hW
        have m1 := hM.fx k1 (by decide)
        have k2 : Fx [21] [] h (am_wI (am_wI (h) 21 0 (nI (F 0 a))) 21 1 (nI (F 0 b))) := k1.tr (Fx.wI (Or.inl (by decide)))
        have W2 := k2.Wd hW
        have m2 := hM.fx k2 (by decide)
        have k3 : Fx [21] [] h (am_wI (am_wI (am_wI (h) 21 0 (nI (F 0 a))) 21 1 (nI (F 0 b))) 21 2 (nI (F 1 a))) := k2.tr (Fx.wI (Or.inl (by decide)))
        have W3 := k3.Wd hW
        have m3 := hM.fx k3 (by decide)
        have k4 : Fx [21] [] h (am_wI (am_wI (am_wI (am_wI (h) 21 0 (nI (F 0 a))) 21 1 (nI (F 0 b))) 21 2 (nI (F 1 a))) 21 3 (nI (F 2 a))) := k3.tr (Fx.wI (Or.inl (by decide)))
        have W4 := k4.Wd hW
        have m4 := hM.fx k4 (by decide)
        have k5 : Fx [21] [] h (am_wI (am_wI (am_wI (am_wI (am_wI (h) 21 0 (nI (F 0 a))) 21 1 (nI (F 0 b))) 21 2 (nI (F 1 a))) 21 3 (nI (F 2 a))) 21 4 (nI 1)) := k4.tr (Fx.wI (Or.inl (by decide)))
        have W5 := k5.Wd hW
        have m5 := hM.fx k5 (by decide)
        have k6 : Fx [21] [] h (am_wI (am_wI (am_wI (am_wI (am_wI (am_wI (h) 21 0 (nI (F 0 a))) 21 1 (nI (F 0 b))) 21 2 (nI (F 1 a))) 21 3 (nI (F 2 a))) 21 4 (nI 1)) 21 5 (nI s)) := k5.tr (Fx.wI (Or.inl (by decide)))
        have W6 := k6.Wd hW
        have m6 := hM.fx k6 (by decide)
        have hws : ∀ j, j < 6 → am_i (am_wI (am_wI (am_wI (am_wI (am_wI (am_wI (h) 21 0 (nI (F 0 a))) 21 1 (nI (F 0 b))) 21 2 (nI (F 1 a))) 21 3 (nI (F 2 a))) 21 4 (nI 1)) 21 5 (nI s)) 21 j = wsv F a b s j := fun j hj => by
          rcases (show j = 0 ∨ j = 1 ∨ j = 2 ∨ j = 3 ∨ j = 4 ∨ j = 5 by omega) with rfl | rfl | rfl | rfl | rfl | rfl
          · rfl
          · rfl
          · rfl
          · show nI (F 2 a) = nI (slp F a); rw [hsl]
          · show nI 1 = nI (if enm F a b = true then 1 else 0); rw [if_pos he]
          · rfl
        have hN6 := hN.fx k6 (by have := hN.2.2.2.2.2.2.2.2.2.2.2.1; simp; omega) (by simp)
        refine Eq_aln dX0_worthOf_0 rfl ?_
        refine Eq_getR dX0_worthOf_1 fl_X0_9 (ws_20 hW) rfl (wp_20_0 hW) ?_
        refine Eq_iln dX0_worthOf_4 rfl ?_
        refine Eq_iln dX0_worthOf_5 rfl ?_
        refine Eq_V2 (N := m_X5_areEnemies) dX0_worthOf_6 lk_X0_77 mV_X5_areEnemies (c_areEnemies hW hM ha hb) (by decide) (ws_9 hW) rfl (by decide) (Nat.le_of_ble_eq_true rfl) (Nat.le_of_ble_eq_true rfl) ?_
        refine Ef_if_eq dX0_worthOf_9 (tgt := 16) rfl (by rw [if_pos he]; exact zf1) ?_
        refine Eq_ic (v := nI 1) dX0_worthOf_12 rfl ?_
        refine Eam_x_goto (tgt := 17) dX0_worthOf_13 rfl ?_
        refine Eq_is dX0_worthOf_17 (by decide) ?_
        refine Eam_nl (pc' := 19) (l' := [_, _, _, _, _]) rfl rfl ?_
        refine Eq_aln dX0_worthOf_19 rfl ?_
        refine Eq_getR dX0_worthOf_20 fl_X0_15 (ws_20 hW) rfl (by assumption) ?_
        refine Eam_x_nnR (tgt := 29) dX0_worthOf_23 rfl ?_
        refine Eq_aln dX0_worthOf_29 rfl ?_
        refine Eq_getR dX0_worthOf_30 fl_X0_25 (ws_20 hW) rfl (wp_20_2 hW) ?_
        refine Eq_ic (v := nI 0) dX0_worthOf_33 rfl ?_
        refine Eq_aln dX0_worthOf_34 rfl ?_
        refine Eq_getR dX0_worthOf_35 fl_X0_9 (ws_20 hW) rfl (wp_20_0 hW) ?_
        refine Eq_ic (v := nI 0) dX0_worthOf_38 rfl ?_
        refine Eq_iln dX0_worthOf_39 rfl ?_
        refine Eq_V2 (N := m_X5_fact) dX0_worthOf_40 lk_X0_81 mV_X5_fact (c_fact hW hM (by omega) (by omega)) (by decide) (ws_9 hW) rfl (by decide) (Nat.le_of_ble_eq_true rfl) (Nat.le_of_ble_eq_true rfl) ?_
        refine Eq_ast dX0_worthOf_43 (ws_21 hW) (by omega) (by omega) ?_
        refine Eq_aln dX0_worthOf_44 rfl ?_
        refine Eq_getR dX0_worthOf_45 fl_X0_25 (ws_20 hW) rfl (wp_20_2 hW) ?_
        refine Eq_ic (v := nI 1) dX0_worthOf_48 rfl ?_
        refine Eq_aln dX0_worthOf_49 rfl ?_
        refine Eq_getR dX0_worthOf_50 fl_X0_9 (ws_20 hW) rfl (wp_20_0 hW) ?_
        refine Eq_ic (v := nI 0) dX0_worthOf_53 rfl ?_
        refine Eq_iln dX0_worthOf_54 rfl ?_
        refine Eq_V2 (N := m_X5_fact) dX0_worthOf_55 lk_X0_81 mV_X5_fact (c_fact W1 m1 (by omega) (by omega)) (by decide) (ws_9 hW) rfl (by decide) (Nat.le_of_ble_eq_true rfl) (Nat.le_of_ble_eq_true rfl) ?_
        refine Eq_ast dX0_worthOf_58 (ws_21 hW) (by omega) (by omega) ?_
        refine Eq_aln dX0_worthOf_59 rfl ?_
        refine Eq_getR dX0_worthOf_60 fl_X0_25 (ws_20 hW) rfl (wp_20_2 hW) ?_
        refine Eq_ic (v := nI 2) dX0_worthOf_63 rfl ?_
        refine Eq_aln dX0_worthOf_64 rfl ?_
        refine Eq_getR dX0_worthOf_65 fl_X0_9 (ws_20 hW) rfl (wp_20_0 hW) ?_
        refine Eq_ic (v := nI 1) dX0_worthOf_68 rfl ?_
        refine Eq_iln dX0_worthOf_69 rfl ?_
        refine Eq_V2 (N := m_X5_fact) dX0_worthOf_70 lk_X0_81 mV_X5_fact (c_fact W2 m2 (by omega) (by omega)) (by decide) (ws_9 hW) rfl (by decide) (Nat.le_of_ble_eq_true rfl) (Nat.le_of_ble_eq_true rfl) ?_
        refine Eq_ast dX0_worthOf_73 (ws_21 hW) (by omega) (by omega) ?_
        refine Eq_aln dX0_worthOf_74 rfl ?_
        refine Eq_getR dX0_worthOf_75 fl_X0_25 (ws_20 hW) rfl (wp_20_2 hW) ?_
        refine Eq_ic (v := nI 3) dX0_worthOf_78 rfl ?_
        refine Eq_aln dX0_worthOf_79 rfl ?_
        refine Eq_getR dX0_worthOf_80 fl_X0_9 (ws_20 hW) rfl (wp_20_0 hW) ?_
        refine Eq_ic (v := nI 3) dX0_worthOf_83 rfl ?_
        refine Eq_iln dX0_worthOf_84 rfl ?_
        refine Eq_V2 (N := m_X5_fact) dX0_worthOf_85 lk_X0_81 mV_X5_fact (c_fact W3 m3 (by omega) (by omega)) (by decide) (ws_9 hW) rfl (by decide) (Nat.le_of_ble_eq_true rfl) (Nat.le_of_ble_eq_true rfl) ?_
        refine Eq_ic (v := nI 2) dX0_worthOf_88 rfl ?_
        refine Et_ic_ne 96 dX0_worthOf_89 rfl (by exact fun z => hd ((nI_eq (by omega) (by omega)).mp z)) ?_
        refine Eq_aln dX0_worthOf_96 rfl ?_
        refine Eq_getR dX0_worthOf_97 fl_X0_9 (ws_20 hW) rfl (wp_20_0 hW) ?_
        refine Eq_ic (v := nI 2) dX0_worthOf_100 rfl ?_
        refine Eq_iln dX0_worthOf_101 rfl ?_
        refine Eq_V2 (N := m_X5_fact) dX0_worthOf_102 lk_X0_81 mV_X5_fact (c_fact W3 m3 (by omega) (by omega)) (by decide) (ws_9 hW) rfl (by decide) (Nat.le_of_ble_eq_true rfl) (Nat.le_of_ble_eq_true rfl) ?_
        refine Eq_ast dX0_worthOf_105 (ws_21 hW) (by omega) (by omega) ?_
        refine Eq_aln dX0_worthOf_106 rfl ?_
        refine Eq_getR dX0_worthOf_107 fl_X0_25 (ws_20 hW) rfl (wp_20_2 hW) ?_
        refine Eq_ic (v := nI 4) dX0_worthOf_110 rfl ?_
        refine Eq_il dX0_worthOf_111 rfl ?_
        refine Eq_ast dX0_worthOf_113 (ws_21 hW) (by omega) (by omega) ?_
        refine Eq_aln dX0_worthOf_114 rfl ?_
        refine Eq_getR dX0_worthOf_115 fl_X0_25 (ws_20 hW) rfl (wp_20_2 hW) ?_
        refine Eq_ic (v := nI 5) dX0_worthOf_118 rfl ?_
        refine Eq_iln dX0_worthOf_119 rfl ?_
        refine Eq_ast dX0_worthOf_120 (ws_21 hW) (by omega) (by omega) ?_
        refine Eq_aln dX0_worthOf_121 rfl ?_
        refine Eq_getR dX0_worthOf_122 fl_X0_15 (ws_20 hW) rfl (by assumption) ?_
        refine Eq_aln dX0_worthOf_125 rfl ?_
        refine Eq_getR dX0_worthOf_126 fl_X0_25 (ws_20 hW) rfl (wp_20_2 hW) ?_
        refine Eq_W1 (N := m_X3_worthBy) dX0_worthOf_129 lk_X0_85 mV_X3_worthBy (c_worthBy W6 hN6 hT) (by decide) hN.1 rfl (by decide) (Nat.le_of_ble_eq_true rfl) (Nat.le_of_ble_eq_true rfl) (fun vq hq1 hq2 => ?_)
        obtain ⟨rfl, hf2⟩ := hq2
        refine Eq_ir dX0_worthOf_132 rfl ?_
        exact ⟨by rw [wth_cong hws hT]; rfl, (k6.mono (by simp [FL]) (by simp)).tr (hf2.mono (by simp [FL]) (by simp))⟩
    · by_cases hd : F 3 a = 2
      · have hsl : slp F a = 0 := if_pos hd
        have k1 : Fx [21] [] h (am_wI (h) 21 0 (nI (F 0 a))) := Fx.wI (Or.inl (by decide))
        have W1 := k1.Wd hW
        have m1 := hM.fx k1 (by decide)
        have k2 : Fx [21] [] h (am_wI (am_wI (h) 21 0 (nI (F 0 a))) 21 1 (nI (F 0 b))) := k1.tr (Fx.wI (Or.inl (by decide)))
        have W2 := k2.Wd hW
        have m2 := hM.fx k2 (by decide)
        have k3 : Fx [21] [] h (am_wI (am_wI (am_wI (h) 21 0 (nI (F 0 a))) 21 1 (nI (F 0 b))) 21 2 (nI (F 1 a))) := k2.tr (Fx.wI (Or.inl (by decide)))
        have W3 := k3.Wd hW
        have m3 := hM.fx k3 (by decide)
        have k4 : Fx [21] [] h (am_wI (am_wI (am_wI (am_wI (h) 21 0 (nI (F 0 a))) 21 1 (nI (F 0 b))) 21 2 (nI (F 1 a))) 21 3 (nI 0)) := k3.tr (Fx.wI (Or.inl (by decide)))
        have W4 := k4.Wd hW
        have m4 := hM.fx k4 (by decide)
        have k5 : Fx [21] [] h (am_wI (am_wI (am_wI (am_wI (am_wI (h) 21 0 (nI (F 0 a))) 21 1 (nI (F 0 b))) 21 2 (nI (F 1 a))) 21 3 (nI 0)) 21 4 (nI 0)) := k4.tr (Fx.wI (Or.inl (by decide)))
        have W5 := k5.Wd hW
        have m5 := hM.fx k5 (by decide)
        have k6 : Fx [21] [] h (am_wI (am_wI (am_wI (am_wI (am_wI (am_wI (h) 21 0 (nI (F 0 a))) 21 1 (nI (F 0 b))) 21 2 (nI (F 1 a))) 21 3 (nI 0)) 21 4 (nI 0)) 21 5 (nI s)) := k5.tr (Fx.wI (Or.inl (by decide)))
        have W6 := k6.Wd hW
        have m6 := hM.fx k6 (by decide)
        have hws : ∀ j, j < 6 → am_i (am_wI (am_wI (am_wI (am_wI (am_wI (am_wI (h) 21 0 (nI (F 0 a))) 21 1 (nI (F 0 b))) 21 2 (nI (F 1 a))) 21 3 (nI 0)) 21 4 (nI 0)) 21 5 (nI s)) 21 j = wsv F a b s j := fun j hj => by
          rcases (show j = 0 ∨ j = 1 ∨ j = 2 ∨ j = 3 ∨ j = 4 ∨ j = 5 by omega) with rfl | rfl | rfl | rfl | rfl | rfl
          · rfl
          · rfl
          · rfl
          · show nI 0 = nI (slp F a); rw [hsl]
          · show nI 0 = nI (if enm F a b = true then 1 else 0); rw [if_neg he]
          · rfl
        have hN6 := hN.fx k6 (by have := hN.2.2.2.2.2.2.2.2.2.2.2.1; simp; omega) (by simp)
        refine Eq_aln dX0_worthOf_0 rfl ?_
        refine Eq_getR dX0_worthOf_1 fl_X0_9 (ws_20 hW) rfl (wp_20_0 hW) ?_
        refine Eq_iln dX0_worthOf_4 rfl ?_
        refine Eq_iln dX0_worthOf_5 rfl ?_
        refine Eq_V2 (N := m_X5_areEnemies) dX0_worthOf_6 lk_X0_77 mV_X5_areEnemies (c_areEnemies hW hM ha hb) (by decide) (ws_9 hW) rfl (by decide) (Nat.le_of_ble_eq_true rfl) (Nat.le_of_ble_eq_true rfl) ?_
        refine Et_if_eq 16 dX0_worthOf_9 rfl (by rw [if_neg he]; rfl) ?_
        refine Eq_ic (v := nI 0) dX0_worthOf_16 rfl ?_
        refine Eq_is dX0_worthOf_17 (by decide) ?_
        refine Eam_nl (pc' := 19) (l' := [_, _, _, _, _]) rfl rfl ?_
        refine Eq_aln dX0_worthOf_19 rfl ?_
        refine Eq_getR dX0_worthOf_20 fl_X0_15 (ws_20 hW) rfl (by assumption) ?_
        refine Eam_x_nnR (tgt := 29) dX0_worthOf_23 rfl ?_
        refine Eq_aln dX0_worthOf_29 rfl ?_
        refine Eq_getR dX0_worthOf_30 fl_X0_25 (ws_20 hW) rfl (wp_20_2 hW) ?_
        refine Eq_ic (v := nI 0) dX0_worthOf_33 rfl ?_
        refine Eq_aln dX0_worthOf_34 rfl ?_
        refine Eq_getR dX0_worthOf_35 fl_X0_9 (ws_20 hW) rfl (wp_20_0 hW) ?_
        refine Eq_ic (v := nI 0) dX0_worthOf_38 rfl ?_
        refine Eq_iln dX0_worthOf_39 rfl ?_
        refine Eq_V2 (N := m_X5_fact) dX0_worthOf_40 lk_X0_81 mV_X5_fact (c_fact hW hM (by omega) (by omega)) (by decide) (ws_9 hW) rfl (by decide) (Nat.le_of_ble_eq_true rfl) (Nat.le_of_ble_eq_true rfl) ?_
        refine Eq_ast dX0_worthOf_43 (ws_21 hW) (by omega) (by omega) ?_
        refine Eq_aln dX0_worthOf_44 rfl ?_
        refine Eq_getR dX0_worthOf_45 fl_X0_25 (ws_20 hW) rfl (wp_20_2 hW) ?_
        refine Eq_ic (v := nI 1) dX0_worthOf_48 rfl ?_
        refine Eq_aln dX0_worthOf_49 rfl ?_
        refine Eq_getR dX0_worthOf_50 fl_X0_9 (ws_20 hW) rfl (wp_20_0 hW) ?_
        refine Eq_ic (v := nI 0) dX0_worthOf_53 rfl ?_
        refine Eq_iln dX0_worthOf_54 rfl ?_
        refine Eq_V2 (N := m_X5_fact) dX0_worthOf_55 lk_X0_81 mV_X5_fact (c_fact W1 m1 (by omega) (by omega)) (by decide) (ws_9 hW) rfl (by decide) (Nat.le_of_ble_eq_true rfl) (Nat.le_of_ble_eq_true rfl) ?_
        refine Eq_ast dX0_worthOf_58 (ws_21 hW) (by omega) (by omega) ?_
        refine Eq_aln dX0_worthOf_59 rfl ?_
        refine Eq_getR dX0_worthOf_60 fl_X0_25 (ws_20 hW) rfl (wp_20_2 hW) ?_
        refine Eq_ic (v := nI 2) dX0_worthOf_63 rfl ?_
        refine Eq_aln dX0_worthOf_64 rfl ?_
        refine Eq_getR dX0_worthOf_65 fl_X0_9 (ws_20 hW) rfl (wp_20_0 hW) ?_
        refine Eq_ic (v := nI 1) dX0_worthOf_68 rfl ?_
        refine Eq_iln dX0_worthOf_69 rfl ?_
        refine Eq_V2 (N := m_X5_fact) dX0_worthOf_70 lk_X0_81 mV_X5_fact (c_fact W2 m2 (by omega) (by omega)) (by decide) (ws_9 hW) rfl (by decide) (Nat.le_of_ble_eq_true rfl) (Nat.le_of_ble_eq_true rfl) ?_
        refine Eq_ast dX0_worthOf_73 (ws_21 hW) (by omega) (by omega) ?_
        refine Eq_aln dX0_worthOf_74 rfl ?_
        refine Eq_getR dX0_worthOf_75 fl_X0_25 (ws_20 hW) rfl (wp_20_2 hW) ?_
        refine Eq_ic (v := nI 3) dX0_worthOf_78 rfl ?_
        refine Eq_aln dX0_worthOf_79 rfl ?_
        refine Eq_getR dX0_worthOf_80 fl_X0_9 (ws_20 hW) rfl (wp_20_0 hW) ?_
        refine Eq_ic (v := nI 3) dX0_worthOf_83 rfl ?_
        refine Eq_iln dX0_worthOf_84 rfl ?_
        refine Eq_V2 (N := m_X5_fact) dX0_worthOf_85 lk_X0_81 mV_X5_fact (c_fact W3 m3 (by omega) (by omega)) (by decide) (ws_9 hW) rfl (by decide) (Nat.le_of_ble_eq_true rfl) (Nat.le_of_ble_eq_true rfl) ?_
        refine Eq_ic (v := nI 2) dX0_worthOf_88 rfl ?_
        refine Ef_ic_ne dX0_worthOf_89 (tgt := 96) rfl (by rw [hd]) ?_
        refine Eq_ic (v := nI 0) dX0_worthOf_92 rfl ?_
        refine Eam_x_goto (tgt := 105) dX0_worthOf_93 rfl ?_
        refine Eq_ast dX0_worthOf_105 (ws_21 hW) (by omega) (by omega) ?_
        refine Eq_aln dX0_worthOf_106 rfl ?_
        refine Eq_getR dX0_worthOf_107 fl_X0_25 (ws_20 hW) rfl (wp_20_2 hW) ?_
        refine Eq_ic (v := nI 4) dX0_worthOf_110 rfl ?_
        refine Eq_il dX0_worthOf_111 rfl ?_
        refine Eq_ast dX0_worthOf_113 (ws_21 hW) (by omega) (by omega) ?_
        refine Eq_aln dX0_worthOf_114 rfl ?_
        refine Eq_getR dX0_worthOf_115 fl_X0_25 (ws_20 hW) rfl (wp_20_2 hW) ?_
        refine Eq_ic (v := nI 5) dX0_worthOf_118 rfl ?_
        refine Eq_iln dX0_worthOf_119 rfl ?_
        refine Eq_ast dX0_worthOf_120 (ws_21 hW) (by omega) (by omega) ?_
        refine Eq_aln dX0_worthOf_121 rfl ?_
        refine Eq_getR dX0_worthOf_122 fl_X0_15 (ws_20 hW) rfl (by assumption) ?_
        refine Eq_aln dX0_worthOf_125 rfl ?_
        refine Eq_getR dX0_worthOf_126 fl_X0_25 (ws_20 hW) rfl (wp_20_2 hW) ?_
        refine Eq_W1 (N := m_X3_worthBy) dX0_worthOf_129 lk_X0_85 mV_X3_worthBy (c_worthBy W6 hN6 hT) (by decide) hN.1 rfl (by decide) (Nat.le_of_ble_eq_true rfl) (Nat.le_of_ble_eq_true rfl) (fun vq hq1 hq2 => ?_)
        obtain ⟨rfl, hf2⟩ := hq2
        refine Eq_ir dX0_worthOf_132 rfl ?_
        exact ⟨by rw [wth_cong hws hT]; rfl, (k6.mono (by simp [FL]) (by simp)).tr (hf2.mono (by simp [FL]) (by simp))⟩
      · have hsl : slp F a = F 2 a := if_neg hd
        have k1 : Fx [21] [] h (am_wI (h) 21 0 (nI (F 0 a))) := Fx.wI (Or.inl (by decide))
        have W1 := k1.Wd hW
        have m1 := hM.fx k1 (by decide)
        have k2 : Fx [21] [] h (am_wI (am_wI (h) 21 0 (nI (F 0 a))) 21 1 (nI (F 0 b))) := k1.tr (Fx.wI (Or.inl (by decide)))
        have W2 := k2.Wd hW
        have m2 := hM.fx k2 (by decide)
        have k3 : Fx [21] [] h (am_wI (am_wI (am_wI (h) 21 0 (nI (F 0 a))) 21 1 (nI (F 0 b))) 21 2 (nI (F 1 a))) := k2.tr (Fx.wI (Or.inl (by decide)))
        have W3 := k3.Wd hW
        have m3 := hM.fx k3 (by decide)
        have k4 : Fx [21] [] h (am_wI (am_wI (am_wI (am_wI (h) 21 0 (nI (F 0 a))) 21 1 (nI (F 0 b))) 21 2 (nI (F 1 a))) 21 3 (nI (F 2 a))) := k3.tr (Fx.wI (Or.inl (by decide)))
        have W4 := k4.Wd hW
        have m4 := hM.fx k4 (by decide)
        have k5 : Fx [21] [] h (am_wI (am_wI (am_wI (am_wI (am_wI (h) 21 0 (nI (F 0 a))) 21 1 (nI (F 0 b))) 21 2 (nI (F 1 a))) 21 3 (nI (F 2 a))) 21 4 (nI 0)) := k4.tr (Fx.wI (Or.inl (by decide)))
        have W5 := k5.Wd hW
        have m5 := hM.fx k5 (by decide)
        have k6 : Fx [21] [] h (am_wI (am_wI (am_wI (am_wI (am_wI (am_wI (h) 21 0 (nI (F 0 a))) 21 1 (nI (F 0 b))) 21 2 (nI (F 1 a))) 21 3 (nI (F 2 a))) 21 4 (nI 0)) 21 5 (nI s)) := k5.tr (Fx.wI (Or.inl (by decide)))
        have W6 := k6.Wd hW
        have m6 := hM.fx k6 (by decide)
        have hws : ∀ j, j < 6 → am_i (am_wI (am_wI (am_wI (am_wI (am_wI (am_wI (h) 21 0 (nI (F 0 a))) 21 1 (nI (F 0 b))) 21 2 (nI (F 1 a))) 21 3 (nI (F 2 a))) 21 4 (nI 0)) 21 5 (nI s)) 21 j = wsv F a b s j := fun j hj => by
          rcases (show j = 0 ∨ j = 1 ∨ j = 2 ∨ j = 3 ∨ j = 4 ∨ j = 5 by omega) with rfl | rfl | rfl | rfl | rfl | rfl
          · rfl
          · rfl
          · rfl
          · show nI (F 2 a) = nI (slp F a); rw [hsl]
          · show nI 0 = nI (if enm F a b = true then 1 else 0); rw [if_neg he]
          · rfl
        have hN6 := hN.fx k6 (by have := hN.2.2.2.2.2.2.2.2.2.2.2.1; simp; omega) (by simp)
        refine Eq_aln dX0_worthOf_0 rfl ?_
        refine Eq_getR dX0_worthOf_1 fl_X0_9 (ws_20 hW) rfl (wp_20_0 hW) ?_
        refine Eq_iln dX0_worthOf_4 rfl ?_
        refine Eq_iln dX0_worthOf_5 rfl ?_
        refine Eq_V2 (N := m_X5_areEnemies) dX0_worthOf_6 lk_X0_77 mV_X5_areEnemies (c_areEnemies hW hM ha hb) (by decide) (ws_9 hW) rfl (by decide) (Nat.le_of_ble_eq_true rfl) (Nat.le_of_ble_eq_true rfl) ?_
        refine Et_if_eq 16 dX0_worthOf_9 rfl (by rw [if_neg he]; rfl) ?_
        refine Eq_ic (v := nI 0) dX0_worthOf_16 rfl ?_
        refine Eq_is dX0_worthOf_17 (by decide) ?_
        refine Eam_nl (pc' := 19) (l' := [_, _, _, _, _]) rfl rfl ?_
        refine Eq_aln dX0_worthOf_19 rfl ?_
        refine Eq_getR dX0_worthOf_20 fl_X0_15 (ws_20 hW) rfl (by assumption) ?_
        refine Eam_x_nnR (tgt := 29) dX0_worthOf_23 rfl ?_
        refine Eq_aln dX0_worthOf_29 rfl ?_
        refine Eq_getR dX0_worthOf_30 fl_X0_25 (ws_20 hW) rfl (wp_20_2 hW) ?_
        refine Eq_ic (v := nI 0) dX0_worthOf_33 rfl ?_
        refine Eq_aln dX0_worthOf_34 rfl ?_
        refine Eq_getR dX0_worthOf_35 fl_X0_9 (ws_20 hW) rfl (wp_20_0 hW) ?_
        refine Eq_ic (v := nI 0) dX0_worthOf_38 rfl ?_
        refine Eq_iln dX0_worthOf_39 rfl ?_
        refine Eq_V2 (N := m_X5_fact) dX0_worthOf_40 lk_X0_81 mV_X5_fact (c_fact hW hM (by omega) (by omega)) (by decide) (ws_9 hW) rfl (by decide) (Nat.le_of_ble_eq_true rfl) (Nat.le_of_ble_eq_true rfl) ?_
        refine Eq_ast dX0_worthOf_43 (ws_21 hW) (by omega) (by omega) ?_
        refine Eq_aln dX0_worthOf_44 rfl ?_
        refine Eq_getR dX0_worthOf_45 fl_X0_25 (ws_20 hW) rfl (wp_20_2 hW) ?_
        refine Eq_ic (v := nI 1) dX0_worthOf_48 rfl ?_
        refine Eq_aln dX0_worthOf_49 rfl ?_
        refine Eq_getR dX0_worthOf_50 fl_X0_9 (ws_20 hW) rfl (wp_20_0 hW) ?_
        refine Eq_ic (v := nI 0) dX0_worthOf_53 rfl ?_
        refine Eq_iln dX0_worthOf_54 rfl ?_
        refine Eq_V2 (N := m_X5_fact) dX0_worthOf_55 lk_X0_81 mV_X5_fact (c_fact W1 m1 (by omega) (by omega)) (by decide) (ws_9 hW) rfl (by decide) (Nat.le_of_ble_eq_true rfl) (Nat.le_of_ble_eq_true rfl) ?_
        refine Eq_ast dX0_worthOf_58 (ws_21 hW) (by omega) (by omega) ?_
        refine Eq_aln dX0_worthOf_59 rfl ?_
        refine Eq_getR dX0_worthOf_60 fl_X0_25 (ws_20 hW) rfl (wp_20_2 hW) ?_
        refine Eq_ic (v := nI 2) dX0_worthOf_63 rfl ?_
        refine Eq_aln dX0_worthOf_64 rfl ?_
        refine Eq_getR dX0_worthOf_65 fl_X0_9 (ws_20 hW) rfl (wp_20_0 hW) ?_
        refine Eq_ic (v := nI 1) dX0_worthOf_68 rfl ?_
        refine Eq_iln dX0_worthOf_69 rfl ?_
        refine Eq_V2 (N := m_X5_fact) dX0_worthOf_70 lk_X0_81 mV_X5_fact (c_fact W2 m2 (by omega) (by omega)) (by decide) (ws_9 hW) rfl (by decide) (Nat.le_of_ble_eq_true rfl) (Nat.le_of_ble_eq_true rfl) ?_
        refine Eq_ast dX0_worthOf_73 (ws_21 hW) (by omega) (by omega) ?_
        refine Eq_aln dX0_worthOf_74 rfl ?_
        refine Eq_getR dX0_worthOf_75 fl_X0_25 (ws_20 hW) rfl (wp_20_2 hW) ?_
        refine Eq_ic (v := nI 3) dX0_worthOf_78 rfl ?_
        refine Eq_aln dX0_worthOf_79 rfl ?_
        refine Eq_getR dX0_worthOf_80 fl_X0_9 (ws_20 hW) rfl (wp_20_0 hW) ?_
        refine Eq_ic (v := nI 3) dX0_worthOf_83 rfl ?_
        refine Eq_iln dX0_worthOf_84 rfl ?_
        refine Eq_V2 (N := m_X5_fact) dX0_worthOf_85 lk_X0_81 mV_X5_fact (c_fact W3 m3 (by omega) (by omega)) (by decide) (ws_9 hW) rfl (by decide) (Nat.le_of_ble_eq_true rfl) (Nat.le_of_ble_eq_true rfl) ?_
        refine Eq_ic (v := nI 2) dX0_worthOf_88 rfl ?_
        refine Et_ic_ne 96 dX0_worthOf_89 rfl (by exact fun z => hd ((nI_eq (by omega) (by omega)).mp z)) ?_
        refine Eq_aln dX0_worthOf_96 rfl ?_
        refine Eq_getR dX0_worthOf_97 fl_X0_9 (ws_20 hW) rfl (wp_20_0 hW) ?_
        refine Eq_ic (v := nI 2) dX0_worthOf_100 rfl ?_
        refine Eq_iln dX0_worthOf_101 rfl ?_
        refine Eq_V2 (N := m_X5_fact) dX0_worthOf_102 lk_X0_81 mV_X5_fact (c_fact W3 m3 (by omega) (by omega)) (by decide) (ws_9 hW) rfl (by decide) (Nat.le_of_ble_eq_true rfl) (Nat.le_of_ble_eq_true rfl) ?_
        refine Eq_ast dX0_worthOf_105 (ws_21 hW) (by omega) (by omega) ?_
        refine Eq_aln dX0_worthOf_106 rfl ?_
        refine Eq_getR dX0_worthOf_107 fl_X0_25 (ws_20 hW) rfl (wp_20_2 hW) ?_
        refine Eq_ic (v := nI 4) dX0_worthOf_110 rfl ?_
        refine Eq_il dX0_worthOf_111 rfl ?_
        refine Eq_ast dX0_worthOf_113 (ws_21 hW) (by omega) (by omega) ?_
        refine Eq_aln dX0_worthOf_114 rfl ?_
        refine Eq_getR dX0_worthOf_115 fl_X0_25 (ws_20 hW) rfl (wp_20_2 hW) ?_
        refine Eq_ic (v := nI 5) dX0_worthOf_118 rfl ?_
        refine Eq_iln dX0_worthOf_119 rfl ?_
        refine Eq_ast dX0_worthOf_120 (ws_21 hW) (by omega) (by omega) ?_
        refine Eq_aln dX0_worthOf_121 rfl ?_
        refine Eq_getR dX0_worthOf_122 fl_X0_15 (ws_20 hW) rfl (by assumption) ?_
        refine Eq_aln dX0_worthOf_125 rfl ?_
        refine Eq_getR dX0_worthOf_126 fl_X0_25 (ws_20 hW) rfl (wp_20_2 hW) ?_
        refine Eq_W1 (N := m_X3_worthBy) dX0_worthOf_129 lk_X0_85 mV_X3_worthBy (c_worthBy W6 hN6 hT) (by decide) hN.1 rfl (by decide) (Nat.le_of_ble_eq_true rfl) (Nat.le_of_ble_eq_true rfl) (fun vq hq1 hq2 => ?_)
        obtain ⟨rfl, hf2⟩ := hq2
        refine Eq_ir dX0_worthOf_132 rfl ?_
        exact ⟨by rw [wth_cong hws hT]; rfl, (k6.mono (by simp [FL]) (by simp)).tr (hf2.mono (by simp [FL]) (by simp))⟩
theorem i32_add0 {x : Int32} : x + nI 0 = x := by rw [nI_0]; exact Int32.add_zero x
set_option maxHeartbeats 2000000 in
theorem c_illOf_lp {n : Nat} {g : Bool} {F : Nat → Nat → Nat} {S T : Nat → Nat} {q : Option (Nat × Nat × Nat × List (Tks × Tks))} {h0 : am_H} : ∀ k j h, j + k = n → Wd h → MB h n g F → SB 11 12 13 h n S T → CHd h q → Fx (FL q) [] h0 h → ∀ l4, am_E 4 m_X0_illOf 4 [some (.ref 20), some (.ref 11), some (.int (ils (hmo q) n g F S j)), some (.int (nI j)), l4] [] h (fun w h2 => w = some (.int (ils (hmo q) n g F S n)) ∧ Fx (FL q) [] h0 h2) := by
  intro k
  induction k with
  | zero =>
    intro j h hj hW hM hS hq hf l4
    have h7 := hM.2.2.1
    have hjn : j = n := by omega
    subst hjn
    refine Eq_iln dX0_illOf_4 rfl ?_
    refine Eq_aln dX0_illOf_5 rfl ?_
    refine Eq_getR dX0_illOf_6 fl_X0_9 (ws_20 hW) rfl (wp_20_0 hW) ?_
    refine Eq_getI dX0_illOf_9 fl_X0_53 (ws_9 hW) rfl (by first | exact hM.1 | exact hM.2.1) ?_
    refine Et_ic_ge 64 dX0_illOf_12 rfl (by exact nI_le (by omega) (by omega)) ?_
    refine Eq_iln dX0_illOf_64 rfl ?_
    refine Eq_ir dX0_illOf_65 rfl ?_
    exact ⟨rfl, hf⟩
  | succ k ih =>
    intro j h hj hW hM hS hq hf l4
    have h7 := hM.2.2.1
    cases hl : lf n g j with
    | none =>
      refine Eq_iln dX0_illOf_4 rfl ?_
      refine Eq_aln dX0_illOf_5 rfl ?_
      refine Eq_getR dX0_illOf_6 fl_X0_9 (ws_20 hW) rfl (wp_20_0 hW) ?_
      refine Eq_getI dX0_illOf_9 fl_X0_53 (ws_9 hW) rfl (by first | exact hM.1 | exact hM.2.1) ?_
      refine Ef_ic_ge dX0_illOf_12 (tgt := 64) rfl (by exact nI_ge (by omega) (by omega)) ?_
      refine Eq_aln dX0_illOf_15 rfl ?_
      refine Eq_aln dX0_illOf_16 rfl ?_
      refine Eq_iln dX0_illOf_17 rfl ?_
      refine Eq_aln dX0_illOf_18 rfl ?_
      refine Eq_getR dX0_illOf_19 fl_X0_9 (ws_20 hW) rfl (wp_20_0 hW) ?_
      refine Eq_getI dX0_illOf_22 fl_X0_59 (ws_9 hW) rfl (by first | exact hM.1 | exact hM.2.1) ?_
      refine Eq_V2 (N := m_X6_leftOf) dX0_illOf_25 lk_X0_63 mV_X6_leftOf ((by have z := c_leftOf11 hW hS (g := g) (s := j) (by omega); rw [hl] at z; exact z)) (by decide) (ws_11 hW) rfl (by decide) (Nat.le_of_ble_eq_true rfl) (Nat.le_of_ble_eq_true rfl) ?_
      refine Eq_V1 (N := m_X6_memberOn) dX0_illOf_28 lk_X0_69 mV_X6_memberOn (c_memberOnN11 hW hS) (by decide) (ws_11 hW) rfl (by decide) (Nat.le_of_ble_eq_true rfl) (Nat.le_of_ble_eq_true rfl) ?_
      refine Eq_is dX0_illOf_31 (by decide) ?_
      refine Eam_nl (pc' := 33) (l' := [_, _, _, _, _]) rfl rfl ?_
      refine Eq_iln dX0_illOf_33 rfl ?_
      refine Eq_il dX0_illOf_34 rfl ?_
      refine Eq_ic (v := -1) dX0_illOf_36 rfl ?_
      refine Ef_ic_ne dX0_illOf_37 (tgt := 44) rfl (by rfl) ?_
      refine Eq_ic (v := nI 0) dX0_illOf_40 rfl ?_
      refine Eam_x_goto (tgt := 56) dX0_illOf_41 rfl ?_
      refine Eam_x_pu dX0_illOf_56 rfl ?_
      rw [i32_add0, ← ils_n (hm := hmo q) (F := F) (S := S) hl]
      refine Eq_isn dX0_illOf_57 (by decide) ?_
      refine Eam_nl (pc' := 58) (l' := [_, _, _, _, _]) rfl rfl ?_
      refine Eq_inc dX0_illOf_58 rfl (by decide) ?_
      refine Eam_nl (pc' := 61) (l' := [_, _, _, _, _]) rfl rfl ?_
      refine Eam_x_goto (tgt := 4) dX0_illOf_61 rfl ?_
      exact ih (j + 1) h (by omega) hW hM hS hq hf _
    | some l =>
      have hln := lf_lt (by omega) hl
      have hSl := hS.S l hln
      have hSj := hS.S j (by omega)
      refine Eq_iln dX0_illOf_4 rfl ?_
      refine Eq_aln dX0_illOf_5 rfl ?_
      refine Eq_getR dX0_illOf_6 fl_X0_9 (ws_20 hW) rfl (wp_20_0 hW) ?_
      refine Eq_getI dX0_illOf_9 fl_X0_53 (ws_9 hW) rfl (by first | exact hM.1 | exact hM.2.1) ?_
      refine Ef_ic_ge dX0_illOf_12 (tgt := 64) rfl (by exact nI_ge (by omega) (by omega)) ?_
      refine Eq_aln dX0_illOf_15 rfl ?_
      refine Eq_aln dX0_illOf_16 rfl ?_
      refine Eq_iln dX0_illOf_17 rfl ?_
      refine Eq_aln dX0_illOf_18 rfl ?_
      refine Eq_getR dX0_illOf_19 fl_X0_9 (ws_20 hW) rfl (wp_20_0 hW) ?_
      refine Eq_getI dX0_illOf_22 fl_X0_59 (ws_9 hW) rfl (by first | exact hM.1 | exact hM.2.1) ?_
      refine Eq_V2 (N := m_X6_leftOf) dX0_illOf_25 lk_X0_63 mV_X6_leftOf ((by have z := c_leftOf11 hW hS (g := g) (s := j) (by omega); rw [hl] at z; exact z)) (by decide) (ws_11 hW) rfl (by decide) (Nat.le_of_ble_eq_true rfl) (Nat.le_of_ble_eq_true rfl) ?_
      refine Eq_V1 (N := m_X6_memberOn) dX0_illOf_28 lk_X0_69 mV_X6_memberOn (c_memberOn11 hW hS hln) (by decide) (ws_11 hW) rfl (by decide) (Nat.le_of_ble_eq_true rfl) (Nat.le_of_ble_eq_true rfl) ?_
      refine Eq_is dX0_illOf_31 (by decide) ?_
      refine Eam_nl (pc' := 33) (l' := [_, _, _, _, _]) rfl rfl ?_
      refine Eq_iln dX0_illOf_33 rfl ?_
      refine Eq_il dX0_illOf_34 rfl ?_
      refine Eq_ic (v := -1) dX0_illOf_36 rfl ?_
      refine Et_ic_ne 44 dX0_illOf_37 rfl (by exact nI_m1 (by omega)) ?_
      refine Eq_aln dX0_illOf_44 rfl ?_
      refine Eq_il dX0_illOf_45 rfl ?_
      refine Eq_aln dX0_illOf_47 rfl ?_
      refine Eq_iln dX0_illOf_48 rfl ?_
      refine Eq_V1 (N := m_X6_memberOn) dX0_illOf_49 lk_X0_69 mV_X6_memberOn (c_memberOn11 hW hS (by omega)) (by decide) (ws_11 hW) rfl (by decide) (Nat.le_of_ble_eq_true rfl) (Nat.le_of_ble_eq_true rfl) ?_
      refine Eq_iln dX0_illOf_52 rfl ?_
      refine Eq_W3 (N := m_X0_worthOf) dX0_illOf_53 lk_X0_73 mV_X0_worthOf (c_pworth hW hM hq hSl hSj) (by decide) (ws_20 hW) rfl (by decide) (Nat.le_of_ble_eq_true rfl) (Nat.le_of_ble_eq_true rfl) (fun vq hq1 hq2 => ?_)
      obtain ⟨rfl, hf2⟩ := hq2
      refine Eam_x_pu dX0_illOf_56 rfl ?_
      rw [← ils_s (hm := hmo q) (F := F) (S := S) hl]
      refine Eq_isn dX0_illOf_57 (by decide) ?_
      refine Eam_nl (pc' := 58) (l' := [_, _, _, _, _]) rfl rfl ?_
      refine Eq_inc dX0_illOf_58 rfl (by decide) ?_
      refine Eam_nl (pc' := 61) (l' := [_, _, _, _, _]) rfl rfl ?_
      refine Eam_x_goto (tgt := 4) dX0_illOf_61 rfl ?_
      exact ih (j + 1) hq1 (by omega) (hf2.Wd hW) (hM.fx hf2 ⟨FLn hq (by decide) (by decide), FLn hq (by decide) (by decide), by decide, by decide, by decide⟩) (hS.fx hf2 ⟨FLn hq (by decide) (by decide), FLn hq (by decide) (by decide), FLn hq (by decide) (by decide), by decide, by decide, by decide⟩) (hq.fx hf2 mem_self (by simp)) (hf.tr hf2) _
set_option maxHeartbeats 2000000 in
theorem c_illOf {h : am_H} {n : Nat} {g : Bool} {F : Nat → Nat → Nat} (hW : Wd h) (hM : MB h n g F) {S T : Nat → Nat} (hS : SB 11 12 13 h n S T) {q : Option (Nat × Nat × Nat × List (Tks × Tks))} (hq : CHd h q) : am_D 4 m_X0_illOf [.ref 20, .ref 11] h (fun w h2 => w = some (.int (ils (hmo q) n g F S n)) ∧ Fx (FL q) [] h h2) := by
  refine Eq_ic (v := nI 0) dX0_illOf_0 rfl ?_
  refine Eq_isn dX0_illOf_1 (by decide) ?_
  refine Eam_nl (pc' := 2) (l' := [_, _, _, _, _]) rfl rfl ?_
  refine Eq_ic (v := nI 0) dX0_illOf_2 rfl ?_
  refine Eq_isn dX0_illOf_3 (by decide) ?_
  refine Eam_nl (pc' := 4) (l' := [_, _, _, _, _]) rfl rfl ?_
  exact c_illOf_lp (h0 := h) n 0 h (by omega) hW hM hS hq Fx.rf _
set_option maxHeartbeats 2000000 in
theorem c_ill {h : am_H} {n : Nat} {g : Bool} {F : Nat → Nat → Nat} (hW : Wd h) (hM : MB h n g F) {S T : Nat → Nat} (hS : SB 11 12 13 h n S T) {q : Option (Nat × Nat × Nat × List (Tks × Tks))} (hq : CHd h q) : am_D 5 m_X11_ill [.ref 0] h (fun w h2 => w = some (.int (if n = 0 then -100000000 else ils (hmo q) n g F S n)) ∧ Fx (FL q) [] h h2) := by
  have h7 := hM.2.2.1
  by_cases h0 : n = 0
  · rw [if_pos h0]
    refine Eq_aln dX11_ill_0 rfl ?_
    refine Eq_getR dX11_ill_1 fl_X11_48 (ws_0 hW) rfl (wp_0_6 hW) ?_
    refine Eq_getI dX11_ill_4 fl_X11_146 (ws_9 hW) rfl hM.1 ?_
    refine Ef_if_ne dX11_ill_7 (tgt := 15) rfl (by rw [h0]; rfl) ?_
    refine Eam_x_ldc dX11_ill_10 kc_X11_252 ?_
    refine Eam_x_goto (tgt := 26) dX11_ill_12 rfl ?_
    refine Eq_ir dX11_ill_26 rfl ?_
    exact ⟨rfl, Fx.rf⟩
  · rw [if_neg h0]
    refine Eq_aln dX11_ill_0 rfl ?_
    refine Eq_getR dX11_ill_1 fl_X11_48 (ws_0 hW) rfl (wp_0_6 hW) ?_
    refine Eq_getI dX11_ill_4 fl_X11_146 (ws_9 hW) rfl hM.1 ?_
    refine Et_if_ne 15 dX11_ill_7 rfl (by exact fun z => h0 ((n_0 (by omega)).mp z)) ?_
    refine Eq_aln dX11_ill_15 rfl ?_
    refine Eq_getR dX11_ill_16 fl_X11_82 (ws_0 hW) rfl (wp_0_10 hW) ?_
    refine Eq_aln dX11_ill_19 rfl ?_
    refine Eq_getR dX11_ill_20 fl_X11_55 (ws_0 hW) rfl (wp_0_7 hW) ?_
    refine Eq_W1 (N := m_X0_illOf) dX11_ill_23 lk_X11_253 mV_X0_illOf (c_illOf hW hM hS hq) (by decide) (ws_20 hW) rfl (by decide) (Nat.le_of_ble_eq_true rfl) (Nat.le_of_ble_eq_true rfl) (fun vq hq1 hq2 => ?_)
    obtain ⟨rfl, hf2⟩ := hq2
    refine Eq_ir dX11_ill_26 rfl ?_
    exact ⟨rfl, hf2⟩
/-- what the reference holds -/
def RHd (h : am_H) (hold : Option Nat) (hm : Option (List (Tks × Tks))) : Prop := am_i h 50 24 = oN hold ∧ match hold with
  | none => hm = none
  | some k => k < 4 ∧ ∃ M, hm = some M ∧ LW h k M ∧ ∀ c ∈ M, ClT c
theorem RHd.fx {A : List Nat} {B : List (Nat × Nat)} {h h' : am_H} {hold : Option Nat} {hm : Option (List (Tks × Tks))} (m : RHd h hold hm) (a : Fx A B h h') (ok : 50 ∉ A ∧ (50, 24) ∉ B ∧ 52 ∉ A ∧ 53 ∉ A ∧ 55 ∉ A ∧ 56 ∉ A ∧ 57 ∉ A ∧ 58 ∉ A ∧ 52 ∉ B.map Prod.fst ∧ 53 ∉ B.map Prod.fst ∧ 55 ∉ B.map Prod.fst ∧ 56 ∉ B.map Prod.fst ∧ 57 ∉ B.map Prod.fst ∧ 58 ∉ B.map Prod.fst) : RHd h' hold hm := by
  refine ⟨(a.i ok.1 ok.2.1).trans m.1, ?_⟩
  have m2 := m.2
  cases hold with
  | none => exact m2
  | some k =>
    obtain ⟨h1, M, h2, h3, h4⟩ := m2
    exact ⟨h1, M, h2, h3.fx a ok.2.2, h4⟩
set_option maxHeartbeats 2000000 in
theorem r_illBeside {h : am_H} {n : Nat} {g : Bool} {F : Nat → Nat → Nat} {S T : Nat → Nat} (hW : Wd h) (hR : RB h n g F S T) {hold : Option Nat} {hm : Option (List (Tks × Tks))} (hq : RHd h hold hm) {a b s : Nat} (ha : a < n) (hb : b < n) : am_D 5 m_X12_illBeside [.ref 50, .int (nI a), .int (nI b), .int (nI s)] h (fun w h2 => w = some (.int (pwt hm F a b s)) ∧ Fx [59, 60] [] h h2) := by
  have h7 := hR.2.2.1
  have f1 := (hR.2.2.2.1 4 a (by omega) ha).2
  have f2 := (hR.2.2.2.1 4 b (by omega) hb).2
  have hho := hq.1
  have hq2 := hq.2
  cases hold with
  | none =>
    have hm0 : hm = none := hq2
    subst hm0
    by_cases e1 : F 4 a = b
    · have he : enm F a b = true := by simp [enm, e1]
      have hr : pwt none F a b s = nI 1 := by simp only [pwt]; rw [if_pos he]
      rw [hr]
      refine Eq_aln dX12_illBeside_0 rfl ?_
      refine Eq_iln dX12_illBeside_1 rfl ?_
      refine Eq_ic (v := nI 4) dX12_illBeside_2 rfl ?_
      refine Eq_V2 (N := m_X12_of) dX12_illBeside_3 lk_X12_258 mV_X12_of (r_of hW hR (by omega) (by omega)) (by decide) (ws_50 hW) rfl (by decide) (Nat.le_of_ble_eq_true rfl) (Nat.le_of_ble_eq_true rfl) ?_
      refine Eq_iln dX12_illBeside_6 rfl ?_
      refine Et_ic_eq 20 dX12_illBeside_7 rfl (by rw [e1]) ?_
      refine Eq_ic (v := nI 1) dX12_illBeside_20 rfl ?_
      refine Eam_x_goto (tgt := 25) dX12_illBeside_21 rfl ?_
      refine Eq_is dX12_illBeside_25 (by decide) ?_
      refine Eam_nl (pc' := 27) (l' := [_, _, _, _, _]) rfl rfl ?_
      refine Eq_aln dX12_illBeside_27 rfl ?_
      refine Eq_getI dX12_illBeside_28 fl_X12_49 (ws_50 hW) rfl hho ?_
      refine Eq_ic (v := -1) dX12_illBeside_31 rfl ?_
      refine Ef_ic_ne dX12_illBeside_32 (tgt := 38) rfl (by rfl) ?_
      refine Eq_il dX12_illBeside_35 rfl ?_
      refine Eq_ir dX12_illBeside_37 rfl ?_
      exact ⟨rfl, Fx.rf⟩
    · by_cases e2 : F 4 b = a
      · have he : enm F a b = true := by simp [enm, e2]
        have hr : pwt none F a b s = nI 1 := by simp only [pwt]; rw [if_pos he]
        rw [hr]
        refine Eq_aln dX12_illBeside_0 rfl ?_
        refine Eq_iln dX12_illBeside_1 rfl ?_
        refine Eq_ic (v := nI 4) dX12_illBeside_2 rfl ?_
        refine Eq_V2 (N := m_X12_of) dX12_illBeside_3 lk_X12_258 mV_X12_of (r_of hW hR (by omega) (by omega)) (by decide) (ws_50 hW) rfl (by decide) (Nat.le_of_ble_eq_true rfl) (Nat.le_of_ble_eq_true rfl) ?_
        refine Eq_iln dX12_illBeside_6 rfl ?_
        refine Ef_ic_eq dX12_illBeside_7 (tgt := 20) rfl (by exact fun z => e1 ((nI_eq (by omega) (by omega)).mp z)) ?_
        refine Eq_aln dX12_illBeside_10 rfl ?_
        refine Eq_iln dX12_illBeside_11 rfl ?_
        refine Eq_ic (v := nI 4) dX12_illBeside_12 rfl ?_
        refine Eq_V2 (N := m_X12_of) dX12_illBeside_13 lk_X12_258 mV_X12_of (r_of hW hR (by omega) (by omega)) (by decide) (ws_50 hW) rfl (by decide) (Nat.le_of_ble_eq_true rfl) (Nat.le_of_ble_eq_true rfl) ?_
        refine Eq_iln dX12_illBeside_16 rfl ?_
        refine Ef_ic_ne dX12_illBeside_17 (tgt := 24) rfl (by rw [e2]) ?_
        refine Eq_ic (v := nI 1) dX12_illBeside_20 rfl ?_
        refine Eam_x_goto (tgt := 25) dX12_illBeside_21 rfl ?_
        refine Eq_is dX12_illBeside_25 (by decide) ?_
        refine Eam_nl (pc' := 27) (l' := [_, _, _, _, _]) rfl rfl ?_
        refine Eq_aln dX12_illBeside_27 rfl ?_
        refine Eq_getI dX12_illBeside_28 fl_X12_49 (ws_50 hW) rfl hho ?_
        refine Eq_ic (v := -1) dX12_illBeside_31 rfl ?_
        refine Ef_ic_ne dX12_illBeside_32 (tgt := 38) rfl (by rfl) ?_
        refine Eq_il dX12_illBeside_35 rfl ?_
        refine Eq_ir dX12_illBeside_37 rfl ?_
        exact ⟨rfl, Fx.rf⟩
      · have he : ¬ enm F a b = true := by simp [enm, e1, e2]
        have hr : pwt none F a b s = nI 0 := by simp only [pwt]; rw [if_neg he]
        rw [hr]
        refine Eq_aln dX12_illBeside_0 rfl ?_
        refine Eq_iln dX12_illBeside_1 rfl ?_
        refine Eq_ic (v := nI 4) dX12_illBeside_2 rfl ?_
        refine Eq_V2 (N := m_X12_of) dX12_illBeside_3 lk_X12_258 mV_X12_of (r_of hW hR (by omega) (by omega)) (by decide) (ws_50 hW) rfl (by decide) (Nat.le_of_ble_eq_true rfl) (Nat.le_of_ble_eq_true rfl) ?_
        refine Eq_iln dX12_illBeside_6 rfl ?_
        refine Ef_ic_eq dX12_illBeside_7 (tgt := 20) rfl (by exact fun z => e1 ((nI_eq (by omega) (by omega)).mp z)) ?_
        refine Eq_aln dX12_illBeside_10 rfl ?_
        refine Eq_iln dX12_illBeside_11 rfl ?_
        refine Eq_ic (v := nI 4) dX12_illBeside_12 rfl ?_
        refine Eq_V2 (N := m_X12_of) dX12_illBeside_13 lk_X12_258 mV_X12_of (r_of hW hR (by omega) (by omega)) (by decide) (ws_50 hW) rfl (by decide) (Nat.le_of_ble_eq_true rfl) (Nat.le_of_ble_eq_true rfl) ?_
        refine Eq_iln dX12_illBeside_16 rfl ?_
        refine Et_ic_ne 24 dX12_illBeside_17 rfl (by exact fun z => e2 ((nI_eq (by omega) (by omega)).mp z)) ?_
        refine Eq_ic (v := nI 0) dX12_illBeside_24 rfl ?_
        refine Eq_is dX12_illBeside_25 (by decide) ?_
        refine Eam_nl (pc' := 27) (l' := [_, _, _, _, _]) rfl rfl ?_
        refine Eq_aln dX12_illBeside_27 rfl ?_
        refine Eq_getI dX12_illBeside_28 fl_X12_49 (ws_50 hW) rfl hho ?_
        refine Eq_ic (v := -1) dX12_illBeside_31 rfl ?_
        refine Ef_ic_ne dX12_illBeside_32 (tgt := 38) rfl (by rfl) ?_
        refine Eq_il dX12_illBeside_35 rfl ?_
        refine Eq_ir dX12_illBeside_37 rfl ?_
        exact ⟨rfl, Fx.rf⟩
  | some kk =>
    obtain ⟨hk4, M, hm1, hL, hT⟩ := hq2
    subst hm1
    by_cases e1 : F 4 a = b
    · have he : enm F a b = true := by simp [enm, e1]
      have k1 : Fx [59, 60] [] h (am_wI (h) 59 0 (nI (F 0 a))) := Fx.wI (Or.inl (by decide))
      have W1 := k1.Wd hW
      have m1 := hR.fx k1 (by decide)
      have k2 : Fx [59, 60] [] h (am_wI (am_wI (h) 59 0 (nI (F 0 a))) 59 1 (nI (F 0 b))) := k1.tr (Fx.wI (Or.inl (by decide)))
      have W2 := k2.Wd hW
      have m2 := hR.fx k2 (by decide)
      have k3 : Fx [59, 60] [] h (am_wI (am_wI (am_wI (h) 59 0 (nI (F 0 a))) 59 1 (nI (F 0 b))) 59 2 (nI (F 1 a))) := k2.tr (Fx.wI (Or.inl (by decide)))
      have W3 := k3.Wd hW
      have m3 := hR.fx k3 (by decide)
      have k4 : Fx [59, 60] [] h (am_wI (am_wI (am_wI (am_wI (h) 59 0 (nI (F 0 a))) 59 1 (nI (F 0 b))) 59 2 (nI (F 1 a))) 59 3 (nI (slp F a))) := k3.tr (Fx.wI (Or.inl (by decide)))
      have W4 := k4.Wd hW
      have m4 := hR.fx k4 (by decide)
      have k5 : Fx [59, 60] [] h (am_wI (am_wI (am_wI (am_wI (am_wI (h) 59 0 (nI (F 0 a))) 59 1 (nI (F 0 b))) 59 2 (nI (F 1 a))) 59 3 (nI (slp F a))) 59 4 (nI 1)) := k4.tr (Fx.wI (Or.inl (by decide)))
      have W5 := k5.Wd hW
      have m5 := hR.fx k5 (by decide)
      have k6 : Fx [59, 60] [] h (am_wI (am_wI (am_wI (am_wI (am_wI (am_wI (h) 59 0 (nI (F 0 a))) 59 1 (nI (F 0 b))) 59 2 (nI (F 1 a))) 59 3 (nI (slp F a))) 59 4 (nI 1)) 59 5 (nI s)) := k5.tr (Fx.wI (Or.inl (by decide)))
      have W6 := k6.Wd hW
      have m6 := hR.fx k6 (by decide)
      have hws : ∀ j, j < 6 → am_i (am_wI (am_wI (am_wI (am_wI (am_wI (am_wI (h) 59 0 (nI (F 0 a))) 59 1 (nI (F 0 b))) 59 2 (nI (F 1 a))) 59 3 (nI (slp F a))) 59 4 (nI 1)) 59 5 (nI s)) 59 j = wsv F a b s j := fun j hj => by
        rcases (show j = 0 ∨ j = 1 ∨ j = 2 ∨ j = 3 ∨ j = 4 ∨ j = 5 by omega) with rfl | rfl | rfl | rfl | rfl | rfl
        · rfl
        · rfl
        · rfl
        · rfl
        · show nI 1 = nI (if enm F a b = true then 1 else 0); rw [if_pos he]
        · rfl
      refine Eq_aln dX12_illBeside_0 rfl ?_
      refine Eq_iln dX12_illBeside_1 rfl ?_
      refine Eq_ic (v := nI 4) dX12_illBeside_2 rfl ?_
      refine Eq_V2 (N := m_X12_of) dX12_illBeside_3 lk_X12_258 mV_X12_of (r_of hW hR (by omega) (by omega)) (by decide) (ws_50 hW) rfl (by decide) (Nat.le_of_ble_eq_true rfl) (Nat.le_of_ble_eq_true rfl) ?_
      refine Eq_iln dX12_illBeside_6 rfl ?_
      refine Et_ic_eq 20 dX12_illBeside_7 rfl (by rw [e1]) ?_
      refine Eq_ic (v := nI 1) dX12_illBeside_20 rfl ?_
      refine Eam_x_goto (tgt := 25) dX12_illBeside_21 rfl ?_
      refine Eq_is dX12_illBeside_25 (by decide) ?_
      refine Eam_nl (pc' := 27) (l' := [_, _, _, _, _]) rfl rfl ?_
      refine Eq_aln dX12_illBeside_27 rfl ?_
      refine Eq_getI dX12_illBeside_28 fl_X12_49 (ws_50 hW) rfl hho ?_
      refine Eq_ic (v := -1) dX12_illBeside_31 rfl ?_
      refine Et_ic_ne 38 dX12_illBeside_32 rfl (by exact nI_m1 (by omega)) ?_
      refine Eq_aln dX12_illBeside_38 rfl ?_
      refine Eq_getR dX12_illBeside_39 fl_X12_34 (ws_50 hW) rfl (wp_50_15 hW) ?_
      refine Eq_ic (v := nI 0) dX12_illBeside_42 rfl ?_
      refine Eq_aln dX12_illBeside_43 rfl ?_
      refine Eq_iln dX12_illBeside_44 rfl ?_
      refine Eq_ic (v := nI 0) dX12_illBeside_45 rfl ?_
      refine Eq_V2 (N := m_X12_of) dX12_illBeside_46 lk_X12_258 mV_X12_of (r_of hW hR (by omega) (by omega)) (by decide) (ws_50 hW) rfl (by decide) (Nat.le_of_ble_eq_true rfl) (Nat.le_of_ble_eq_true rfl) ?_
      refine Eq_ast dX12_illBeside_49 (ws_59 hW) (by omega) (by omega) ?_
      refine Eq_aln dX12_illBeside_50 rfl ?_
      refine Eq_getR dX12_illBeside_51 fl_X12_34 (ws_50 hW) rfl (wp_50_15 hW) ?_
      refine Eq_ic (v := nI 1) dX12_illBeside_54 rfl ?_
      refine Eq_aln dX12_illBeside_55 rfl ?_
      refine Eq_iln dX12_illBeside_56 rfl ?_
      refine Eq_ic (v := nI 0) dX12_illBeside_57 rfl ?_
      refine Eq_V2 (N := m_X12_of) dX12_illBeside_58 lk_X12_258 mV_X12_of (r_of W1 m1 (by omega) (by omega)) (by decide) (ws_50 hW) rfl (by decide) (Nat.le_of_ble_eq_true rfl) (Nat.le_of_ble_eq_true rfl) ?_
      refine Eq_ast dX12_illBeside_61 (ws_59 hW) (by omega) (by omega) ?_
      refine Eq_aln dX12_illBeside_62 rfl ?_
      refine Eq_getR dX12_illBeside_63 fl_X12_34 (ws_50 hW) rfl (wp_50_15 hW) ?_
      refine Eq_ic (v := nI 2) dX12_illBeside_66 rfl ?_
      refine Eq_aln dX12_illBeside_67 rfl ?_
      refine Eq_iln dX12_illBeside_68 rfl ?_
      refine Eq_ic (v := nI 1) dX12_illBeside_69 rfl ?_
      refine Eq_V2 (N := m_X12_of) dX12_illBeside_70 lk_X12_258 mV_X12_of (r_of W2 m2 (by omega) (by omega)) (by decide) (ws_50 hW) rfl (by decide) (Nat.le_of_ble_eq_true rfl) (Nat.le_of_ble_eq_true rfl) ?_
      refine Eq_ast dX12_illBeside_73 (ws_59 hW) (by omega) (by omega) ?_
      refine Eq_aln dX12_illBeside_74 rfl ?_
      refine Eq_getR dX12_illBeside_75 fl_X12_34 (ws_50 hW) rfl (wp_50_15 hW) ?_
      refine Eq_ic (v := nI 3) dX12_illBeside_78 rfl ?_
      refine Eq_aln dX12_illBeside_79 rfl ?_
      refine Eq_iln dX12_illBeside_80 rfl ?_
      refine Eq_V1 (N := m_X12_errorOf) dX12_illBeside_81 lk_X12_316 mV_X12_errorOf (r_errorOf W3 m3 (by omega)) (by decide) (ws_50 hW) rfl (by decide) (Nat.le_of_ble_eq_true rfl) (Nat.le_of_ble_eq_true rfl) ?_
      refine Eq_ast dX12_illBeside_84 (ws_59 hW) (by omega) (by omega) ?_
      refine Eq_aln dX12_illBeside_85 rfl ?_
      refine Eq_getR dX12_illBeside_86 fl_X12_34 (ws_50 hW) rfl (wp_50_15 hW) ?_
      refine Eq_ic (v := nI 4) dX12_illBeside_89 rfl ?_
      refine Eq_il dX12_illBeside_90 rfl ?_
      refine Eq_ast dX12_illBeside_92 (ws_59 hW) (by omega) (by omega) ?_
      refine Eq_aln dX12_illBeside_93 rfl ?_
      refine Eq_getR dX12_illBeside_94 fl_X12_34 (ws_50 hW) rfl (wp_50_15 hW) ?_
      refine Eq_ic (v := nI 5) dX12_illBeside_97 rfl ?_
      refine Eq_iln dX12_illBeside_98 rfl ?_
      refine Eq_ast dX12_illBeside_99 (ws_59 hW) (by omega) (by omega) ?_
      refine Eq_aln dX12_illBeside_100 rfl ?_
      refine Eq_aln dX12_illBeside_101 rfl ?_
      refine Eq_getI dX12_illBeside_102 fl_X12_49 (ws_50 hW) rfl hho ?_
      refine Eq_W1 (N := m_X12_worthOf) dX12_illBeside_105 lk_X12_355 mV_X12_worthOf (r_worthOf W6 (hL.fx k6 (by decide)) hT) (by decide) (ws_50 hW) rfl (by decide) (Nat.le_of_ble_eq_true rfl) (Nat.le_of_ble_eq_true rfl) (fun vq hq1 hq2 => ?_)
      obtain ⟨rfl, hf2⟩ := hq2
      refine Eq_ir dX12_illBeside_108 rfl ?_
      exact ⟨by rw [wth_cong hws hT]; rfl, k6.tr (hf2.mono (by decide) (by decide))⟩
    · by_cases e2 : F 4 b = a
      · have he : enm F a b = true := by simp [enm, e2]
        have k1 : Fx [59, 60] [] h (am_wI (h) 59 0 (nI (F 0 a))) := Fx.wI (Or.inl (by decide))
        have W1 := k1.Wd hW
        have m1 := hR.fx k1 (by decide)
        have k2 : Fx [59, 60] [] h (am_wI (am_wI (h) 59 0 (nI (F 0 a))) 59 1 (nI (F 0 b))) := k1.tr (Fx.wI (Or.inl (by decide)))
        have W2 := k2.Wd hW
        have m2 := hR.fx k2 (by decide)
        have k3 : Fx [59, 60] [] h (am_wI (am_wI (am_wI (h) 59 0 (nI (F 0 a))) 59 1 (nI (F 0 b))) 59 2 (nI (F 1 a))) := k2.tr (Fx.wI (Or.inl (by decide)))
        have W3 := k3.Wd hW
        have m3 := hR.fx k3 (by decide)
        have k4 : Fx [59, 60] [] h (am_wI (am_wI (am_wI (am_wI (h) 59 0 (nI (F 0 a))) 59 1 (nI (F 0 b))) 59 2 (nI (F 1 a))) 59 3 (nI (slp F a))) := k3.tr (Fx.wI (Or.inl (by decide)))
        have W4 := k4.Wd hW
        have m4 := hR.fx k4 (by decide)
        have k5 : Fx [59, 60] [] h (am_wI (am_wI (am_wI (am_wI (am_wI (h) 59 0 (nI (F 0 a))) 59 1 (nI (F 0 b))) 59 2 (nI (F 1 a))) 59 3 (nI (slp F a))) 59 4 (nI 1)) := k4.tr (Fx.wI (Or.inl (by decide)))
        have W5 := k5.Wd hW
        have m5 := hR.fx k5 (by decide)
        have k6 : Fx [59, 60] [] h (am_wI (am_wI (am_wI (am_wI (am_wI (am_wI (h) 59 0 (nI (F 0 a))) 59 1 (nI (F 0 b))) 59 2 (nI (F 1 a))) 59 3 (nI (slp F a))) 59 4 (nI 1)) 59 5 (nI s)) := k5.tr (Fx.wI (Or.inl (by decide)))
        have W6 := k6.Wd hW
        have m6 := hR.fx k6 (by decide)
        have hws : ∀ j, j < 6 → am_i (am_wI (am_wI (am_wI (am_wI (am_wI (am_wI (h) 59 0 (nI (F 0 a))) 59 1 (nI (F 0 b))) 59 2 (nI (F 1 a))) 59 3 (nI (slp F a))) 59 4 (nI 1)) 59 5 (nI s)) 59 j = wsv F a b s j := fun j hj => by
          rcases (show j = 0 ∨ j = 1 ∨ j = 2 ∨ j = 3 ∨ j = 4 ∨ j = 5 by omega) with rfl | rfl | rfl | rfl | rfl | rfl
          · rfl
          · rfl
          · rfl
          · rfl
          · show nI 1 = nI (if enm F a b = true then 1 else 0); rw [if_pos he]
          · rfl
        refine Eq_aln dX12_illBeside_0 rfl ?_
        refine Eq_iln dX12_illBeside_1 rfl ?_
        refine Eq_ic (v := nI 4) dX12_illBeside_2 rfl ?_
        refine Eq_V2 (N := m_X12_of) dX12_illBeside_3 lk_X12_258 mV_X12_of (r_of hW hR (by omega) (by omega)) (by decide) (ws_50 hW) rfl (by decide) (Nat.le_of_ble_eq_true rfl) (Nat.le_of_ble_eq_true rfl) ?_
        refine Eq_iln dX12_illBeside_6 rfl ?_
        refine Ef_ic_eq dX12_illBeside_7 (tgt := 20) rfl (by exact fun z => e1 ((nI_eq (by omega) (by omega)).mp z)) ?_
        refine Eq_aln dX12_illBeside_10 rfl ?_
        refine Eq_iln dX12_illBeside_11 rfl ?_
        refine Eq_ic (v := nI 4) dX12_illBeside_12 rfl ?_
        refine Eq_V2 (N := m_X12_of) dX12_illBeside_13 lk_X12_258 mV_X12_of (r_of hW hR (by omega) (by omega)) (by decide) (ws_50 hW) rfl (by decide) (Nat.le_of_ble_eq_true rfl) (Nat.le_of_ble_eq_true rfl) ?_
        refine Eq_iln dX12_illBeside_16 rfl ?_
        refine Ef_ic_ne dX12_illBeside_17 (tgt := 24) rfl (by rw [e2]) ?_
        refine Eq_ic (v := nI 1) dX12_illBeside_20 rfl ?_
        refine Eam_x_goto (tgt := 25) dX12_illBeside_21 rfl ?_
        refine Eq_is dX12_illBeside_25 (by decide) ?_
        refine Eam_nl (pc' := 27) (l' := [_, _, _, _, _]) rfl rfl ?_
        refine Eq_aln dX12_illBeside_27 rfl ?_
        refine Eq_getI dX12_illBeside_28 fl_X12_49 (ws_50 hW) rfl hho ?_
        refine Eq_ic (v := -1) dX12_illBeside_31 rfl ?_
        refine Et_ic_ne 38 dX12_illBeside_32 rfl (by exact nI_m1 (by omega)) ?_
        refine Eq_aln dX12_illBeside_38 rfl ?_
        refine Eq_getR dX12_illBeside_39 fl_X12_34 (ws_50 hW) rfl (wp_50_15 hW) ?_
        refine Eq_ic (v := nI 0) dX12_illBeside_42 rfl ?_
        refine Eq_aln dX12_illBeside_43 rfl ?_
        refine Eq_iln dX12_illBeside_44 rfl ?_
        refine Eq_ic (v := nI 0) dX12_illBeside_45 rfl ?_
        refine Eq_V2 (N := m_X12_of) dX12_illBeside_46 lk_X12_258 mV_X12_of (r_of hW hR (by omega) (by omega)) (by decide) (ws_50 hW) rfl (by decide) (Nat.le_of_ble_eq_true rfl) (Nat.le_of_ble_eq_true rfl) ?_
        refine Eq_ast dX12_illBeside_49 (ws_59 hW) (by omega) (by omega) ?_
        refine Eq_aln dX12_illBeside_50 rfl ?_
        refine Eq_getR dX12_illBeside_51 fl_X12_34 (ws_50 hW) rfl (wp_50_15 hW) ?_
        refine Eq_ic (v := nI 1) dX12_illBeside_54 rfl ?_
        refine Eq_aln dX12_illBeside_55 rfl ?_
        refine Eq_iln dX12_illBeside_56 rfl ?_
        refine Eq_ic (v := nI 0) dX12_illBeside_57 rfl ?_
        refine Eq_V2 (N := m_X12_of) dX12_illBeside_58 lk_X12_258 mV_X12_of (r_of W1 m1 (by omega) (by omega)) (by decide) (ws_50 hW) rfl (by decide) (Nat.le_of_ble_eq_true rfl) (Nat.le_of_ble_eq_true rfl) ?_
        refine Eq_ast dX12_illBeside_61 (ws_59 hW) (by omega) (by omega) ?_
        refine Eq_aln dX12_illBeside_62 rfl ?_
        refine Eq_getR dX12_illBeside_63 fl_X12_34 (ws_50 hW) rfl (wp_50_15 hW) ?_
        refine Eq_ic (v := nI 2) dX12_illBeside_66 rfl ?_
        refine Eq_aln dX12_illBeside_67 rfl ?_
        refine Eq_iln dX12_illBeside_68 rfl ?_
        refine Eq_ic (v := nI 1) dX12_illBeside_69 rfl ?_
        refine Eq_V2 (N := m_X12_of) dX12_illBeside_70 lk_X12_258 mV_X12_of (r_of W2 m2 (by omega) (by omega)) (by decide) (ws_50 hW) rfl (by decide) (Nat.le_of_ble_eq_true rfl) (Nat.le_of_ble_eq_true rfl) ?_
        refine Eq_ast dX12_illBeside_73 (ws_59 hW) (by omega) (by omega) ?_
        refine Eq_aln dX12_illBeside_74 rfl ?_
        refine Eq_getR dX12_illBeside_75 fl_X12_34 (ws_50 hW) rfl (wp_50_15 hW) ?_
        refine Eq_ic (v := nI 3) dX12_illBeside_78 rfl ?_
        refine Eq_aln dX12_illBeside_79 rfl ?_
        refine Eq_iln dX12_illBeside_80 rfl ?_
        refine Eq_V1 (N := m_X12_errorOf) dX12_illBeside_81 lk_X12_316 mV_X12_errorOf (r_errorOf W3 m3 (by omega)) (by decide) (ws_50 hW) rfl (by decide) (Nat.le_of_ble_eq_true rfl) (Nat.le_of_ble_eq_true rfl) ?_
        refine Eq_ast dX12_illBeside_84 (ws_59 hW) (by omega) (by omega) ?_
        refine Eq_aln dX12_illBeside_85 rfl ?_
        refine Eq_getR dX12_illBeside_86 fl_X12_34 (ws_50 hW) rfl (wp_50_15 hW) ?_
        refine Eq_ic (v := nI 4) dX12_illBeside_89 rfl ?_
        refine Eq_il dX12_illBeside_90 rfl ?_
        refine Eq_ast dX12_illBeside_92 (ws_59 hW) (by omega) (by omega) ?_
        refine Eq_aln dX12_illBeside_93 rfl ?_
        refine Eq_getR dX12_illBeside_94 fl_X12_34 (ws_50 hW) rfl (wp_50_15 hW) ?_
        refine Eq_ic (v := nI 5) dX12_illBeside_97 rfl ?_
        refine Eq_iln dX12_illBeside_98 rfl ?_
        refine Eq_ast dX12_illBeside_99 (ws_59 hW) (by omega) (by omega) ?_
        refine Eq_aln dX12_illBeside_100 rfl ?_
        refine Eq_aln dX12_illBeside_101 rfl ?_
        refine Eq_getI dX12_illBeside_102 fl_X12_49 (ws_50 hW) rfl hho ?_
        refine Eq_W1 (N := m_X12_worthOf) dX12_illBeside_105 lk_X12_355 mV_X12_worthOf (r_worthOf W6 (hL.fx k6 (by decide)) hT) (by decide) (ws_50 hW) rfl (by decide) (Nat.le_of_ble_eq_true rfl) (Nat.le_of_ble_eq_true rfl) (fun vq hq1 hq2 => ?_)
        obtain ⟨rfl, hf2⟩ := hq2
        refine Eq_ir dX12_illBeside_108 rfl ?_
        exact ⟨by rw [wth_cong hws hT]; rfl, k6.tr (hf2.mono (by decide) (by decide))⟩
      · have he : ¬ enm F a b = true := by simp [enm, e1, e2]
        have k1 : Fx [59, 60] [] h (am_wI (h) 59 0 (nI (F 0 a))) := Fx.wI (Or.inl (by decide))
        have W1 := k1.Wd hW
        have m1 := hR.fx k1 (by decide)
        have k2 : Fx [59, 60] [] h (am_wI (am_wI (h) 59 0 (nI (F 0 a))) 59 1 (nI (F 0 b))) := k1.tr (Fx.wI (Or.inl (by decide)))
        have W2 := k2.Wd hW
        have m2 := hR.fx k2 (by decide)
        have k3 : Fx [59, 60] [] h (am_wI (am_wI (am_wI (h) 59 0 (nI (F 0 a))) 59 1 (nI (F 0 b))) 59 2 (nI (F 1 a))) := k2.tr (Fx.wI (Or.inl (by decide)))
        have W3 := k3.Wd hW
        have m3 := hR.fx k3 (by decide)
        have k4 : Fx [59, 60] [] h (am_wI (am_wI (am_wI (am_wI (h) 59 0 (nI (F 0 a))) 59 1 (nI (F 0 b))) 59 2 (nI (F 1 a))) 59 3 (nI (slp F a))) := k3.tr (Fx.wI (Or.inl (by decide)))
        have W4 := k4.Wd hW
        have m4 := hR.fx k4 (by decide)
        have k5 : Fx [59, 60] [] h (am_wI (am_wI (am_wI (am_wI (am_wI (h) 59 0 (nI (F 0 a))) 59 1 (nI (F 0 b))) 59 2 (nI (F 1 a))) 59 3 (nI (slp F a))) 59 4 (nI 0)) := k4.tr (Fx.wI (Or.inl (by decide)))
        have W5 := k5.Wd hW
        have m5 := hR.fx k5 (by decide)
        have k6 : Fx [59, 60] [] h (am_wI (am_wI (am_wI (am_wI (am_wI (am_wI (h) 59 0 (nI (F 0 a))) 59 1 (nI (F 0 b))) 59 2 (nI (F 1 a))) 59 3 (nI (slp F a))) 59 4 (nI 0)) 59 5 (nI s)) := k5.tr (Fx.wI (Or.inl (by decide)))
        have W6 := k6.Wd hW
        have m6 := hR.fx k6 (by decide)
        have hws : ∀ j, j < 6 → am_i (am_wI (am_wI (am_wI (am_wI (am_wI (am_wI (h) 59 0 (nI (F 0 a))) 59 1 (nI (F 0 b))) 59 2 (nI (F 1 a))) 59 3 (nI (slp F a))) 59 4 (nI 0)) 59 5 (nI s)) 59 j = wsv F a b s j := fun j hj => by
          rcases (show j = 0 ∨ j = 1 ∨ j = 2 ∨ j = 3 ∨ j = 4 ∨ j = 5 by omega) with rfl | rfl | rfl | rfl | rfl | rfl
          · rfl
          · rfl
          · rfl
          · rfl
          · show nI 0 = nI (if enm F a b = true then 1 else 0); rw [if_neg he]
          · rfl
        refine Eq_aln dX12_illBeside_0 rfl ?_
        refine Eq_iln dX12_illBeside_1 rfl ?_
        refine Eq_ic (v := nI 4) dX12_illBeside_2 rfl ?_
        refine Eq_V2 (N := m_X12_of) dX12_illBeside_3 lk_X12_258 mV_X12_of (r_of hW hR (by omega) (by omega)) (by decide) (ws_50 hW) rfl (by decide) (Nat.le_of_ble_eq_true rfl) (Nat.le_of_ble_eq_true rfl) ?_
        refine Eq_iln dX12_illBeside_6 rfl ?_
        refine Ef_ic_eq dX12_illBeside_7 (tgt := 20) rfl (by exact fun z => e1 ((nI_eq (by omega) (by omega)).mp z)) ?_
        refine Eq_aln dX12_illBeside_10 rfl ?_
        refine Eq_iln dX12_illBeside_11 rfl ?_
        refine Eq_ic (v := nI 4) dX12_illBeside_12 rfl ?_
        refine Eq_V2 (N := m_X12_of) dX12_illBeside_13 lk_X12_258 mV_X12_of (r_of hW hR (by omega) (by omega)) (by decide) (ws_50 hW) rfl (by decide) (Nat.le_of_ble_eq_true rfl) (Nat.le_of_ble_eq_true rfl) ?_
        refine Eq_iln dX12_illBeside_16 rfl ?_
        refine Et_ic_ne 24 dX12_illBeside_17 rfl (by exact fun z => e2 ((nI_eq (by omega) (by omega)).mp z)) ?_
        refine Eq_ic (v := nI 0) dX12_illBeside_24 rfl ?_
        refine Eq_is dX12_illBeside_25 (by decide) ?_
        refine Eam_nl (pc' := 27) (l' := [_, _, _, _, _]) rfl rfl ?_
        refine Eq_aln dX12_illBeside_27 rfl ?_
        refine Eq_getI dX12_illBeside_28 fl_X12_49 (ws_50 hW) rfl hho ?_
        refine Eq_ic (v := -1) dX12_illBeside_31 rfl ?_
        refine Et_ic_ne 38 dX12_illBeside_32 rfl (by exact nI_m1 (by omega)) ?_
        refine Eq_aln dX12_illBeside_38 rfl ?_
        refine Eq_getR dX12_illBeside_39 fl_X12_34 (ws_50 hW) rfl (wp_50_15 hW) ?_
        refine Eq_ic (v := nI 0) dX12_illBeside_42 rfl ?_
        refine Eq_aln dX12_illBeside_43 rfl ?_
        refine Eq_iln dX12_illBeside_44 rfl ?_
        refine Eq_ic (v := nI 0) dX12_illBeside_45 rfl ?_
        refine Eq_V2 (N := m_X12_of) dX12_illBeside_46 lk_X12_258 mV_X12_of (r_of hW hR (by omega) (by omega)) (by decide) (ws_50 hW) rfl (by decide) (Nat.le_of_ble_eq_true rfl) (Nat.le_of_ble_eq_true rfl) ?_
        refine Eq_ast dX12_illBeside_49 (ws_59 hW) (by omega) (by omega) ?_
        refine Eq_aln dX12_illBeside_50 rfl ?_
        refine Eq_getR dX12_illBeside_51 fl_X12_34 (ws_50 hW) rfl (wp_50_15 hW) ?_
        refine Eq_ic (v := nI 1) dX12_illBeside_54 rfl ?_
        refine Eq_aln dX12_illBeside_55 rfl ?_
        refine Eq_iln dX12_illBeside_56 rfl ?_
        refine Eq_ic (v := nI 0) dX12_illBeside_57 rfl ?_
        refine Eq_V2 (N := m_X12_of) dX12_illBeside_58 lk_X12_258 mV_X12_of (r_of W1 m1 (by omega) (by omega)) (by decide) (ws_50 hW) rfl (by decide) (Nat.le_of_ble_eq_true rfl) (Nat.le_of_ble_eq_true rfl) ?_
        refine Eq_ast dX12_illBeside_61 (ws_59 hW) (by omega) (by omega) ?_
        refine Eq_aln dX12_illBeside_62 rfl ?_
        refine Eq_getR dX12_illBeside_63 fl_X12_34 (ws_50 hW) rfl (wp_50_15 hW) ?_
        refine Eq_ic (v := nI 2) dX12_illBeside_66 rfl ?_
        refine Eq_aln dX12_illBeside_67 rfl ?_
        refine Eq_iln dX12_illBeside_68 rfl ?_
        refine Eq_ic (v := nI 1) dX12_illBeside_69 rfl ?_
        refine Eq_V2 (N := m_X12_of) dX12_illBeside_70 lk_X12_258 mV_X12_of (r_of W2 m2 (by omega) (by omega)) (by decide) (ws_50 hW) rfl (by decide) (Nat.le_of_ble_eq_true rfl) (Nat.le_of_ble_eq_true rfl) ?_
        refine Eq_ast dX12_illBeside_73 (ws_59 hW) (by omega) (by omega) ?_
        refine Eq_aln dX12_illBeside_74 rfl ?_
        refine Eq_getR dX12_illBeside_75 fl_X12_34 (ws_50 hW) rfl (wp_50_15 hW) ?_
        refine Eq_ic (v := nI 3) dX12_illBeside_78 rfl ?_
        refine Eq_aln dX12_illBeside_79 rfl ?_
        refine Eq_iln dX12_illBeside_80 rfl ?_
        refine Eq_V1 (N := m_X12_errorOf) dX12_illBeside_81 lk_X12_316 mV_X12_errorOf (r_errorOf W3 m3 (by omega)) (by decide) (ws_50 hW) rfl (by decide) (Nat.le_of_ble_eq_true rfl) (Nat.le_of_ble_eq_true rfl) ?_
        refine Eq_ast dX12_illBeside_84 (ws_59 hW) (by omega) (by omega) ?_
        refine Eq_aln dX12_illBeside_85 rfl ?_
        refine Eq_getR dX12_illBeside_86 fl_X12_34 (ws_50 hW) rfl (wp_50_15 hW) ?_
        refine Eq_ic (v := nI 4) dX12_illBeside_89 rfl ?_
        refine Eq_il dX12_illBeside_90 rfl ?_
        refine Eq_ast dX12_illBeside_92 (ws_59 hW) (by omega) (by omega) ?_
        refine Eq_aln dX12_illBeside_93 rfl ?_
        refine Eq_getR dX12_illBeside_94 fl_X12_34 (ws_50 hW) rfl (wp_50_15 hW) ?_
        refine Eq_ic (v := nI 5) dX12_illBeside_97 rfl ?_
        refine Eq_iln dX12_illBeside_98 rfl ?_
        refine Eq_ast dX12_illBeside_99 (ws_59 hW) (by omega) (by omega) ?_
        refine Eq_aln dX12_illBeside_100 rfl ?_
        refine Eq_aln dX12_illBeside_101 rfl ?_
        refine Eq_getI dX12_illBeside_102 fl_X12_49 (ws_50 hW) rfl hho ?_
        refine Eq_W1 (N := m_X12_worthOf) dX12_illBeside_105 lk_X12_355 mV_X12_worthOf (r_worthOf W6 (hL.fx k6 (by decide)) hT) (by decide) (ws_50 hW) rfl (by decide) (Nat.le_of_ble_eq_true rfl) (Nat.le_of_ble_eq_true rfl) (fun vq hq1 hq2 => ?_)
        obtain ⟨rfl, hf2⟩ := hq2
        refine Eq_ir dX12_illBeside_108 rfl ?_
        exact ⟨by rw [wth_cong hws hT]; rfl, k6.tr (hf2.mono (by decide) (by decide))⟩
set_option maxHeartbeats 2000000 in
theorem r_illOf_lp {n : Nat} {g : Bool} {F : Nat → Nat → Nat} {S T : Nat → Nat} {hold : Option Nat} {hm : Option (List (Tks × Tks))} {h0 : am_H} : ∀ k j h, j + k = n → Wd h → RB h n g F S T → RHd h hold hm → Fx [59, 60] [] h0 h → ∀ l3, am_E 6 m_X12_illOf 4 [some (.ref 50), some (.int (ils hm n g F S j)), some (.int (nI j)), l3] [] h (fun w h2 => w = some (.int (ils hm n g F S n)) ∧ Fx [59, 60] [] h0 h2) := by
  intro k
  induction k with
  | zero =>
    intro j h hj hW hR hq hf l3
    have h7 := hR.2.2.1
    have hjn : j = n := by omega
    subst hjn
    refine Eq_iln dX12_illOf_4 rfl ?_
    refine Eq_aln dX12_illOf_5 rfl ?_
    refine Eq_getI dX12_illOf_6 fl_X12_252 (ws_50 hW) rfl hR.1 ?_
    refine Et_ic_ge 49 dX12_illOf_9 rfl (by exact nI_le (by omega) (by omega)) ?_
    refine Eq_iln dX12_illOf_49 rfl ?_
    refine Eq_ir dX12_illOf_50 rfl ?_
    exact ⟨rfl, hf⟩
  | succ k ih =>
    intro j h hj hW hR hq hf l3
    have h7 := hR.2.2.1
    cases hl : lf n g j with
    | none =>
      rw [← ils_n (hm := hm) (F := F) (S := S) hl]
      refine Eq_iln dX12_illOf_4 rfl ?_
      refine Eq_aln dX12_illOf_5 rfl ?_
      refine Eq_getI dX12_illOf_6 fl_X12_252 (ws_50 hW) rfl hR.1 ?_
      refine Ef_ic_ge dX12_illOf_9 (tgt := 49) rfl (by exact nI_ge (by omega) (by omega)) ?_
      refine Eq_aln dX12_illOf_12 rfl ?_
      refine Eq_iln dX12_illOf_13 rfl ?_
      refine Eq_V1 (N := m_X12_leftOf) dX12_illOf_14 lk_X12_279 mV_X12_leftOf ((by have z := r_leftOf hW hR (s := j) (by omega); rw [hl] at z; exact z)) (by decide) (ws_50 hW) rfl (by decide) (Nat.le_of_ble_eq_true rfl) (Nat.le_of_ble_eq_true rfl) ?_
      refine Eq_isn dX12_illOf_17 (by decide) ?_
      refine Eam_nl (pc' := 18) (l' := [_, _, _, _]) rfl rfl ?_
      refine Eq_iln dX12_illOf_18 rfl ?_
      refine Eq_ic (v := -1) dX12_illOf_19 rfl ?_
      refine Et_ic_eq 43 dX12_illOf_20 rfl (by rfl) ?_
      refine Eq_inc dX12_illOf_43 rfl (by decide) ?_
      refine Eam_nl (pc' := 46) (l' := [_, _, _, _]) rfl rfl ?_
      refine Eam_x_goto (tgt := 4) dX12_illOf_46 rfl ?_
      exact ih (j + 1) h (by omega) hW hR hq hf _
    | some l =>
      have hln := lf_lt (by omega) hl
      have hSl := hR.S l hln
      have hSj := hR.S j (by omega)
      refine Eq_iln dX12_illOf_4 rfl ?_
      refine Eq_aln dX12_illOf_5 rfl ?_
      refine Eq_getI dX12_illOf_6 fl_X12_252 (ws_50 hW) rfl hR.1 ?_
      refine Ef_ic_ge dX12_illOf_9 (tgt := 49) rfl (by exact nI_ge (by omega) (by omega)) ?_
      refine Eq_aln dX12_illOf_12 rfl ?_
      refine Eq_iln dX12_illOf_13 rfl ?_
      refine Eq_V1 (N := m_X12_leftOf) dX12_illOf_14 lk_X12_279 mV_X12_leftOf ((by have z := r_leftOf hW hR (s := j) (by omega); rw [hl] at z; exact z)) (by decide) (ws_50 hW) rfl (by decide) (Nat.le_of_ble_eq_true rfl) (Nat.le_of_ble_eq_true rfl) ?_
      refine Eq_isn dX12_illOf_17 (by decide) ?_
      refine Eam_nl (pc' := 18) (l' := [_, _, _, _]) rfl rfl ?_
      refine Eq_iln dX12_illOf_18 rfl ?_
      refine Eq_ic (v := -1) dX12_illOf_19 rfl ?_
      refine Ef_ic_eq dX12_illOf_20 (tgt := 43) rfl (by exact nI_m1 (by omega)) ?_
      refine Eq_iln dX12_illOf_23 rfl ?_
      refine Eq_aln dX12_illOf_24 rfl ?_
      refine Eq_aln dX12_illOf_25 rfl ?_
      refine Eq_getR dX12_illOf_26 fl_X12_46 (ws_50 hW) rfl (wp_50_23 hW) ?_
      refine Eq_iln dX12_illOf_29 rfl ?_
      refine Eq_ald dX12_illOf_30 (ws_63 hW) (by omega) (by omega) (by first | exact (hR.2.2.2.2.2.1 l hln).1 | exact (hR.2.2.2.2.2.1 j (by omega)).1) ?_
      refine Eq_aln dX12_illOf_31 rfl ?_
      refine Eq_getR dX12_illOf_32 fl_X12_46 (ws_50 hW) rfl (wp_50_23 hW) ?_
      refine Eq_iln dX12_illOf_35 rfl ?_
      refine Eq_ald dX12_illOf_36 (ws_63 hW) (by omega) (by omega) (by first | exact (hR.2.2.2.2.2.1 l hln).1 | exact (hR.2.2.2.2.2.1 j (by omega)).1) ?_
      refine Eq_iln dX12_illOf_37 rfl ?_
      refine Eq_W3 (N := m_X12_illBeside) dX12_illOf_38 lk_X12_352 mV_X12_illBeside (r_illBeside hW hR hq hSl hSj) (by decide) (ws_50 hW) rfl (by decide) (Nat.le_of_ble_eq_true rfl) (Nat.le_of_ble_eq_true rfl) (fun vq hq1 hq2 => ?_)
      obtain ⟨rfl, hf2⟩ := hq2
      refine Eam_x_pu dX12_illOf_41 rfl ?_
      rw [← ils_s (hm := hm) (F := F) (S := S) hl]
      refine Eq_isn dX12_illOf_42 (by decide) ?_
      refine Eam_nl (pc' := 43) (l' := [_, _, _, _]) rfl rfl ?_
      refine Eq_inc dX12_illOf_43 rfl (by decide) ?_
      refine Eam_nl (pc' := 46) (l' := [_, _, _, _]) rfl rfl ?_
      refine Eam_x_goto (tgt := 4) dX12_illOf_46 rfl ?_
      exact ih (j + 1) hq1 (by omega) (hf2.Wd hW) (hR.fx hf2 (by decide)) (hq.fx hf2 (by decide)) (hf.tr hf2) _
set_option maxHeartbeats 2000000 in
theorem r_illOf {h : am_H} {n : Nat} {g : Bool} {F : Nat → Nat → Nat} {S T : Nat → Nat} (hW : Wd h) (hR : RB h n g F S T) {hold : Option Nat} {hm : Option (List (Tks × Tks))} (hq : RHd h hold hm)  : am_D 6 m_X12_illOf [.ref 50] h (fun w h2 => w = some (.int (ils hm n g F S n)) ∧ Fx [59, 60] [] h h2) := by
  refine Eq_ic (v := nI 0) dX12_illOf_0 rfl ?_
  refine Eq_isn dX12_illOf_1 (by decide) ?_
  refine Eam_nl (pc' := 2) (l' := [_, _, _, _]) rfl rfl ?_
  refine Eq_ic (v := nI 0) dX12_illOf_2 rfl ?_
  refine Eq_isn dX12_illOf_3 (by decide) ?_
  refine Eam_nl (pc' := 4) (l' := [_, _, _, _]) rfl rfl ?_
  exact r_illOf_lp (h0 := h) n 0 h (by omega) hW hR hq Fx.rf _
set_option maxHeartbeats 2000000 in
theorem r_ill {h : am_H} {n : Nat} {g : Bool} {F : Nat → Nat → Nat} {S T : Nat → Nat} (hW : Wd h) (hR : RB h n g F S T) {hold : Option Nat} {hm : Option (List (Tks × Tks))} (hq : RHd h hold hm)  : am_D 7 m_X12_ill [.ref 50] h (fun w h2 => w = some (.int (if n = 0 then -100000000 else ils hm n g F S n)) ∧ Fx [59, 60] [] h h2) := by
  have h7 := hR.2.2.1
  by_cases h0 : n = 0
  · rw [if_pos h0]
    refine Eq_aln dX12_ill_0 rfl ?_
    refine Eq_getI dX12_ill_1 fl_X12_252 (ws_50 hW) rfl hR.1 ?_
    refine Ef_if_ne dX12_ill_4 (tgt := 13) rfl (by rw [h0]; rfl) ?_
    refine Eam_x_ldcw dX12_ill_7 kc_X12_358 ?_
    refine Eam_x_goto (tgt := 17) dX12_ill_10 rfl ?_
    refine Eq_ir dX12_ill_17 rfl ?_
    exact ⟨rfl, Fx.rf⟩
  · rw [if_neg h0]
    refine Eq_aln dX12_ill_0 rfl ?_
    refine Eq_getI dX12_ill_1 fl_X12_252 (ws_50 hW) rfl hR.1 ?_
    refine Et_if_ne 13 dX12_ill_4 rfl (by exact fun z => h0 ((n_0 (by omega)).mp z)) ?_
    refine Eq_aln dX12_ill_13 rfl ?_
    refine Eq_W0 (N := m_X12_illOf) dX12_ill_14 lk_X12_359 mV_X12_illOf (r_illOf hW hR hq) (by decide) (ws_50 hW) rfl (by decide) (Nat.le_of_ble_eq_true rfl) (Nat.le_of_ble_eq_true rfl) (fun vq hq1 hq2 => ?_)
    obtain ⟨rfl, hf2⟩ := hq2
    refine Eq_ir dX12_ill_17 rfl ?_
    exact ⟨rfl, hf2⟩
