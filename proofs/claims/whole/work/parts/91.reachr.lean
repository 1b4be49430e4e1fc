/-! the reference's changes -/
abbrev L_ (n i : Nat) : List Nat := (LX n).getD i []
abbrev N_ (n : Nat) : Nat := (LX n).length
theorem L_lt {n : Nat} (h7 : n ≤ 7) {i j : Nat} (hj : j < N_ n) (hij : i < j) : dgl n (L_ n i) < dgl n (L_ n j) := LX_lt h7 hj hij
theorem L_PL {n : Nat} {i : Nat} (hi : i < N_ n) : PL n (L_ n i) := LX_PL hi
theorem L_ix {n : Nat} {l : List Nat} (h : PL n l) : ∃ i, i < N_ n ∧ L_ n i = l := LX_ix h
theorem L_inj {n : Nat} (h7 : n ≤ 7) {i j : Nat} (hi : i < N_ n) (hj : j < N_ n) (e : L_ n i = L_ n j) : i = j := by
  rcases Nat.lt_trichotomy i j with z | z | z
  · have := L_lt h7 hj z; rw [e] at this; omega
  · exact z
  · have := L_lt h7 hi z; rw [e] at this; omega
theorem SLs.at {h : am_H} {n : Nat} (m : SLs h ((LX n).map (dgl n))) {i : Nat} (hi : i < N_ n) : am_i h 66 i = nI (dgl n (L_ n i)) := by
  have := m.2.2 i (by rw [List.length_map]; exact hi)
  rw [this]
  congr 1
  show ((LX n).map (dgl n)).getD i 0 = dgl n ((LX n).getD i [])
  rw [List.getD_eq_getElem?_getD, List.getD_eq_getElem?_getD, List.getElem?_map, List.getElem?_eq_getElem hi]
  rfl
theorem SLs.n {h : am_H} {n : Nat} (m : SLs h ((LX n).map (dgl n))) : am_i h 50 33 = nI (N_ n) ∧ N_ n ≤ 5040 := by
  have h1 := m.1
  have h2 := m.2.1
  rw [List.length_map] at h1 h2
  exact ⟨h1, h2⟩
theorem N_pos {n : Nat} : 0 < N_ n := by
  have := lvx_ne (n := n) (k := n) (pre := []) List.nodup_nil (fun x hx => by cases hx) (by simp)
  exact List.length_pos_iff.mpr this
set_option maxHeartbeats 2000000 in
theorem r_num_lp {h : am_H} {n : Nat} (hW : Wd h) (h7 : n ≤ 7) (hQ : SLs h ((LX n).map (dgl n))) {k : Nat} (hk : k < N_ n) : ∀ q lo hi, hi - lo ≤ q → lo ≤ k → k ≤ hi → hi < N_ n → ∀ l4, am_Sem 0 m_X12_numberOf 9 [some (.ref 50), some (.int (nI (dgl n (L_ n k)))), some (.int (nI lo)), some (.int (nI hi)), l4] [] h (some (.int (nI k)), h) := by
  obtain ⟨hn, hN⟩ := hQ.n
  have hdk := dgl_lt h7 (L_PL hk).2.1 (L_PL hk).2.2
  intro q
  induction q with
  | zero =>
    intro lo hi hq h1 h2 h3 l4
    have e : lo = k := by omega
    subst e
    refine q_iln dX12_numberOf_9 rfl ?_
    refine q_iln dX12_numberOf_10 rfl ?_
    refine t_ic_ge 46 dX12_numberOf_11 rfl (by exact nI_le (by omega) (by omega)) ?_
    refine q_iln dX12_numberOf_46 rfl ?_
    refine q_ir dX12_numberOf_47 rfl ?_
    rfl
  | succ q ih =>
    intro lo hi hq h1 h2 h3 l4
    by_cases e : lo = hi
    · have e : lo = k := by omega
      subst e
      refine q_iln dX12_numberOf_9 rfl ?_
      refine q_iln dX12_numberOf_10 rfl ?_
      refine t_ic_ge 46 dX12_numberOf_11 rfl (by exact nI_le (by omega) (by omega)) ?_
      refine q_iln dX12_numberOf_46 rfl ?_
      refine q_ir dX12_numberOf_47 rfl ?_
      rfl
    · have hm : (lo + hi) / 2 < N_ n := by omega
      have hv := hQ.at hm
      have hdm := dgl_lt h7 (L_PL hm).2.1 (L_PL hm).2.2
      by_cases hc : (lo + hi) / 2 < k
      · have hlt := L_lt h7 hk hc
        refine q_iln dX12_numberOf_9 rfl ?_
        refine q_iln dX12_numberOf_10 rfl ?_
        refine f_ic_ge dX12_numberOf_11 (tgt := 46) rfl (by exact nI_ge (by omega) (by omega)) ?_
        refine q_iln dX12_numberOf_14 rfl ?_
        refine q_iln dX12_numberOf_15 rfl ?_
        first | refine q_add dX12_numberOf_16 ?_ | refine am_x_pu dX12_numberOf_16 rfl ?_
        refine q_ic (v := nI 2) dX12_numberOf_17 rfl ?_
        first | refine q_div dX12_numberOf_18 (by omega) (by omega) (by omega) ?_ | refine am_x_idiv dX12_numberOf_18 (by decide) ?_
        refine q_is dX12_numberOf_19 (by decide) ?_
        refine am_nl (pc' := 21) (l' := [_, _, _, _, _]) rfl rfl ?_
        refine q_aln dX12_numberOf_21 rfl ?_
        refine q_getR dX12_numberOf_22 fl_X12_60 (ws_50 hW) rfl (wp_50_31 hW) ?_
        refine q_il dX12_numberOf_25 rfl ?_
        refine q_ald dX12_numberOf_27 (ws_66 hW) (by omega) (by omega) hv ?_
        refine q_iln dX12_numberOf_28 rfl ?_
        refine f_ic_ge dX12_numberOf_29 (tgt := 40) rfl (by exact nI_ge (by omega) (by omega)) ?_
        refine q_il dX12_numberOf_32 rfl ?_
        refine q_ic (v := nI 1) dX12_numberOf_34 rfl ?_
        first | refine q_add dX12_numberOf_35 ?_ | refine am_x_pu dX12_numberOf_35 rfl ?_
        refine q_isn dX12_numberOf_36 (by decide) ?_
        refine am_nl (pc' := 37) (l' := [_, _, _, _, _]) rfl rfl ?_
        refine am_x_goto (tgt := 43) dX12_numberOf_37 rfl ?_
        refine am_x_goto (tgt := 9) dX12_numberOf_43 rfl ?_
        exact ih ((lo + hi) / 2 + 1) hi (by omega) (by omega) h2 h3 _
      · have hle : dgl n (L_ n k) ≤ dgl n (L_ n ((lo + hi) / 2)) := by
          by_cases e2 : k = (lo + hi) / 2
          · rw [← e2]; exact Nat.le_refl _
          · have := L_lt h7 hm (show k < (lo + hi) / 2 by omega); omega
        refine q_iln dX12_numberOf_9 rfl ?_
        refine q_iln dX12_numberOf_10 rfl ?_
        refine f_ic_ge dX12_numberOf_11 (tgt := 46) rfl (by exact nI_ge (by omega) (by omega)) ?_
        refine q_iln dX12_numberOf_14 rfl ?_
        refine q_iln dX12_numberOf_15 rfl ?_
        first | refine q_add dX12_numberOf_16 ?_ | refine am_x_pu dX12_numberOf_16 rfl ?_
        refine q_ic (v := nI 2) dX12_numberOf_17 rfl ?_
        first | refine q_div dX12_numberOf_18 (by omega) (by omega) (by omega) ?_ | refine am_x_idiv dX12_numberOf_18 (by decide) ?_
        refine q_is dX12_numberOf_19 (by decide) ?_
        refine am_nl (pc' := 21) (l' := [_, _, _, _, _]) rfl rfl ?_
        refine q_aln dX12_numberOf_21 rfl ?_
        refine q_getR dX12_numberOf_22 fl_X12_60 (ws_50 hW) rfl (wp_50_31 hW) ?_
        refine q_il dX12_numberOf_25 rfl ?_
        refine q_ald dX12_numberOf_27 (ws_66 hW) (by omega) (by omega) hv ?_
        refine q_iln dX12_numberOf_28 rfl ?_
        refine t_ic_ge 40 dX12_numberOf_29 rfl (by exact nI_le (by omega) (by omega)) ?_
        refine q_il dX12_numberOf_40 rfl ?_
        refine q_isn dX12_numberOf_42 (by decide) ?_
        refine am_nl (pc' := 43) (l' := [_, _, _, _, _]) rfl rfl ?_
        refine am_x_goto (tgt := 9) dX12_numberOf_43 rfl ?_
        exact ih lo ((lo + hi) / 2) (by omega) h1 (by omega) hm _
set_option maxHeartbeats 2000000 in
theorem r_numberOf {h : am_H} {n : Nat} (hW : Wd h) (h7 : n ≤ 7) (hQ : SLs h ((LX n).map (dgl n))) {k : Nat} (hk : k < N_ n) : am_C 0 m_X12_numberOf [.ref 50, .int (nI (dgl n (L_ n k)))] h (some (.int (nI k)), h) := by
  obtain ⟨hn, hN⟩ := hQ.n
  refine q_ic (v := nI 0) dX12_numberOf_0 rfl ?_
  refine q_isn dX12_numberOf_1 (by decide) ?_
  refine am_nl (pc' := 2) (l' := [_, _, _, _, _]) rfl rfl ?_
  refine q_aln dX12_numberOf_2 rfl ?_
  refine q_getI dX12_numberOf_3 fl_X12_362 (ws_50 hW) rfl hn ?_
  refine q_ic (v := nI 1) dX12_numberOf_6 rfl ?_
  first | refine q_sub dX12_numberOf_7 (by omega) ?_ | refine am_x_pu dX12_numberOf_7 rfl ?_
  refine q_isn dX12_numberOf_8 (by decide) ?_
  refine am_nl (pc' := 9) (l' := [_, _, _, _, _]) rfl rfl ?_
  exact r_num_lp hW h7 hQ hk (N_ n) 0 (N_ n - 1) (by omega) (by omega) (by omega) (by omega) none
/-- how far each is -/
def AW (h : am_H) (n : Nat) (A : Nat → Option Nat) : Prop := ∀ i, i < N_ n → am_i h 67 i = oN (A i) ∧ ∀ e, A i = some e → e < 100000
theorem AW.fx {A : List Nat} {B : List (Nat × Nat)} {h h' : am_H} {n : Nat} {aw : Nat → Option Nat} (m : AW h n aw) (a : Fx A B h h') (h1 : 67 ∉ A) (h2 : 67 ∉ B.map Prod.fst) : AW h' n aw := by
  unfold AW at m ⊢
  rw [a.ia h1 h2]
  exact m
def upO (A : Nat → Option Nat) (o : Nat) (v : Option Nat) : Nat → Option Nat := fun i => if i = o then v else A i
theorem AW.put {h : am_H} {n : Nat} {A : Nat → Option Nat} (m : AW h n A) {o v : Nat} (hv : v < 100000) : AW (am_wI h 67 o (nI v)) n (upO A o (some v)) := fun i hi => by
  unfold upO
  rw [wI_eq]
  by_cases e : i = o
  · rw [if_pos e, if_pos e]; exact ⟨rfl, fun x hx => by cases hx; exact hv⟩
  · rw [if_neg e, if_neg e]; exact m i hi
def nbk (n : Nat) (g : Bool) (l : List Nat) (j : Nat) (x : List Nat) : Prop := ∃ s t, s < j ∧ lf n g s = some t ∧ x = nbl n l s t
theorem nbk_n {n : Nat} {g : Bool} {l x : List Nat} : nbk n g l n x ↔ nb n g l x := Iff.rfl
/-- what is reached of those that are not yet, by the seats ahead of j -/
def RO (n : Nat) (g : Bool) (l : List Nat) (fr : Nat) (A : Nat → Option Nat) (j : Nat) (A' : Nat → Option Nat) (b : Bool) : Prop := (∀ i, i < N_ n → (A i ≠ none → A' i = A i) ∧ (A i = none → (nbk n g l j (L_ n i) → A' i = some fr) ∧ (¬ nbk n g l j (L_ n i) → A' i = none))) ∧ (b = true ↔ ∃ i, i < N_ n ∧ A i = none ∧ nbk n g l j (L_ n i))
theorem RO.zero {n : Nat} {g : Bool} {l : List Nat} {fr : Nat} {A : Nat → Option Nat} : RO n g l fr A 0 A false := ⟨fun i _ => ⟨fun _ => rfl, fun h => ⟨fun ⟨s, t, z, _⟩ => by omega, fun _ => h⟩⟩, ⟨fun z => (nomatch z), fun ⟨i, _, _, s, t, z, _⟩ => by omega⟩⟩
theorem nbk_none {n : Nat} {g : Bool} {l x : List Nat} {j : Nat} (h : lf n g j = none) : nbk n g l (j + 1) x ↔ nbk n g l j x := by
  constructor
  · rintro ⟨s, t, h1, h2, h3⟩
    refine ⟨s, t, ?_, h2, h3⟩
    have : s ≠ j := fun e => by rw [e, h] at h2; cases h2
    omega
  · rintro ⟨s, t, h1, h2, h3⟩
    exact ⟨s, t, by omega, h2, h3⟩
theorem nbk_some {n : Nat} {g : Bool} {l x : List Nat} {j t0 : Nat} (h : lf n g j = some t0) : nbk n g l (j + 1) x ↔ nbk n g l j x ∨ x = nbl n l j t0 := by
  constructor
  · rintro ⟨s, t, h1, h2, h3⟩
    by_cases e : s = j
    · rw [e, h] at h2; cases h2; rw [e] at h3; exact Or.inr h3
    · exact Or.inl ⟨s, t, by omega, h2, h3⟩
  · rintro (⟨s, t, h1, h2, h3⟩ | z)
    · exact ⟨s, t, by omega, h2, h3⟩
    · exact ⟨j, t0, by omega, h, z⟩
theorem RO.skip {n : Nat} {g : Bool} {l : List Nat} {fr : Nat} {A A' : Nat → Option Nat} {j : Nat} {b : Bool} (m : RO n g l fr A j A' b) (h : lf n g j = none) : RO n g l fr A (j + 1) A' b := by
  unfold RO at m ⊢
  simp only [nbk_none h]
  exact m
theorem RO.put {n : Nat} (h7 : n ≤ 7) {g : Bool} {l : List Nat} {fr : Nat} {A A' : Nat → Option Nat} {j t o : Nat} {b : Bool} (m : RO n g l fr A j A' b) (h : lf n g j = some t) (ho : o < N_ n) (hl : L_ n o = nbl n l j t) (hn : A' o = none) : RO n g l fr A (j + 1) (upO A' o (some fr)) true := by
  have hAo : A o = none := Classical.byContradiction (fun z => by rw [(m.1 o ho).1 z] at hn; exact z hn)
  refine ⟨fun i hi => ⟨fun z => ?_, fun z => ⟨fun y => ?_, fun y => ?_⟩⟩, ⟨fun _ => ⟨o, ho, hAo, (nbk_some h).mpr (Or.inr hl)⟩, fun _ => rfl⟩⟩
  · unfold upO
    rw [if_neg (fun e => z (by rw [e]; exact hAo))]
    exact (m.1 i hi).1 z
  · unfold upO
    by_cases e : i = o
    · rw [if_pos e]
    · rw [if_neg e]
      rcases (nbk_some h).mp y with q | q
      · exact ((m.1 i hi).2 z).1 q
      · exact absurd (L_inj h7 hi ho (q.trans hl.symm)) e
  · unfold upO
    rw [if_neg (fun e => y ((nbk_some h).mpr (Or.inr (by rw [e]; exact hl))))]
    exact ((m.1 i hi).2 z).2 (fun q => y ((nbk_some h).mpr (Or.inl q)))
theorem RO.keep {n : Nat} (h7 : n ≤ 7) {g : Bool} {l : List Nat} {fr : Nat} {A A' : Nat → Option Nat} {j t o : Nat} {b : Bool} (m : RO n g l fr A j A' b) (h : lf n g j = some t) (ho : o < N_ n) (hl : L_ n o = nbl n l j t) (hn : A' o ≠ none) : RO n g l fr A (j + 1) A' b := by
  have hco : A o = none → nbk n g l j (L_ n o) := fun z => Classical.byContradiction (fun y => hn (((m.1 o ho).2 z).2 y))
  have heq : ∀ i, i < N_ n → A i = none → (nbk n g l (j + 1) (L_ n i) ↔ nbk n g l j (L_ n i)) := fun i hi z => by
    rw [nbk_some h]
    refine ⟨fun y => y.elim id (fun q => ?_), Or.inl⟩
    have e := L_inj h7 hi ho (q.trans hl.symm)
    subst e
    exact hco z
  refine ⟨fun i hi => ⟨(m.1 i hi).1, fun z => ?_⟩, ?_⟩
  · rw [heq i hi z]
    exact (m.1 i hi).2 z
  · rw [m.2]
    constructor
    · rintro ⟨i, a1, a2, a3⟩
      exact ⟨i, a1, a2, (heq i a1 a2).mpr a3⟩
    · rintro ⟨i, a1, a2, a3⟩
      exact ⟨i, a1, a2, (heq i a1 a2).mp a3⟩
set_option maxHeartbeats 2000000 in
theorem r_ro_lp {n : Nat} {g : Bool} {F : Nat → Nat → Nat} (h7 : n ≤ 7) {l : List Nat} (hl : PL n l) {fr : Nat} (hfr : fr < 100000) {A : Nat → Option Nat} {h0 : am_H} : ∀ q j A' b h T, j + q = n → Wd h → RB h n g F (sl l) T → SLs h ((LX n).map (dgl n)) → AW h n A' → RO n g l fr A j A' b → Fx [63, 67] [] h0 h → ∀ l4 l5, am_E 1 m_X12_reachOn 4 [some (.ref 50), some (.int (nI fr)), some (.int (nI (if b = true then 1 else 0))), some (.int (nI j)), l4, l5] [] h (fun v h2 => ∃ A' b, v = some (.int (nI (if b = true then 1 else 0))) ∧ RO n g l fr A n A' b ∧ AW h2 n A' ∧ Fx [63, 67] [] h0 h2 ∧ ∃ T, RB h2 n g F (sl l) T) := by
  intro q
  induction q with
  | zero =>
    intro j A' b h T hj hW hR hQ hA hO hf l4 l5
    have hjn : j = n := by omega
    subst hjn
    refine Eq_iln dX12_reachOn_4 rfl ?_
    refine Eq_aln dX12_reachOn_5 rfl ?_
    refine Eq_getI dX12_reachOn_6 fl_X12_252 (ws_50 hW) rfl hR.1 ?_
    refine Et_ic_ge 76 dX12_reachOn_9 rfl (by exact nI_le (by omega) (by omega)) ?_
    refine Eq_iln dX12_reachOn_76 rfl ?_
    first | refine Eq_zrn dX12_reachOn_77 rfl (by first | omega | exact b2_le) ?_ | refine Eq_zr dX12_reachOn_77 rfl (by first | exact Or.inl rfl | exact Or.inr rfl | assumption) ?_
    exact ⟨A', b, rfl, hO, hA, hf, T, hR⟩
  | succ q ih =>
    intro j A' b h T hj hW hR hQ hA hO hf l4 l5
    have hlo := r_leftOf hW hR (s := j) (by omega)
    cases hlf : lf n g j with
    | none =>
      rw [hlf] at hlo
      refine Eq_iln dX12_reachOn_4 rfl ?_
      refine Eq_aln dX12_reachOn_5 rfl ?_
      refine Eq_getI dX12_reachOn_6 fl_X12_252 (ws_50 hW) rfl hR.1 ?_
      refine Ef_ic_ge dX12_reachOn_9 (tgt := 76) rfl (by exact nI_ge (by omega) (by omega)) ?_
      refine Eq_aln dX12_reachOn_12 rfl ?_
      refine Eq_iln dX12_reachOn_13 rfl ?_
      refine Eq_V1 (N := m_X12_leftOf) dX12_reachOn_14 lk_X12_279 mV_X12_leftOf (hlo) (by decide) (ws_50 hW) rfl (by decide) (Nat.le_of_ble_eq_true rfl) (Nat.le_of_ble_eq_true rfl) ?_
      refine Eq_is dX12_reachOn_17 (by decide) ?_
      refine Eam_nl (pc' := 19) (l' := [_, _, _, _, _, _]) rfl rfl ?_
      refine Eq_il dX12_reachOn_19 rfl ?_
      refine Eq_ic (v := -1) dX12_reachOn_21 rfl ?_
      refine Et_ic_eq 70 dX12_reachOn_22 rfl (by rfl) ?_
      refine Eq_inc dX12_reachOn_70 rfl (by decide) ?_
      refine Eam_nl (pc' := 73) (l' := [_, _, _, _, _, _]) rfl rfl ?_
      refine Eam_x_goto (tgt := 4) dX12_reachOn_73 rfl ?_
      exact ih (j + 1) A' b h T (by omega) hW hR hQ hA (hO.skip hlf) hf _ _
    | some t =>
      rw [hlf] at hlo
      have ht := lf_lt (show j < n by omega) hlf
      have hpn := nbl_PL hl (show j < n by omega) ht
      obtain ⟨o, ho, hol⟩ := L_ix hpn
      have hdd : dg (sw (sl l) j t) n = dgl n (L_ n o) := by
        rw [hol]
        exact dgl_lS.symm
      have hN := hQ.n.2
      have hao := hA o ho
      by_cases hn : A' o = none
      · have hv : am_i h 67 o = -1 := by rw [hao.1, hn]; rfl
        have hO2 := hO.put h7 hlf ho hol hn
        refine Eq_iln dX12_reachOn_4 rfl ?_
        refine Eq_aln dX12_reachOn_5 rfl ?_
        refine Eq_getI dX12_reachOn_6 fl_X12_252 (ws_50 hW) rfl hR.1 ?_
        refine Ef_ic_ge dX12_reachOn_9 (tgt := 76) rfl (by exact nI_ge (by omega) (by omega)) ?_
        refine Eq_aln dX12_reachOn_12 rfl ?_
        refine Eq_iln dX12_reachOn_13 rfl ?_
        refine Eq_V1 (N := m_X12_leftOf) dX12_reachOn_14 lk_X12_279 mV_X12_leftOf (hlo) (by decide) (ws_50 hW) rfl (by decide) (Nat.le_of_ble_eq_true rfl) (Nat.le_of_ble_eq_true rfl) ?_
        refine Eq_is dX12_reachOn_17 (by decide) ?_
        refine Eam_nl (pc' := 19) (l' := [_, _, _, _, _, _]) rfl rfl ?_
        refine Eq_il dX12_reachOn_19 rfl ?_
        refine Eq_ic (v := -1) dX12_reachOn_21 rfl ?_
        refine Ef_ic_eq dX12_reachOn_22 (tgt := 70) rfl (by exact nI_m1 (by omega)) ?_
        refine Eq_aln dX12_reachOn_25 rfl ?_
        refine Eq_iln (x := nI j) dX12_reachOn_26 rfl ?_
        refine Eq_il (x := nI t) dX12_reachOn_27 rfl ?_
        refine Eq_W2 (N := m_X12_swap) dX12_reachOn_29 lk_X12_294 mV_X12_swap (r_swap hW hR (i := j) (j := t) (by omega) ht) (by decide) (ws_50 hW) rfl (by decide) (Nat.le_of_ble_eq_true rfl) (Nat.le_of_ble_eq_true rfl) (fun vq hq1 hq2 => ?_)
        obtain ⟨rfl, hf2, hR2⟩ := hq2
        have hW2 := hf2.Wd hW
        have hQ2 := hQ.fx hf2 (by decide)
        refine Eq_aln dX12_reachOn_32 rfl ?_
        refine Eq_aln dX12_reachOn_33 rfl ?_
        refine Eq_V0 (N := m_X12_digits) dX12_reachOn_34 lk_X12_368 mV_X12_digits ((by have z := r_digits hW2 hR2; rw [hdd] at z; exact z)) (by decide) (ws_50 hW2) rfl (by decide) (Nat.le_of_ble_eq_true rfl) (Nat.le_of_ble_eq_true rfl) ?_
        refine Eq_V1 (N := m_X12_numberOf) dX12_reachOn_37 lk_X12_377 mV_X12_numberOf (r_numberOf hW2 h7 hQ2 ho) (by decide) (ws_50 hW2) rfl (by decide) (Nat.le_of_ble_eq_true rfl) (Nat.le_of_ble_eq_true rfl) ?_
        refine Eq_is dX12_reachOn_40 (by decide) ?_
        refine Eam_nl (pc' := 42) (l' := [_, _, _, _, _, _]) rfl rfl ?_
        have k3 : Fx [67] [] hq1 (am_wI hq1 67 o (nI fr)) := Fx.wI (Or.inl (by decide))
        refine Eq_aln dX12_reachOn_42 rfl ?_
        refine Eq_getR dX12_reachOn_43 fl_X12_63 (ws_50 hW2) rfl (wp_50_32 hW2) ?_
        refine Eq_il dX12_reachOn_46 rfl ?_
        refine Eq_ald dX12_reachOn_48 (ws_67 hW2) (by omega) (by omega) ((congrFun (hf2.ia (by decide) (by decide)) _).trans hv) ?_
        refine Eq_ic (v := -1) dX12_reachOn_49 rfl ?_
        refine Ef_ic_ne dX12_reachOn_50 (tgt := 63) rfl (by rfl) ?_
        refine Eq_aln dX12_reachOn_53 rfl ?_
        refine Eq_getR dX12_reachOn_54 fl_X12_63 (ws_50 hW2) rfl (wp_50_32 hW2) ?_
        refine Eq_il dX12_reachOn_57 rfl ?_
        refine Eq_iln dX12_reachOn_59 rfl ?_
        refine Eq_ast dX12_reachOn_60 (ws_67 hW2) (by omega) (by omega) ?_
        refine Eq_ic (v := nI 1) dX12_reachOn_61 rfl ?_
        refine Eq_isn dX12_reachOn_62 (by decide) ?_
        refine Eam_nl (pc' := 63) (l' := [_, _, _, _, _, _]) rfl rfl ?_
        refine Eq_aln dX12_reachOn_63 rfl ?_
        refine Eq_iln (x := nI j) dX12_reachOn_64 rfl ?_
        refine Eq_il (x := nI t) dX12_reachOn_65 rfl ?_
        refine Eq_W2 (N := m_X12_swap) dX12_reachOn_67 lk_X12_294 mV_X12_swap (r_swap (k3.Wd hW2) (hR2.fx k3 (by decide)) (i := j) (j := t) (by omega) ht) (by decide) (ws_50 hW2) rfl (by decide) (Nat.le_of_ble_eq_true rfl) (Nat.le_of_ble_eq_true rfl) (fun vq hq1 hq4 => ?_)
        obtain ⟨rfl, hf4, hR4⟩ := hq4
        rw [sw_sw] at hR4
        refine Eq_inc dX12_reachOn_70 rfl (by decide) ?_
        refine Eam_nl (pc' := 73) (l' := [_, _, _, _, _, _]) rfl rfl ?_
        refine Eam_x_goto (tgt := 4) dX12_reachOn_73 rfl ?_
        exact ih (j + 1) (upO A' o (some fr)) true _ _ (by omega) (hf4.Wd (k3.Wd hW2)) hR4 ((hQ2.fx k3 (by decide)).fx hf4 (by decide)) (((hA.fx hf2 (by decide) (by decide)).put hfr).fx hf4 (by decide) (by decide)) hO2 (hf.tr ((hf2.mono (by decide) (by decide)).tr ((k3.mono (by decide) (by decide)).tr (hf4.mono (by decide) (by decide))))) _ _
      · obtain ⟨e, he⟩ := Option.ne_none_iff_exists'.mp hn
        have hv : am_i h 67 o = nI e := by rw [hao.1, he]; rfl
        have hev := hao.2 e he
        have hO2 := hO.keep h7 hlf ho hol hn
        refine Eq_iln dX12_reachOn_4 rfl ?_
        refine Eq_aln dX12_reachOn_5 rfl ?_
        refine Eq_getI dX12_reachOn_6 fl_X12_252 (ws_50 hW) rfl hR.1 ?_
        refine Ef_ic_ge dX12_reachOn_9 (tgt := 76) rfl (by exact nI_ge (by omega) (by omega)) ?_
        refine Eq_aln dX12_reachOn_12 rfl ?_
        refine Eq_iln dX12_reachOn_13 rfl ?_
        refine Eq_V1 (N := m_X12_leftOf) dX12_reachOn_14 lk_X12_279 mV_X12_leftOf (hlo) (by decide) (ws_50 hW) rfl (by decide) (Nat.le_of_ble_eq_true rfl) (Nat.le_of_ble_eq_true rfl) ?_
        refine Eq_is dX12_reachOn_17 (by decide) ?_
        refine Eam_nl (pc' := 19) (l' := [_, _, _, _, _, _]) rfl rfl ?_
        refine Eq_il dX12_reachOn_19 rfl ?_
        refine Eq_ic (v := -1) dX12_reachOn_21 rfl ?_
        refine Ef_ic_eq dX12_reachOn_22 (tgt := 70) rfl (by exact nI_m1 (by omega)) ?_
        refine Eq_aln dX12_reachOn_25 rfl ?_
        refine Eq_iln (x := nI j) dX12_reachOn_26 rfl ?_
        refine Eq_il (x := nI t) dX12_reachOn_27 rfl ?_
        refine Eq_W2 (N := m_X12_swap) dX12_reachOn_29 lk_X12_294 mV_X12_swap (r_swap hW hR (i := j) (j := t) (by omega) ht) (by decide) (ws_50 hW) rfl (by decide) (Nat.le_of_ble_eq_true rfl) (Nat.le_of_ble_eq_true rfl) (fun vq hq1 hq2 => ?_)
        obtain ⟨rfl, hf2, hR2⟩ := hq2
        have hW2 := hf2.Wd hW
        have hQ2 := hQ.fx hf2 (by decide)
        refine Eq_aln dX12_reachOn_32 rfl ?_
        refine Eq_aln dX12_reachOn_33 rfl ?_
        refine Eq_V0 (N := m_X12_digits) dX12_reachOn_34 lk_X12_368 mV_X12_digits ((by have z := r_digits hW2 hR2; rw [hdd] at z; exact z)) (by decide) (ws_50 hW2) rfl (by decide) (Nat.le_of_ble_eq_true rfl) (Nat.le_of_ble_eq_true rfl) ?_
        refine Eq_V1 (N := m_X12_numberOf) dX12_reachOn_37 lk_X12_377 mV_X12_numberOf (r_numberOf hW2 h7 hQ2 ho) (by decide) (ws_50 hW2) rfl (by decide) (Nat.le_of_ble_eq_true rfl) (Nat.le_of_ble_eq_true rfl) ?_
        refine Eq_is dX12_reachOn_40 (by decide) ?_
        refine Eam_nl (pc' := 42) (l' := [_, _, _, _, _, _]) rfl rfl ?_
        refine Eq_aln dX12_reachOn_42 rfl ?_
        refine Eq_getR dX12_reachOn_43 fl_X12_63 (ws_50 hW2) rfl (wp_50_32 hW2) ?_
        refine Eq_il dX12_reachOn_46 rfl ?_
        refine Eq_ald dX12_reachOn_48 (ws_67 hW2) (by omega) (by omega) ((congrFun (hf2.ia (by decide) (by decide)) _).trans hv) ?_
        refine Eq_ic (v := -1) dX12_reachOn_49 rfl ?_
        refine Et_ic_ne 63 dX12_reachOn_50 rfl (by exact nI_m1 (by omega)) ?_
        refine Eq_aln dX12_reachOn_63 rfl ?_
        refine Eq_iln (x := nI j) dX12_reachOn_64 rfl ?_
        refine Eq_il (x := nI t) dX12_reachOn_65 rfl ?_
        refine Eq_W2 (N := m_X12_swap) dX12_reachOn_67 lk_X12_294 mV_X12_swap (r_swap hW2 hR2 (i := j) (j := t) (by omega) ht) (by decide) (ws_50 hW2) rfl (by decide) (Nat.le_of_ble_eq_true rfl) (Nat.le_of_ble_eq_true rfl) (fun vq hq1 hq4 => ?_)
        obtain ⟨rfl, hf4, hR4⟩ := hq4
        rw [sw_sw] at hR4
        refine Eq_inc dX12_reachOn_70 rfl (by decide) ?_
        refine Eam_nl (pc' := 73) (l' := [_, _, _, _, _, _]) rfl rfl ?_
        refine Eam_x_goto (tgt := 4) dX12_reachOn_73 rfl ?_
        exact ih (j + 1) A' b _ _ (by omega) (hf4.Wd hW2) hR4 (hQ2.fx hf4 (by decide)) ((hA.fx hf2 (by decide) (by decide)).fx hf4 (by decide) (by decide)) hO2 (hf.tr ((hf2.mono (by decide) (by decide)).tr (hf4.mono (by decide) (by decide)))) _ _
set_option maxHeartbeats 2000000 in
theorem r_reachOn {h : am_H} {n : Nat} {g : Bool} {F : Nat → Nat → Nat} (hW : Wd h) {l : List Nat} (hl : PL n l) {T : Nat → Nat} (hR : RB h n g F (sl l) T) (hQ : SLs h ((LX n).map (dgl n))) {A : Nat → Option Nat} (hA : AW h n A) {fr : Nat} (hfr : fr < 100000) : am_D 1 m_X12_reachOn [.ref 50, .int (nI fr)] h (fun v h2 => ∃ A' b, v = some (.int (nI (if b = true then 1 else 0))) ∧ RO n g l fr A n A' b ∧ AW h2 n A' ∧ Fx [63, 67] [] h h2 ∧ ∃ T, RB h2 n g F (sl l) T) := by
  refine Eq_ic (v := nI 0) dX12_reachOn_0 rfl ?_
  refine Eq_isn dX12_reachOn_1 (by decide) ?_
  refine Eam_nl (pc' := 2) (l' := [_, _, _, _, _, _]) rfl rfl ?_
  refine Eq_ic (v := nI 0) dX12_reachOn_2 rfl ?_
  refine Eq_isn dX12_reachOn_3 (by decide) ?_
  refine Eam_nl (pc' := 4) (l' := [_, _, _, _, _, _]) rfl rfl ?_
  exact r_ro_lp hR.2.2.1 hl hfr n 0 A false h T (by omega) hW hR hQ hA RO.zero Fx.rf none none
