/-! the class's worths, laid for the search -/
theorem FLa {h : am_H} {q : Option (Nat × Nat × Nat × List (Tks × Tks))} (hq : CHd h q) {A : List Nat} {x : Nat} (hA : x ∉ A) (h1 : x < 80) (h2 : x ≠ 21) : x ∉ A ++ FL q := fun z => (List.mem_append.mp z).elim hA (FLn hq h1 h2)
theorem MB.fl {h hx h' : am_H} {n : Nat} {g : Bool} {F : Nat → Nat → Nat} {q : Option (Nat × Nat × Nat × List (Tks × Tks))} {A : List Nat} {B : List (Nat × Nat)} (m : MB h n g F) (hq : CHd hx q) (a : Fx (A ++ FL q) B h h') (h1 : 9 ∉ A ∧ 10 ∉ A ∧ (9, 0) ∉ B ∧ (9, 1) ∉ B ∧ 10 ∉ B.map Prod.fst) : MB h' n g F := m.fx a ⟨FLa hq h1.1 (by decide) (by decide), FLa hq h1.2.1 (by decide) (by decide), h1.2.2⟩
theorem CHd.fl {h h' : am_H} {q : Option (Nat × Nat × Nat × List (Tks × Tks))} {A : List Nat} {B : List (Nat × Nat)} (m : CHd h q) (a : Fx (A ++ FL q) B h h') (hA : ∀ x ∈ A, x < 80) (hB : ∀ x ∈ B, x.1 < 80) : CHd h' q := m.fx a (fun x hx => (List.mem_append.mp hx).elim (fun z => Or.inl (hA x z)) Or.inr) hB
theorem CHd.HT {h : am_H} {q : Option (Nat × Nat × Nat × List (Tks × Tks))} (m : CHd h q) : HT (hmo q) := fun M hM c hc => by
  cases q with
  | none => cases hM
  | some z => cases hM; exact m.2.2 c hc
theorem zI_min (a b : Int) (a1 : -2 ^ 31 ≤ a) (a2 : a < 2 ^ 31) (b1 : -2 ^ 31 ≤ b) (b2 : b < 2 ^ 31) : (if zI b < zI a then zI b else zI a) = zI (min a b) := by
  by_cases h : b < a
  · rw [if_pos ((zI_lt b1 b2 a1 a2).mpr h), Int.min_eq_right (by omega)]
  · rw [if_neg (fun z => h ((zI_lt b1 b2 a1 a2).mp z)), Int.min_eq_left (by omega)]
def anI (st : Option Int) : Int32 := match st with
  | none => nI 0
  | some _ => nI 1
def leI (st : Option Int) : Int32 := match st with
  | none => nI 0
  | some x => zI x
/-- worths on seat s laid for the pairs ahead of (a, j), the others' kept -/
def FWs (h0 h : am_H) (hm : Option (List (Tks × Tks))) (F : Nat → Nat → Nat) (n s a j : Nat) : Prop := (∀ a' b, a' < n → b < n → a' ≠ b → (a' < a ∨ a' = a ∧ b < j) → am_i h 22 ((a' * 7 + b) * 7 + s) = pwt hm F a' b s) ∧ ∀ a' b s', b < 7 → s' < 7 → s' ≠ s → am_i h 22 ((a' * 7 + b) * 7 + s') = am_i h0 22 ((a' * 7 + b) * 7 + s')
set_option maxHeartbeats 2000000 in
theorem c_fwa_in {q : Option (Nat × Nat × Nat × List (Tks × Tks))} {n : Nat} {g : Bool} {F : Nat → Nat → Nat} (hF : FS n F) {h0 : am_H} {s a : Nat} (hs : s < 7) (ha : a < n) (h7 : n ≤ 7) (kk : ∀ h l5 l6, Wd h → MB h n g F → CHd h q → Fx ([22] ++ FL q) [] h0 h → FWs h0 h (hmo q) F n s (a + 1) 0 → am_E 4 m_X0_fillWorthsAt 7 [some (.ref 20), some (.int (nI s)), some (.int (anI (lsl (fun a b => pI (hmo q) F a b s) n (a + 1)))), some (.int (leI (lsl (fun a b => pI (hmo q) F a b s) n (a + 1)))), some (.int (nI (a + 1))), l5, l6] [] h (fun w h2 => w = some (.int (zI (mnS (hmo q) F n s))) ∧ Fx ([22] ++ FL q) [] h0 h2 ∧ FWs h0 h2 (hmo q) F n s n 0)) : ∀ k j h, j + k = n → Wd h → MB h n g F → CHd h q → Fx ([22] ++ FL q) [] h0 h → FWs h0 h (hmo q) F n s a j → ∀ l6, am_E 4 m_X0_fillWorthsAt 22 [some (.ref 20), some (.int (nI s)), some (.int (anI (lsr (fun b => pI (hmo q) F a b s) a j (lsl (fun a b => pI (hmo q) F a b s) n a)))), some (.int (leI (lsr (fun b => pI (hmo q) F a b s) a j (lsl (fun a b => pI (hmo q) F a b s) n a)))), some (.int (nI a)), some (.int (nI j)), l6] [] h (fun w h2 => w = some (.int (zI (mnS (hmo q) F n s))) ∧ Fx ([22] ++ FL q) [] h0 h2 ∧ FWs h0 h2 (hmo q) F n s n 0) := by
  intro k
  induction k with
  | zero =>
    intro j h hj hW hM hq hf hw l6
    have hjn : j = n := by omega
    subst hjn
    refine Eq_il dX0_fillWorthsAt_22 rfl ?_
    refine Eq_aln dX0_fillWorthsAt_24 rfl ?_
    refine Eq_getR dX0_fillWorthsAt_25 fl_X0_9 (ws_20 hW) rfl (wp_20_0 hW) ?_
    refine Eq_getI dX0_fillWorthsAt_28 fl_X0_53 (ws_9 hW) rfl hM.1 ?_
    refine Et_ic_ge 121 dX0_fillWorthsAt_31 rfl (by exact nI_le (by omega) (by omega)) ?_
    refine Eq_inc dX0_fillWorthsAt_121 rfl (by decide) ?_
    refine Eam_nl (pc' := 124) (l' := [_, _, _, _, _, _, _]) rfl rfl ?_
    refine Eam_x_goto (tgt := 7) dX0_fillWorthsAt_124 rfl ?_
    exact kk h _ _ hW hM hq hf ⟨fun a' b h1 h2 h3 h4 => hw.1 a' b h1 h2 h3 (by omega), hw.2⟩
  | succ k ih =>
    intro j h hj hW hM hq hf hw l6
    have hT := hq.HT
    by_cases e : a = j
    · have e2 : lsr (fun b => pI (hmo q) F a b s) a (j + 1) (lsl (fun a b => pI (hmo q) F a b s) n a) = lsr (fun b => pI (hmo q) F a b s) a j (lsl (fun a b => pI (hmo q) F a b s) n a) := if_pos e
      have ih2 := ih (j + 1) h (by omega) hW hM hq hf ⟨fun a' b h1 h2 h3 h4 => hw.1 a' b h1 h2 h3 (by omega), hw.2⟩
      rw [e2] at ih2
      refine Eq_il dX0_fillWorthsAt_22 rfl ?_
      refine Eq_aln dX0_fillWorthsAt_24 rfl ?_
      refine Eq_getR dX0_fillWorthsAt_25 fl_X0_9 (ws_20 hW) rfl (wp_20_0 hW) ?_
      refine Eq_getI dX0_fillWorthsAt_28 fl_X0_53 (ws_9 hW) rfl hM.1 ?_
      refine Ef_ic_ge dX0_fillWorthsAt_31 (tgt := 121) rfl (by exact nI_ge (by omega) (by omega)) ?_
      refine Eq_il dX0_fillWorthsAt_34 rfl ?_
      refine Eq_bp (v := nI 7) dX0_fillWorthsAt_36 rfl ?_
      first | refine Eq_mul dX0_fillWorthsAt_38 ?_ | refine Eam_x_pu dX0_fillWorthsAt_38 rfl ?_
      refine Eq_il dX0_fillWorthsAt_39 rfl ?_
      first | refine Eq_add dX0_fillWorthsAt_41 ?_ | refine Eam_x_pu dX0_fillWorthsAt_41 rfl ?_
      refine Eq_bp (v := nI 7) dX0_fillWorthsAt_42 rfl ?_
      first | refine Eq_mul dX0_fillWorthsAt_44 ?_ | refine Eam_x_pu dX0_fillWorthsAt_44 rfl ?_
      refine Eq_iln dX0_fillWorthsAt_45 rfl ?_
      first | refine Eq_add dX0_fillWorthsAt_46 ?_ | refine Eam_x_pu dX0_fillWorthsAt_46 rfl ?_
      refine Eq_is dX0_fillWorthsAt_47 (by decide) ?_
      refine Eam_nl (pc' := 49) (l' := [_, _, _, _, _, _, _]) rfl rfl ?_
      refine Eq_il dX0_fillWorthsAt_49 rfl ?_
      refine Eq_il dX0_fillWorthsAt_51 rfl ?_
      refine Et_ic_eq 115 dX0_fillWorthsAt_53 rfl (by rw [e]) ?_
      refine Eq_inc dX0_fillWorthsAt_115 rfl (by decide) ?_
      refine Eam_nl (pc' := 118) (l' := [_, _, _, _, _, _, _]) rfl rfl ?_
      refine Eam_x_goto (tgt := 22) dX0_fillWorthsAt_118 rfl ?_
      exact ih2 _
    · have hz : pwt (hmo q) F a j s = zI (pI (hmo q) F a j s) := (zI_self _).symm
      have e2 : lsr (fun b => pI (hmo q) F a b s) a (j + 1) (lsl (fun a b => pI (hmo q) F a b s) n a) = mnI (lsr (fun b => pI (hmo q) F a b s) a j (lsl (fun a b => pI (hmo q) F a b s) n a)) (pI (hmo q) F a j s) := if_neg e
      have hb1 := pI_bd hT hF (a := a) (b := j) (s := s) ha (by omega) hs
      have hpw := c_pworth hW hM hq (a := a) (b := j) (s := s) ha (by omega)
      have nxt : ∀ h1, Fx (FL q) [] h h1 → Fx ([22] ++ FL q) [] h0 (am_wI h1 22 ((a * 7 + j) * 7 + s) (pwt (hmo q) F a j s)) ∧ Wd (am_wI h1 22 ((a * 7 + j) * 7 + s) (pwt (hmo q) F a j s)) ∧ MB (am_wI h1 22 ((a * 7 + j) * 7 + s) (pwt (hmo q) F a j s)) n g F ∧ CHd (am_wI h1 22 ((a * 7 + j) * 7 + s) (pwt (hmo q) F a j s)) q ∧ FWs h0 (am_wI h1 22 ((a * 7 + j) * 7 + s) (pwt (hmo q) F a j s)) (hmo q) F n s a (j + 1) := fun h1 hf1 => by
        have k1 : Fx ([22] ++ FL q) [] h (am_wI h1 22 ((a * 7 + j) * 7 + s) (pwt (hmo q) F a j s)) := (hf1.mono (fun x hx => List.mem_append_right _ hx) (fun x hx => by cases hx)).tr (Fx.wI (Or.inl (by simp)))
        have e22 : am_i h1 22 = am_i h 22 := hf1.ia (FLn hq (by decide) (by decide)) (by decide)
        refine ⟨hf.tr k1, k1.Wd hW, hM.fl hq k1 (by decide), hq.fl k1 (by decide) (by decide), fun a' b h1' h2' h3' h4' => ?_, fun a' b s' h1' h2' h3' => ?_⟩
        · rw [wI_eq]
          by_cases ei : (a' * 7 + b) * 7 + s = (a * 7 + j) * 7 + s
          · have : a' = a ∧ b = j := by omega
            rw [if_pos ei, this.1, this.2]
          · rw [if_neg ei, e22]
            exact hw.1 a' b h1' h2' h3' (by
              rcases h4' with z | ⟨z1, z2⟩
              · exact Or.inl z
              · refine Or.inr ⟨z1, ?_⟩
                have : b ≠ j := fun y => ei (by rw [z1, y])
                omega)
        · rw [wI_eq, if_neg (by omega), e22]
          exact hw.2 a' b s' h1' h2' h3'
      cases hst : lsr (fun b => pI (hmo q) F a b s) a j (lsl (fun a b => pI (hmo q) F a b s) n a) with
      | none =>
        rw [hst] at e2
        refine Eq_il dX0_fillWorthsAt_22 rfl ?_
        refine Eq_aln dX0_fillWorthsAt_24 rfl ?_
        refine Eq_getR dX0_fillWorthsAt_25 fl_X0_9 (ws_20 hW) rfl (wp_20_0 hW) ?_
        refine Eq_getI dX0_fillWorthsAt_28 fl_X0_53 (ws_9 hW) rfl hM.1 ?_
        refine Ef_ic_ge dX0_fillWorthsAt_31 (tgt := 121) rfl (by exact nI_ge (by omega) (by omega)) ?_
        refine Eq_il dX0_fillWorthsAt_34 rfl ?_
        refine Eq_bp (v := nI 7) dX0_fillWorthsAt_36 rfl ?_
        first | refine Eq_mul dX0_fillWorthsAt_38 ?_ | refine Eam_x_pu dX0_fillWorthsAt_38 rfl ?_
        refine Eq_il dX0_fillWorthsAt_39 rfl ?_
        first | refine Eq_add dX0_fillWorthsAt_41 ?_ | refine Eam_x_pu dX0_fillWorthsAt_41 rfl ?_
        refine Eq_bp (v := nI 7) dX0_fillWorthsAt_42 rfl ?_
        first | refine Eq_mul dX0_fillWorthsAt_44 ?_ | refine Eam_x_pu dX0_fillWorthsAt_44 rfl ?_
        refine Eq_iln dX0_fillWorthsAt_45 rfl ?_
        first | refine Eq_add dX0_fillWorthsAt_46 ?_ | refine Eam_x_pu dX0_fillWorthsAt_46 rfl ?_
        refine Eq_is dX0_fillWorthsAt_47 (by decide) ?_
        refine Eam_nl (pc' := 49) (l' := [_, _, _, _, _, _, _]) rfl rfl ?_
        refine Eq_il dX0_fillWorthsAt_49 rfl ?_
        refine Eq_il dX0_fillWorthsAt_51 rfl ?_
        refine Ef_ic_eq dX0_fillWorthsAt_53 (tgt := 115) rfl (by exact fun z => e ((nI_eq (by omega) (by omega)).mp z)) ?_
        refine Eq_il dX0_fillWorthsAt_56 rfl ?_
        refine En_if_lt (tgt := 115) dX0_fillWorthsAt_58 rfl (by omega) ?_
        refine Eq_il dX0_fillWorthsAt_61 rfl ?_
        refine Eq_aln dX0_fillWorthsAt_63 rfl ?_
        refine Eq_getR dX0_fillWorthsAt_64 fl_X0_28 (ws_20 hW) rfl (wp_20_3 hW) ?_
        refine Eam_x_alen dX0_fillWorthsAt_67 (ws_22 hW) (by decide) ?_
        refine Ef_ic_ge dX0_fillWorthsAt_68 (tgt := 115) rfl (by exact nI_ge (b := 343) (by omega) (by omega)) ?_
        refine Eq_aln dX0_fillWorthsAt_71 rfl ?_
        refine Eq_getR dX0_fillWorthsAt_72 fl_X0_28 (ws_20 hW) rfl (wp_20_3 hW) ?_
        refine Eq_il dX0_fillWorthsAt_75 rfl ?_
        refine Eq_aln dX0_fillWorthsAt_77 rfl ?_
        refine Eq_il dX0_fillWorthsAt_78 rfl ?_
        refine Eq_il dX0_fillWorthsAt_80 rfl ?_
        refine Eq_iln dX0_fillWorthsAt_82 rfl ?_
        refine Eq_W3 (N := m_X0_worthOf) dX0_fillWorthsAt_83 lk_X0_73 mV_X0_worthOf (hpw) (by decide) (ws_20 hW) rfl (by decide) (Nat.le_of_ble_eq_true rfl) (Nat.le_of_ble_eq_true rfl) (fun vq hq1 hq2 => ?_)
        obtain ⟨rfl, hf2⟩ := hq2
        have hW2 := hf2.Wd hW
        obtain ⟨y1, y2, y3, y4, y5⟩ := nxt _ hf2
        refine Eq_ast dX0_fillWorthsAt_86 (ws_22 hW2) (by omega) (by omega) ?_
        refine Eq_iln dX0_fillWorthsAt_87 rfl ?_
        refine Et_if_eq 105 dX0_fillWorthsAt_88 rfl (by rfl) ?_
        refine Eq_aln dX0_fillWorthsAt_105 rfl ?_
        refine Eq_getR dX0_fillWorthsAt_106 fl_X0_28 (ws_20 hW2) rfl (wp_20_3 hW2) ?_
        refine Eq_il dX0_fillWorthsAt_109 rfl ?_
        refine Eq_ald dX0_fillWorthsAt_111 (ws_22 hW2) (by omega) (by omega) wI_e0 ?_
        refine Eq_isn dX0_fillWorthsAt_112 (by decide) ?_
        refine Eam_nl (pc' := 113) (l' := [_, _, _, _, _, _, _]) rfl rfl ?_
        refine Eq_ic (v := nI 1) dX0_fillWorthsAt_113 rfl ?_
        refine Eq_isn dX0_fillWorthsAt_114 (by decide) ?_
        refine Eam_nl (pc' := 115) (l' := [_, _, _, _, _, _, _]) rfl rfl ?_
        refine Eq_inc dX0_fillWorthsAt_115 rfl (by decide) ?_
        refine Eam_nl (pc' := 118) (l' := [_, _, _, _, _, _, _]) rfl rfl ?_
        refine Eam_x_goto (tgt := 22) dX0_fillWorthsAt_118 rfl ?_
        have ih2 := ih (j + 1) _ (by omega) y2 y3 y4 y1 y5
        rw [e2] at ih2
        rw [hz]
        rw [hz] at ih2
        exact ih2 _
      | some x =>
        rw [hst] at e2
        have hb2 := lsr_bd (f := fun b => pI (hmo q) F a b s) (a := a) (n := n) (st := lsl (fun a b => pI (hmo q) F a b s) n a) (fun x hx => lsl_bd (fun a b ha hb => pI_bd hT hF ha hb hs) (k := a) (by omega) hx) (fun b hb => pI_bd hT hF ha hb hs) (k := j) (by omega) hst
        have hmi := zI_min x (pI (hmo q) F a j s) (by omega) (by omega) (by omega) (by omega)
        rw [← hz] at hmi
        refine Eq_il dX0_fillWorthsAt_22 rfl ?_
        refine Eq_aln dX0_fillWorthsAt_24 rfl ?_
        refine Eq_getR dX0_fillWorthsAt_25 fl_X0_9 (ws_20 hW) rfl (wp_20_0 hW) ?_
        refine Eq_getI dX0_fillWorthsAt_28 fl_X0_53 (ws_9 hW) rfl hM.1 ?_
        refine Ef_ic_ge dX0_fillWorthsAt_31 (tgt := 121) rfl (by exact nI_ge (by omega) (by omega)) ?_
        refine Eq_il dX0_fillWorthsAt_34 rfl ?_
        refine Eq_bp (v := nI 7) dX0_fillWorthsAt_36 rfl ?_
        first | refine Eq_mul dX0_fillWorthsAt_38 ?_ | refine Eam_x_pu dX0_fillWorthsAt_38 rfl ?_
        refine Eq_il dX0_fillWorthsAt_39 rfl ?_
        first | refine Eq_add dX0_fillWorthsAt_41 ?_ | refine Eam_x_pu dX0_fillWorthsAt_41 rfl ?_
        refine Eq_bp (v := nI 7) dX0_fillWorthsAt_42 rfl ?_
        first | refine Eq_mul dX0_fillWorthsAt_44 ?_ | refine Eam_x_pu dX0_fillWorthsAt_44 rfl ?_
        refine Eq_iln dX0_fillWorthsAt_45 rfl ?_
        first | refine Eq_add dX0_fillWorthsAt_46 ?_ | refine Eam_x_pu dX0_fillWorthsAt_46 rfl ?_
        refine Eq_is dX0_fillWorthsAt_47 (by decide) ?_
        refine Eam_nl (pc' := 49) (l' := [_, _, _, _, _, _, _]) rfl rfl ?_
        refine Eq_il dX0_fillWorthsAt_49 rfl ?_
        refine Eq_il dX0_fillWorthsAt_51 rfl ?_
        refine Ef_ic_eq dX0_fillWorthsAt_53 (tgt := 115) rfl (by exact fun z => e ((nI_eq (by omega) (by omega)).mp z)) ?_
        refine Eq_il dX0_fillWorthsAt_56 rfl ?_
        refine En_if_lt (tgt := 115) dX0_fillWorthsAt_58 rfl (by omega) ?_
        refine Eq_il dX0_fillWorthsAt_61 rfl ?_
        refine Eq_aln dX0_fillWorthsAt_63 rfl ?_
        refine Eq_getR dX0_fillWorthsAt_64 fl_X0_28 (ws_20 hW) rfl (wp_20_3 hW) ?_
        refine Eam_x_alen dX0_fillWorthsAt_67 (ws_22 hW) (by decide) ?_
        refine Ef_ic_ge dX0_fillWorthsAt_68 (tgt := 115) rfl (by exact nI_ge (b := 343) (by omega) (by omega)) ?_
        refine Eq_aln dX0_fillWorthsAt_71 rfl ?_
        refine Eq_getR dX0_fillWorthsAt_72 fl_X0_28 (ws_20 hW) rfl (wp_20_3 hW) ?_
        refine Eq_il dX0_fillWorthsAt_75 rfl ?_
        refine Eq_aln dX0_fillWorthsAt_77 rfl ?_
        refine Eq_il dX0_fillWorthsAt_78 rfl ?_
        refine Eq_il dX0_fillWorthsAt_80 rfl ?_
        refine Eq_iln dX0_fillWorthsAt_82 rfl ?_
        refine Eq_W3 (N := m_X0_worthOf) dX0_fillWorthsAt_83 lk_X0_73 mV_X0_worthOf (hpw) (by decide) (ws_20 hW) rfl (by decide) (Nat.le_of_ble_eq_true rfl) (Nat.le_of_ble_eq_true rfl) (fun vq hq1 hq2 => ?_)
        obtain ⟨rfl, hf2⟩ := hq2
        have hW2 := hf2.Wd hW
        obtain ⟨y1, y2, y3, y4, y5⟩ := nxt _ hf2
        refine Eq_ast dX0_fillWorthsAt_86 (ws_22 hW2) (by omega) (by omega) ?_
        refine Eq_iln dX0_fillWorthsAt_87 rfl ?_
        refine Ef_if_eq dX0_fillWorthsAt_88 (tgt := 105) rfl (by exact zf1) ?_
        refine Eq_iln (x := zI x) dX0_fillWorthsAt_91 rfl ?_
        refine Eq_aln dX0_fillWorthsAt_92 rfl ?_
        refine Eq_getR dX0_fillWorthsAt_93 fl_X0_28 (ws_20 hW2) rfl (wp_20_3 hW2) ?_
        refine Eq_il dX0_fillWorthsAt_96 rfl ?_
        refine Eq_ald dX0_fillWorthsAt_98 (ws_22 hW2) (by omega) (by omega) wI_e0 ?_
        refine Eq_min dX0_fillWorthsAt_99 lk_X0_133 js_J9_min_7cf53 in_J9 jc_J9_min_7cf53 (by decide) (Nat.le_of_ble_eq_true rfl) ?_
        refine Eam_x_goto (tgt := 112) dX0_fillWorthsAt_102 rfl ?_
        refine Eq_isn dX0_fillWorthsAt_112 (by decide) ?_
        refine Eam_nl (pc' := 113) (l' := [_, _, _, _, _, _, _]) rfl rfl ?_
        refine Eq_ic (v := nI 1) dX0_fillWorthsAt_113 rfl ?_
        refine Eq_isn dX0_fillWorthsAt_114 (by decide) ?_
        refine Eam_nl (pc' := 115) (l' := [_, _, _, _, _, _, _]) rfl rfl ?_
        refine Eq_inc dX0_fillWorthsAt_115 rfl (by decide) ?_
        refine Eam_nl (pc' := 118) (l' := [_, _, _, _, _, _, _]) rfl rfl ?_
        refine Eam_x_goto (tgt := 22) dX0_fillWorthsAt_118 rfl ?_
        have ih2 := ih (j + 1) _ (by omega) y2 y3 y4 y1 y5
        rw [e2] at ih2
        rw [hmi]
        exact ih2 _
set_option maxHeartbeats 2000000 in
theorem c_fwa_out {q : Option (Nat × Nat × Nat × List (Tks × Tks))} {n : Nat} {g : Bool} {F : Nat → Nat → Nat} (hF : FS n F) {h0 : am_H} {s : Nat} (hs : s < 7) (h7 : n ≤ 7) (h2n : 2 ≤ n) : ∀ k a h l5 l6, a + k = n → Wd h → MB h n g F → CHd h q → Fx ([22] ++ FL q) [] h0 h → FWs h0 h (hmo q) F n s a 0 → am_E 4 m_X0_fillWorthsAt 7 [some (.ref 20), some (.int (nI s)), some (.int (anI (lsl (fun a b => pI (hmo q) F a b s) n a))), some (.int (leI (lsl (fun a b => pI (hmo q) F a b s) n a))), some (.int (nI a)), l5, l6] [] h (fun w h2 => w = some (.int (zI (mnS (hmo q) F n s))) ∧ Fx ([22] ++ FL q) [] h0 h2 ∧ FWs h0 h2 (hmo q) F n s n 0) := by
  intro k
  induction k with
  | zero =>
    intro a h l5 l6 ha hW hM hq hf hw
    have han : a = n := by omega
    subst han
    obtain ⟨m, hm⟩ := lsl_y (f := (fun a b => pI (hmo q) F a b s)) (n := a) h2n
    have e : mnS (hmo q) F a s = m := by unfold mnS; rw [hm]; rfl
    rw [hm, e]
    refine Eq_il dX0_fillWorthsAt_7 rfl ?_
    refine Eq_aln dX0_fillWorthsAt_9 rfl ?_
    refine Eq_getR dX0_fillWorthsAt_10 fl_X0_9 (ws_20 hW) rfl (wp_20_0 hW) ?_
    refine Eq_getI dX0_fillWorthsAt_13 fl_X0_53 (ws_9 hW) rfl hM.1 ?_
    refine Et_ic_ge 127 dX0_fillWorthsAt_16 rfl (by exact nI_le (by omega) (by omega)) ?_
    refine Eq_iln dX0_fillWorthsAt_127 rfl ?_
    refine Eq_ir dX0_fillWorthsAt_128 rfl ?_
    exact ⟨rfl, hf, hw⟩
  | succ k ih =>
    intro a h l5 l6 ha hW hM hq hf hw
    refine Eq_il dX0_fillWorthsAt_7 rfl ?_
    refine Eq_aln dX0_fillWorthsAt_9 rfl ?_
    refine Eq_getR dX0_fillWorthsAt_10 fl_X0_9 (ws_20 hW) rfl (wp_20_0 hW) ?_
    refine Eq_getI dX0_fillWorthsAt_13 fl_X0_53 (ws_9 hW) rfl hM.1 ?_
    refine Ef_ic_ge dX0_fillWorthsAt_16 (tgt := 127) rfl (by exact nI_ge (by omega) (by omega)) ?_
    refine Eq_ic (v := nI 0) dX0_fillWorthsAt_19 rfl ?_
    refine Eq_is dX0_fillWorthsAt_20 (by decide) ?_
    refine Eam_nl (pc' := 22) (l' := [_, _, _, _, _, _, _]) rfl rfl ?_
    exact c_fwa_in hF hs (by omega) h7 (fun h l5 l6 a1 a2 a3 a4 a5 => ih (a + 1) h l5 l6 (by omega) a1 a2 a3 a4 a5) n 0 h (by omega) hW hM hq hf hw _
set_option maxHeartbeats 2000000 in
theorem c_fillWorthsAt {h : am_H} {n : Nat} {g : Bool} {F : Nat → Nat → Nat} (hW : Wd h) (hM : MB h n g F) {q : Option (Nat × Nat × Nat × List (Tks × Tks))} (hq : CHd h q) (h2n : 2 ≤ n) {s : Nat} (hs : s < 7) : am_D 4 m_X0_fillWorthsAt [.ref 20, .int (nI s)] h (fun w h2 => w = some (.int (zI (mnS (hmo q) F n s))) ∧ Fx ([22] ++ FL q) [] h h2 ∧ FWs h h2 (hmo q) F n s n 0) := by
  have hF : FS n F := fun i m hi hm => (hM.2.2.2.1 i m hi hm).2
  refine Eq_ic (v := nI 0) dX0_fillWorthsAt_0 rfl ?_
  refine Eq_isn dX0_fillWorthsAt_1 (by decide) ?_
  refine Eam_nl (pc' := 2) (l' := [_, _, _, _, _, _, _]) rfl rfl ?_
  refine Eq_ic (v := nI 0) dX0_fillWorthsAt_2 rfl ?_
  refine Eq_isn dX0_fillWorthsAt_3 (by decide) ?_
  refine Eam_nl (pc' := 4) (l' := [_, _, _, _, _, _, _]) rfl rfl ?_
  refine Eq_ic (v := nI 0) dX0_fillWorthsAt_4 rfl ?_
  refine Eq_is dX0_fillWorthsAt_5 (by decide) ?_
  refine Eam_nl (pc' := 7) (l' := [_, _, _, _, _, _, _]) rfl rfl ?_
  exact c_fwa_out hF hs hM.2.2.1 h2n n 0 h none none (by omega) hW hM hq Fx.rf ⟨fun a' b h1 h2 h3 h4 => by omega, fun _ _ _ _ _ _ => rfl⟩
set_option maxHeartbeats 2000000 in
theorem c_fill_lp {h0 : am_H} {v : Int32} : ∀ k j h, j + k = 8 → Wd h → Fx [23] [] h0 h → (∀ i, i < j → am_i h 23 i = v) → am_E 0 m_J7_fill_53178 5 [some (.ref 23), some (.int v), some (.int (nI j)), some (.int (nI 8))] [] h (fun w h2 => w = none ∧ Fx [23] [] h0 h2 ∧ ∀ i, i < 8 → am_i h2 23 i = v) := by
  intro k
  induction k with
  | zero =>
    intro j h hj hW hf hv
    have hj8 : j = 8 := by omega
    subst hj8
    refine Eq_iln dJ7_fill_53178_5 rfl ?_
    refine Eq_iln dJ7_fill_53178_6 rfl ?_
    refine Et_ic_ge 20 dJ7_fill_53178_7 rfl (by exact nI_le (by omega) (by omega)) ?_
    refine Eq_vr dJ7_fill_53178_20 rfl ?_
    exact ⟨rfl, hf, hv⟩
  | succ k ih =>
    intro j h hj hW hf hv
    refine Eq_iln dJ7_fill_53178_5 rfl ?_
    refine Eq_iln dJ7_fill_53178_6 rfl ?_
    refine Ef_ic_ge dJ7_fill_53178_7 (tgt := 20) rfl (by exact nI_ge (by omega) (by omega)) ?_
    refine Eq_aln dJ7_fill_53178_10 rfl ?_
    refine Eq_iln dJ7_fill_53178_11 rfl ?_
    refine Eq_iln dJ7_fill_53178_12 rfl ?_
    refine Eq_ast dJ7_fill_53178_13 (ws_23 hW) (by omega) (by omega) ?_
    refine Eq_inc dJ7_fill_53178_14 rfl (by decide) ?_
    refine Eam_nl (pc' := 17) (l' := [_, _, _, _]) rfl rfl ?_
    refine Eam_x_goto (tgt := 5) dJ7_fill_53178_17 rfl ?_
    exact ih (j + 1) _ (by omega) ((Fx.wI (A := [23]) (B := []) (Or.inl (by decide))).Wd hW) (hf.tr (Fx.wI (Or.inl (by decide)))) (fun i hi => by
      rw [wI_eq]
      by_cases e : i = j
      · rw [if_pos e]
      · rw [if_neg e]; exact hv i (by omega))
set_option maxHeartbeats 2000000 in
theorem c_fill {h : am_H} (hW : Wd h) {v : Int32} : am_D 0 m_J7_fill_53178 [.ref 23, .int v] h (fun w h2 => w = none ∧ Fx [23] [] h h2 ∧ ∀ i, i < 8 → am_i h2 23 i = v) := by
  refine Eq_ic (v := nI 0) dJ7_fill_53178_0 rfl ?_
  refine Eq_isn dJ7_fill_53178_1 (by decide) ?_
  refine Eam_nl (pc' := 2) (l' := [_, _, _, _]) rfl rfl ?_
  refine Eq_aln dJ7_fill_53178_2 rfl ?_
  refine Eam_x_alen dJ7_fill_53178_3 (ws_23 hW) (by decide) ?_
  refine Eq_isn dJ7_fill_53178_4 (by decide) ?_
  refine Eam_nl (pc' := 5) (l' := [_, _, _, _]) rfl rfl ?_
  exact c_fill_lp 8 0 h (by omega) hW Fx.rf (fun i hi => by omega)
set_option maxHeartbeats 2000000 in
theorem c_fw_c {q : Option (Nat × Nat × Nat × List (Tks × Tks))} {n : Nat} {g : Bool} {F : Nat → Nat → Nat} {h0 : am_H} {c : Int} (hc : c = if g = true then mnS (hmo q) F n 0 else 0) : ∀ k j h, j + k = 8 → Wd h → Fx ([22, 23] ++ FL q) [] h0 h → WT h (hmo q) n g F → (∀ s, s < j → am_i h 23 s = zI (lfs (hmo q) n g F s)) → (∀ s, j ≤ s → s < 8 → am_i h 23 s = zI (lfd (mnS (hmo q) F n) n (n - s))) → am_E 5 m_X0_fillWorths 84 [some (.ref 20), some (.int (zI c)), some (.int (nI j))] [] h (fun w h2 => w = none ∧ Fx ([22, 23] ++ FL q) [] h0 h2 ∧ WT h2 (hmo q) n g F ∧ ∀ s, s < 8 → am_i h2 23 s = zI (lfs (hmo q) n g F s)) := by
  intro k
  induction k with
  | zero =>
    intro j h hj hW hf hw h1 h2
    have hj8 : j = 8 := by omega
    subst hj8
    refine Eq_iln dX0_fillWorths_84 rfl ?_
    refine Eq_aln dX0_fillWorths_85 rfl ?_
    refine Eq_getR dX0_fillWorths_86 fl_X0_31 (ws_20 hW) rfl (wp_20_4 hW) ?_
    refine Eam_x_alen dX0_fillWorths_89 (ws_23 hW) (by decide) ?_
    refine Et_ic_ge 109 dX0_fillWorths_90 rfl (by exact nI_le (a := 8) (b := 8) (by omega) (by omega)) ?_
    refine Eq_vr dX0_fillWorths_109 rfl ?_
    exact ⟨rfl, hf, hw, h1⟩
  | succ k ih =>
    intro j h hj hW hf hw h1 h2
    have hv := h2 j (by omega) (by omega)
    have hadd : zI (lfd (mnS (hmo q) F n) n (n - j)) + zI c = zI (lfs (hmo q) n g F j) := by rw [zI_add, hc]; rfl
    have k1 : Fx ([22, 23] ++ FL q) [] h (am_wI h 23 j (zI (lfs (hmo q) n g F j))) := Fx.wI (Or.inl (by simp))
    refine Eq_iln dX0_fillWorths_84 rfl ?_
    refine Eq_aln dX0_fillWorths_85 rfl ?_
    refine Eq_getR dX0_fillWorths_86 fl_X0_31 (ws_20 hW) rfl (wp_20_4 hW) ?_
    refine Eam_x_alen dX0_fillWorths_89 (ws_23 hW) (by decide) ?_
    refine Ef_ic_ge dX0_fillWorths_90 (tgt := 109) rfl (by exact nI_ge (b := 8) (by omega) (by omega)) ?_
    refine Eq_aln dX0_fillWorths_93 rfl ?_
    refine Eq_getR dX0_fillWorths_94 fl_X0_31 (ws_20 hW) rfl (wp_20_4 hW) ?_
    refine Eq_iln dX0_fillWorths_97 rfl ?_
    refine Eam_x_pu dX0_fillWorths_98 rfl ?_
    refine Eq_ald dX0_fillWorths_99 (ws_23 hW) (by omega) (by omega) hv ?_
    refine Eq_iln dX0_fillWorths_100 rfl ?_
    refine Eam_x_pu dX0_fillWorths_101 rfl ?_
    rw [hadd]
    refine Eq_ast dX0_fillWorths_102 (ws_23 hW) (by omega) (by omega) ?_
    refine Eq_inc dX0_fillWorths_103 rfl (by decide) ?_
    refine Eam_nl (pc' := 106) (l' := [_, _, _]) rfl rfl ?_
    refine Eam_x_goto (tgt := 84) dX0_fillWorths_106 rfl ?_
    exact ih (j + 1) _ (by omega) (k1.Wd hW) (hf.tr k1) (fun a b s a1 a2 a3 a4 => by rw [wI_ne (by decide)]; exact hw a b s a1 a2 a3 a4) (fun s hs => by
      rw [wI_eq]
      by_cases e : s = j
      · rw [if_pos e, e]
      · rw [if_neg e]; exact h1 s (by omega)) (fun s hs1 hs2 => by rw [wI_eq, if_neg (by omega)]; exact h2 s (by omega) hs2)
set_option maxHeartbeats 2000000 in
theorem c_fw_lp {q : Option (Nat × Nat × Nat × List (Tks × Tks))} {n : Nat} {g : Bool} {F : Nat → Nat → Nat} (h7 : n ≤ 7) (h2n : 2 ≤ n) {h0 : am_H} : ∀ k h l2, k ≤ n → Wd h → MB h n g F → CHd h q → Fx ([22, 23] ++ FL q) [] h0 h → (∀ a b s, a < n → b < n → a ≠ b → k ≤ s → 0 < s → s < n → am_i h 22 ((a * 7 + b) * 7 + s) = pwt (hmo q) F a b s) → (∀ s, k ≤ s → s < 8 → am_i h 23 s = zI (lfd (mnS (hmo q) F n) n (n - s))) → am_E 5 m_X0_fillWorths 18 [some (.ref 20), some (.int (dk k)), l2] [] h (fun w h2 => w = none ∧ Fx ([22, 23] ++ FL q) [] h0 h2 ∧ WT h2 (hmo q) n g F ∧ ∀ s, s < 8 → am_i h2 23 s = zI (lfs (hmo q) n g F s)) := by
  intro k
  induction k with
  | zero =>
    intro h l2 hk hW hM hq hf hw hl
    cases hg : g with
    | false =>
      have hgz : am_i h 9 1 = nI 0 := by rw [hM.2.1, hg]; rfl
      have hT : WT h (hmo q) n false F := fun a b s a1 a2 a3 a4 => by
        rcases a4 with ⟨z1, z2⟩ | ⟨_, z⟩
        · exact hw a b s a1 a2 a3 (by omega) z1 z2
        · cases z
      refine Eq_iln dX0_fillWorths_18 rfl ?_
      refine Et_if_lt 62 dX0_fillWorths_19 rfl (by exact m1_neg) ?_
      refine Eq_aln dX0_fillWorths_62 rfl ?_
      refine Eq_getR dX0_fillWorths_63 fl_X0_9 (ws_20 hW) rfl (wp_20_0 hW) ?_
      refine Eq_getI dX0_fillWorths_66 fl_X0_59 (ws_9 hW) rfl hgz ?_
      refine Et_if_eq 80 dX0_fillWorths_69 rfl (by rfl) ?_
      refine Eq_ic (v := nI 0) dX0_fillWorths_80 rfl ?_
      refine Eq_isn dX0_fillWorths_81 (by decide) ?_
      refine Eam_nl (pc' := 82) (l' := [_, _, _]) rfl rfl ?_
      refine Eq_ic (v := nI 0) dX0_fillWorths_82 rfl ?_
      refine Eq_isn dX0_fillWorths_83 (by decide) ?_
      refine Eam_nl (pc' := 84) (l' := [_, _, _]) rfl rfl ?_
      exact c_fw_c (c := 0) rfl 8 0 h (by omega) hW hf hT (fun s hs => by omega) (fun s _ hs => hl s (by omega) hs)
    | true =>
      have hgo : am_i h 9 1 = nI 1 := by rw [hM.2.1, hg]; rfl
      have hfa := c_fillWorthsAt hW hM hq h2n (s := 0) (by omega)
      refine Eq_iln dX0_fillWorths_18 rfl ?_
      refine Et_if_lt 62 dX0_fillWorths_19 rfl (by exact m1_neg) ?_
      refine Eq_aln dX0_fillWorths_62 rfl ?_
      refine Eq_getR dX0_fillWorths_63 fl_X0_9 (ws_20 hW) rfl (wp_20_0 hW) ?_
      refine Eq_getI dX0_fillWorths_66 fl_X0_59 (ws_9 hW) rfl hgo ?_
      refine Ef_if_eq dX0_fillWorths_69 (tgt := 80) rfl (by exact zf1) ?_
      refine Eq_aln dX0_fillWorths_72 rfl ?_
      refine Eq_ic (v := nI 0) dX0_fillWorths_73 rfl ?_
      refine Eq_W1 (N := m_X0_fillWorthsAt) dX0_fillWorths_74 lk_X0_130 mV_X0_fillWorthsAt (hfa) (by decide) (ws_20 hW) rfl (by decide) (Nat.le_of_ble_eq_true rfl) (Nat.le_of_ble_eq_true rfl) (fun vq hq1 hq2 => ?_)
      obtain ⟨rfl, hf2, hw2⟩ := hq2
      have hW2 := hf2.Wd hW
      refine Eam_x_goto (tgt := 81) dX0_fillWorths_77 rfl ?_
      refine Eq_isn dX0_fillWorths_81 (by decide) ?_
      refine Eam_nl (pc' := 82) (l' := [_, _, _]) rfl rfl ?_
      refine Eq_ic (v := nI 0) dX0_fillWorths_82 rfl ?_
      refine Eq_isn dX0_fillWorths_83 (by decide) ?_
      refine Eam_nl (pc' := 84) (l' := [_, _, _]) rfl rfl ?_
      refine c_fw_c (c := mnS (hmo q) F n 0) rfl 8 0 _ (by omega) hW2 (hf.tr (hf2.mono (fun x hx => by simp only [List.mem_append, List.mem_cons, List.not_mem_nil, or_false] at hx ⊢; rcases hx with z | z; exact Or.inl (Or.inl z); exact Or.inr z) (fun x hx => by cases hx))) (fun a b s a1 a2 a3 a4 => ?_) (fun s hs => by omega) (fun s _ hs => by rw [hf2.ia (FLa hq (by decide) (by decide) (by decide)) (by decide)]; exact hl s (by omega) hs)
      by_cases es : s = 0
      · subst es
        exact hw2.1 a b a1 a2 a3 (Or.inl a1)
      · rcases a4 with ⟨z1, z2⟩ | ⟨z, _⟩
        · rw [hw2.2 a b s (by omega) (by omega) es]
          exact hw a b s a1 a2 a3 (by omega) z1 z2
        · exact absurd z es
  | succ k ih =>
    intro h l2 hk hW hM hq hf hw hl
    show am_E 5 m_X0_fillWorths 18 [some (.ref 20), some (.int (nI k)), l2] [] h _
    have hv := hl (k + 1) (by omega) (by omega)
    by_cases hk0 : k = 0
    · subst hk0
      have hadd : zI (lfd (mnS (hmo q) F n) n (n - (0 + 1))) + nI 0 = zI (lfd (mnS (hmo q) F n) n (n - 0)) := by
        rw [← zI_0, zI_add, show n - 0 = (n - (0 + 1)) + 1 by omega]
        simp only [lfd]
        rw [if_neg (by omega)]
      have k1 : Fx ([22, 23] ++ FL q) [] h (am_wI h 23 0 (zI (lfd (mnS (hmo q) F n) n (n - 0)))) := Fx.wI (Or.inl (by simp))
      refine Eq_iln dX0_fillWorths_18 rfl ?_
      refine En_if_lt (tgt := 62) dX0_fillWorths_19 rfl (by omega) ?_
      refine Eq_iln dX0_fillWorths_22 rfl ?_
      refine Eq_bp (v := nI 7) dX0_fillWorths_23 rfl ?_
      refine Ef_ic_ge dX0_fillWorths_25 (tgt := 62) rfl (by exact nI_ge (b := 7) (by omega) (by omega)) ?_
      refine Eq_aln dX0_fillWorths_28 rfl ?_
      refine Eq_getR dX0_fillWorths_29 fl_X0_31 (ws_20 hW) rfl (wp_20_4 hW) ?_
      refine Eq_iln dX0_fillWorths_32 rfl ?_
      refine Eq_aln dX0_fillWorths_33 rfl ?_
      refine Eq_getR dX0_fillWorths_34 fl_X0_31 (ws_20 hW) rfl (wp_20_4 hW) ?_
      refine Eq_iln dX0_fillWorths_37 rfl ?_
      refine Eq_ic (v := nI 1) dX0_fillWorths_38 rfl ?_
      first | refine Eq_add dX0_fillWorths_39 ?_ | refine Eam_x_pu dX0_fillWorths_39 rfl ?_
      refine Eq_ald dX0_fillWorths_40 (ws_23 hW) (by omega) (by omega) hv ?_
      refine Eq_iln dX0_fillWorths_41 rfl ?_
      refine Et_if_le 53 dX0_fillWorths_42 rfl (by decide +kernel) ?_
      refine Eq_ic (v := nI 0) dX0_fillWorths_53 rfl ?_
      refine Eam_x_pu dX0_fillWorths_54 rfl ?_
      rw [hadd]
      refine Eq_ast dX0_fillWorths_55 (ws_23 hW) (by omega) (by omega) ?_
      refine Eq_dk dX0_fillWorths_56 rfl (by decide) ?_
      refine Eam_nl (pc' := 59) (l' := [_, _, _]) rfl rfl ?_
      refine Eam_x_goto (tgt := 18) dX0_fillWorths_59 rfl ?_
      exact ih _ _ (by omega) (k1.Wd hW) (hM.fl hq k1 (by decide)) (hq.fl k1 (by decide) (by decide)) (hf.tr k1) (fun a b s a1 a2 a3 a4 a5 a6 => by rw [wI_ne (by decide)]; exact hw a b s a1 a2 a3 (by omega) a5 a6) (fun s hs1 hs2 => by
        rw [wI_eq]
        by_cases e : s = 0
        · rw [if_pos e, e]
        · rw [if_neg e]; exact hl s (by omega) hs2)
    · have hfa := c_fillWorthsAt hW hM hq h2n (s := k) (by omega)
      have hadd : zI (lfd (mnS (hmo q) F n) n (n - (k + 1))) + zI (mnS (hmo q) F n k) = zI (lfd (mnS (hmo q) F n) n (n - k)) := by
        rw [zI_add, show n - k = (n - (k + 1)) + 1 by omega]
        simp only [lfd]
        rw [if_pos (by omega), show n - 1 - (n - (k + 1)) = k by omega]
      refine Eq_iln dX0_fillWorths_18 rfl ?_
      refine En_if_lt (tgt := 62) dX0_fillWorths_19 rfl (by omega) ?_
      refine Eq_iln dX0_fillWorths_22 rfl ?_
      refine Eq_bp (v := nI 7) dX0_fillWorths_23 rfl ?_
      refine Ef_ic_ge dX0_fillWorths_25 (tgt := 62) rfl (by exact nI_ge (b := 7) (by omega) (by omega)) ?_
      refine Eq_aln dX0_fillWorths_28 rfl ?_
      refine Eq_getR dX0_fillWorths_29 fl_X0_31 (ws_20 hW) rfl (wp_20_4 hW) ?_
      refine Eq_iln dX0_fillWorths_32 rfl ?_
      refine Eq_aln dX0_fillWorths_33 rfl ?_
      refine Eq_getR dX0_fillWorths_34 fl_X0_31 (ws_20 hW) rfl (wp_20_4 hW) ?_
      refine Eq_iln dX0_fillWorths_37 rfl ?_
      refine Eq_ic (v := nI 1) dX0_fillWorths_38 rfl ?_
      first | refine Eq_add dX0_fillWorths_39 ?_ | refine Eam_x_pu dX0_fillWorths_39 rfl ?_
      refine Eq_ald dX0_fillWorths_40 (ws_23 hW) (by omega) (by omega) hv ?_
      refine Eq_iln dX0_fillWorths_41 rfl ?_
      refine Ef_if_le dX0_fillWorths_42 (tgt := 53) rfl (by exact nI_nle (by omega) (by omega)) ?_
      refine Eq_aln dX0_fillWorths_45 rfl ?_
      refine Eq_iln dX0_fillWorths_46 rfl ?_
      refine Eq_W1 (N := m_X0_fillWorthsAt) dX0_fillWorths_47 lk_X0_130 mV_X0_fillWorthsAt (hfa) (by decide) (ws_20 hW) rfl (by decide) (Nat.le_of_ble_eq_true rfl) (Nat.le_of_ble_eq_true rfl) (fun vq hq1 hq2 => ?_)
      obtain ⟨rfl, hf2, hw2⟩ := hq2
      have hW2 := hf2.Wd hW
      refine Eam_x_goto (tgt := 54) dX0_fillWorths_50 rfl ?_
      refine Eam_x_pu dX0_fillWorths_54 rfl ?_
      rw [hadd]
      refine Eq_ast dX0_fillWorths_55 (ws_23 hW2) (by omega) (by omega) ?_
      refine Eq_dk dX0_fillWorths_56 rfl (by decide) ?_
      refine Eam_nl (pc' := 59) (l' := [_, _, _]) rfl rfl ?_
      refine Eam_x_goto (tgt := 18) dX0_fillWorths_59 rfl ?_
      have k1 : Fx ([22, 23] ++ FL q) [] h (am_wI hq1 23 k (zI (lfd (mnS (hmo q) F n) n (n - k)))) := (hf2.mono (fun x hx => by simp only [List.mem_append, List.mem_cons, List.not_mem_nil, or_false] at hx ⊢; rcases hx with z | z; exact Or.inl (Or.inl z); exact Or.inr z) (fun x hx => by cases hx)).tr (Fx.wI (Or.inl (by simp)))
      refine ih _ _ (by omega) (k1.Wd hW) (hM.fl hq k1 (by decide)) (hq.fl k1 (by decide) (by decide)) (hf.tr k1) (fun a b s a1 a2 a3 a4 a5 a6 => ?_) (fun s hs1 hs2 => ?_)
      · rw [wI_ne (by decide)]
        by_cases es : s = k
        · subst es
          exact hw2.1 a b a1 a2 a3 (Or.inl a1)
        · rw [hw2.2 a b s (by omega) (by omega) es]
          exact hw a b s a1 a2 a3 (by omega) a5 a6
      · rw [wI_eq]
        by_cases e : s = k
        · rw [if_pos e, e]
        · rw [if_neg e, hf2.ia (FLa hq (by decide) (by decide) (by decide)) (by decide)]
          exact hl s (by omega) hs2
set_option maxHeartbeats 2000000 in
theorem c_fillWorths {h : am_H} {n : Nat} {g : Bool} {F : Nat → Nat → Nat} (hW : Wd h) (hM : MB h n g F) {q : Option (Nat × Nat × Nat × List (Tks × Tks))} (hq : CHd h q) (h2n : 2 ≤ n) : am_D 5 m_X0_fillWorths [.ref 20] h (fun w h2 => w = none ∧ Fx ([22, 23] ++ FL q) [] h h2 ∧ WT h2 (hmo q) n g F ∧ ∀ s, s < 8 → am_i h2 23 s = zI (lfs (hmo q) n g F s)) := by
  have h7 := hM.2.2.1
  refine Eq_aln dX0_fillWorths_0 rfl ?_
  refine Eq_getR dX0_fillWorths_1 fl_X0_31 (ws_20 hW) rfl (wp_20_4 hW) ?_
  refine Eq_ic (v := nI 0) dX0_fillWorths_4 rfl ?_
  refine Eq_T2 (N := m_J7_fill_53178) dX0_fillWorths_5 lk_X0_124 mS_J7_fill_53178 (c_fill hW) (by decide) (Nat.le_of_ble_eq_true rfl) (Nat.le_of_ble_eq_true rfl) (fun vq hq1 hq2 => ?_)
  obtain ⟨rfl, hf2, hw2⟩ := hq2
  have hW2 := hf2.Wd hW
  have hM2 := hM.fx hf2 (by decide)
  refine Eq_aln dX0_fillWorths_8 rfl ?_
  refine Eq_getR dX0_fillWorths_9 fl_X0_9 (ws_20 hW2) rfl (wp_20_0 hW2) ?_
  refine Eq_getI dX0_fillWorths_12 fl_X0_53 (ws_9 hW2) rfl hM2.1 ?_
  refine Eq_ic (v := nI 1) dX0_fillWorths_15 rfl ?_
  first | refine Eq_sub dX0_fillWorths_16 (by omega) ?_ | refine Eam_x_pu dX0_fillWorths_16 rfl ?_
  refine Eq_isn dX0_fillWorths_17 (by decide) ?_
  refine Eam_nl (pc' := 18) (l' := [_, _, _]) rfl rfl ?_
  obtain ⟨n, rfl⟩ : ∃ u, n = u + 1 := ⟨n - 1, by omega⟩
  refine c_fw_lp h7 h2n (n + 1) hq1 _ (Nat.le_refl _) hW2 hM2 (hq.fx hf2 (by simp) (by simp)) (hf2.mono (by simp) (by simp)) (fun a b s a1 a2 a3 a4 a5 a6 => by omega) (fun s hs1 hs2 => ?_)
  rw [hw2 s hs2, show n + 1 - s = 0 by omega]
  exact zI_0.symm
