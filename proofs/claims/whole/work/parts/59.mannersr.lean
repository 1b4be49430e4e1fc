/-! the reference reads manners -/
/-- the frame of reading into text n -/
def NF (n : Nat) (h h2 : am_H) : Prop := Fx [52, 53, 54] [(50, 3), (50, 4), (50, 5)] h h2 ∧ (∀ i, (i < 340 * n ∨ 340 * n + 340 ≤ i) → am_i h2 52 i = am_i h 52 i ∧ am_i h2 53 i = am_i h 53 i) ∧ ∀ k, k ≠ n → am_i h2 54 k = am_i h 54 k
theorem NF.rf {n : Nat} {h : am_H} : NF n h h := ⟨Fx.rf, fun _ _ => ⟨rfl, rfl⟩, fun _ _ => rfl⟩
theorem NF.tr {n : Nat} {h h1 h2 : am_H} (a : NF n h h1) (b : NF n h1 h2) : NF n h h2 := ⟨a.1.tr b.1, fun i hi => ⟨(b.2.1 i hi).1.trans (a.2.1 i hi).1, (b.2.1 i hi).2.trans (a.2.1 i hi).2⟩, fun k hk => (b.2.2 k hk).trans (a.2.2 k hk)⟩
theorem NF.of {n : Nat} {h h1 : am_H} (a : Fx [] [(50, 3), (50, 4), (50, 5)] h h1) : NF n h h1 := ⟨a.mono (by decide) (by decide), fun i _ => ⟨a.i (by decide) (by simp), a.i (by decide) (by simp)⟩, fun k _ => a.i (by decide) (by simp)⟩
theorem NF.of3 {n : Nat} {h h1 : am_H} (a : Fx [] [(50, 3)] h h1) : NF n h h1 := NF.of (a.mono (by decide) (by decide))
theorem NF.of4 {n : Nat} {h : am_H} {v : Int32} : NF n h (am_wI h 50 4 v) := NF.of (Fx.wI (Or.inr (by decide)))
theorem NF.of5 {n : Nat} {h : am_H} {v : Int32} : NF n h (am_wI h 50 5 v) := NF.of (Fx.wI (Or.inr (by decide)))
theorem NF.w3 {n : Nat} {h : am_H} {v : Int32} : NF n h (am_wI h 50 3 v) := NF.of (Fx.wI (Or.inr (by decide)))
/-- what is written for text n -/
def CW (h : am_H) (n : Nat) (l : Tks) : Prop := am_i h 50 14 = nI n ∧ n ≤ 4 ∧ am_i h 54 n = nI l.length ∧ l.length ≤ 160 ∧ ∀ i, i < l.length → am_i h 52 (340 * n + i) = nI (l.getD i (0, 0)).1 ∧ am_i h 53 (340 * n + i) = nI (l.getD i (0, 0)).2
theorem CW.fx {A : List Nat} {B : List (Nat × Nat)} {h h' : am_H} {n : Nat} {l : Tks} (m : CW h n l) (a : Fx A B h h') (ok : 50 ∉ A ∧ 52 ∉ A ∧ 53 ∉ A ∧ 54 ∉ A ∧ (50, 14) ∉ B ∧ 52 ∉ B.map Prod.fst ∧ 53 ∉ B.map Prod.fst ∧ 54 ∉ B.map Prod.fst) : CW h' n l := by
  unfold CW at m ⊢
  rw [a.i ok.1 ok.2.2.2.2.1, a.ia ok.2.1 ok.2.2.2.2.2.1, a.ia ok.2.2.1 ok.2.2.2.2.2.2.1, a.ia ok.2.2.2.1 ok.2.2.2.2.2.2.2]
  exact m
/-- one token more -/
def pw (h : am_H) (n c : Nat) (o v : Int32) : am_H := am_wI (am_wI (am_wI h 52 (340 * n + c) o) 53 (340 * n + c) v) 54 n (nI (c + 1))
theorem pwE {n c : Nat} {h : am_H} {o v : Int32} : pw h n c o v = am_wI (am_wI (am_wI h 52 (340 * n + c) o) 53 (340 * n + c) v) 54 n (nI (c + 1)) := rfl
theorem NF.pw {n c : Nat} {h : am_H} {o v : Int32} (hc : c < 340) : NF n h (pw h n c o v) := by
  refine ⟨(Fx.wI (Or.inl (by decide))).tr ((Fx.wI (Or.inl (by decide))).tr (Fx.wI (Or.inl (by decide)))), fun i hi => ⟨?_, ?_⟩, fun k hk => ?_⟩
  · simp only [pwE]
    rw [wI_ne (by decide), wI_ne (by decide), wI_eq, if_neg (by omega)]
  · simp only [pwE]
    rw [wI_ne (by decide), wI_eq, if_neg (by omega), wI_ne (by decide)]
  · simp only [pwE]
    rw [wI_eq, if_neg hk, wI_ne (by decide), wI_ne (by decide)]
theorem CW.put {h : am_H} {n : Nat} {l : Tks} (m : CW h n l) (h1 : l.length < 160) (t : Nat × Nat) : CW (pw h n l.length (nI t.1) (nI t.2)) n (l ++ [t]) := by
  refine ⟨m.1, m.2.1, ?_, by simp; omega, fun i hi => ?_⟩
  · unfold pw
    rw [wI_e0]
    simp
  · simp only [List.length_append, List.length_cons, List.length_nil] at hi
    unfold pw
    rw [wI_ne (r := 54) (r' := 52) (by decide), wI_ne (r := 53) (r' := 52) (by decide), wI_eq, wI_ne (r := 54) (r' := 53) (by decide), wI_eq, wI_ne (r := 52) (r' := 53) (by decide)]
    by_cases e : i = l.length
    · rw [if_pos (by omega), if_pos (by omega), e]
      simp [List.getD_eq_getElem?_getD]
    · rw [if_neg (by omega), if_neg (by omega)]
      have := m.2.2.2.2 i (by omega)
      simp only [List.getD_eq_getElem?_getD] at this ⊢
      rw [List.getElem?_append_left (by omega)]
      exact this
theorem NF.t {n : Nat} {h h2 : am_H} (a : NF n h h2) : am_i h2 50 14 = am_i h 50 14 := a.1.i (by decide) (by decide)
def RP (tl : Nat) (tp : Nat → Nat) (n : Nat) (r : Rd) (a L : Nat) (l : Tks) (h : am_H) (w : Option Value) (h2 : am_H) : Prop := w = none ∧ NF n h h2 ∧ match r.2 with
  | none => am_i h2 50 4 = nI r.1 ∧ (∃ b, RA h2 tl tp b ∧ b ≤ tl + L) ∧ ∃ c, am_i h2 54 n = nI c ∧ c + a ≤ l.length + r.1
  | some ts => am_i h2 50 4 = -1 ∧ RA h2 tl tp r.1 ∧ CW h2 n (l ++ ts) ∧ am_i h2 50 5 = am_i h 50 5
theorem RP.n {tl : Nat} {tp : Nat → Nat} {n a L : Nat} {r : Rd} {l : Tks} {h h2 : am_H} {w : Option Value} (m : RP tl tp n r a L l h w h2) (hr : r.2 = none) : w = none ∧ NF n h h2 ∧ am_i h2 50 4 = nI r.1 ∧ ∃ b c, RA h2 tl tp b ∧ b ≤ tl + L ∧ am_i h2 54 n = nI c ∧ c + a ≤ l.length + r.1 := by
  unfold RP at m
  simp only [hr] at m
  obtain ⟨m1, m2, m3, ⟨b, m4, m5⟩, c, m6, m7⟩ := m
  exact ⟨m1, m2, m3, b, c, m4, m5, m6, m7⟩
theorem RP.s {tl : Nat} {tp : Nat → Nat} {n a L : Nat} {r : Rd} {l ts : Tks} {h h2 : am_H} {w : Option Value} (m : RP tl tp n r a L l h w h2) (hr : r.2 = some ts) : w = none ∧ NF n h h2 ∧ am_i h2 50 4 = -1 ∧ RA h2 tl tp r.1 ∧ CW h2 n (l ++ ts) ∧ am_i h2 50 5 = am_i h 50 5 := by
  unfold RP at m
  simp only [hr] at m
  exact m
def RSC (tl : Nat) (tp : Nat → Nat) (n : Nat) (N : am_M) (d e L : Nat) (f : Nat → Rd) : Prop := ∀ h a l, Wd h → RA h tl tp a → a ≤ tl → CW h n l → l.length ≤ a → am_i h 50 4 = -1 → am_i h 50 5 = nI e → am_D d N [.ref 50] h (RP tl tp n (f a) a L l h)
set_option maxHeartbeats 2000000 in
theorem r_put {h : am_H} (hW : Wd h) {n c : Nat} (ht : am_i h 50 14 = nI n) (hn : n ≤ 4) (hc : am_i h 54 n = nI c) (hc3 : c < 340) {o v : Int32} : am_C 0 m_X12_put [.ref 50, .int o, .int v] h (none, pw h n c o v) := by
  refine q_aln dX12_put_0 rfl ?_
  refine q_getR dX12_put_1 fl_X12_13 (ws_50 hW) rfl (wp_50_6 hW) ?_
  refine q_sp (v := nI 340) dX12_put_4 rfl ?_
  refine q_aln dX12_put_7 rfl ?_
  refine q_getI dX12_put_8 fl_X12_120 (ws_50 hW) rfl ht ?_
  first | refine q_mul dX12_put_11 ?_ | refine am_x_pu dX12_put_11 rfl ?_
  refine q_aln dX12_put_12 rfl ?_
  refine q_getR dX12_put_13 fl_X12_19 (ws_50 hW) rfl (wp_50_8 hW) ?_
  refine q_aln dX12_put_16 rfl ?_
  refine q_getI dX12_put_17 fl_X12_120 (ws_50 hW) rfl ht ?_
  refine q_ald dX12_put_20 (ws_54 hW) (by omega) (by omega) hc ?_
  first | refine q_add dX12_put_21 ?_ | refine am_x_pu dX12_put_21 rfl ?_
  refine q_iln dX12_put_22 rfl ?_
  refine q_ast dX12_put_23 (ws_52 hW) (by omega) (by omega) ?_
  refine q_aln dX12_put_24 rfl ?_
  refine q_getR dX12_put_25 fl_X12_16 (ws_50 hW) rfl (wp_50_7 hW) ?_
  refine q_sp (v := nI 340) dX12_put_28 rfl ?_
  refine q_aln dX12_put_31 rfl ?_
  refine q_getI dX12_put_32 fl_X12_120 (ws_50 hW) rfl ht ?_
  first | refine q_mul dX12_put_35 ?_ | refine am_x_pu dX12_put_35 rfl ?_
  refine q_aln dX12_put_36 rfl ?_
  refine q_getR dX12_put_37 fl_X12_19 (ws_50 hW) rfl (wp_50_8 hW) ?_
  refine q_aln dX12_put_40 rfl ?_
  refine q_getI dX12_put_41 fl_X12_120 (ws_50 hW) rfl ht ?_
  refine q_ald dX12_put_44 (ws_54 hW) (by omega) (by omega) hc ?_
  first | refine q_add dX12_put_45 ?_ | refine am_x_pu dX12_put_45 rfl ?_
  refine q_iln dX12_put_46 rfl ?_
  refine q_ast dX12_put_47 (ws_53 hW) (by omega) (by omega) ?_
  refine q_aln dX12_put_48 rfl ?_
  refine q_getR dX12_put_49 fl_X12_19 (ws_50 hW) rfl (wp_50_8 hW) ?_
  refine q_aln dX12_put_52 rfl ?_
  refine q_getI dX12_put_53 fl_X12_120 (ws_50 hW) rfl ht ?_
  refine am_x_pu dX12_put_56 rfl ?_
  refine q_ald dX12_put_57 (ws_54 hW) (by omega) (by omega) hc ?_
  refine q_ic (v := nI 1) dX12_put_58 rfl ?_
  first | refine q_add dX12_put_59 ?_ | refine am_x_pu dX12_put_59 rfl ?_
  refine q_ast dX12_put_60 (ws_54 hW) (by omega) (by omega) ?_
  refine q_vr dX12_put_61 rfl ?_
  rfl
set_option maxHeartbeats 2000000 in
theorem r_letterOf_0 {h : am_H} : am_C 0 m_X12_letterOf [.int (nI 118)] h (some (.int (nI 0)), h) := by
  refine q_iln dX12_letterOf_0 rfl ?_
  refine q_bp (v := nI 118) dX12_letterOf_1 rfl ?_
  refine f_ic_ne dX12_letterOf_3 (tgt := 10) rfl (by rfl) ?_
  refine q_ic (v := nI 0) dX12_letterOf_6 rfl ?_
  refine am_x_goto (tgt := 61) dX12_letterOf_7 rfl ?_
  refine q_ir dX12_letterOf_61 rfl ?_
  rfl
set_option maxHeartbeats 2000000 in
theorem r_letterOf_1 {h : am_H} : am_C 0 m_X12_letterOf [.int (nI 119)] h (some (.int (nI 1)), h) := by
  refine q_iln dX12_letterOf_0 rfl ?_
  refine q_bp (v := nI 118) dX12_letterOf_1 rfl ?_
  refine t_ic_ne 10 dX12_letterOf_3 rfl (by decide +kernel) ?_
  refine q_iln dX12_letterOf_10 rfl ?_
  refine q_bp (v := nI 119) dX12_letterOf_11 rfl ?_
  refine f_ic_ne dX12_letterOf_13 (tgt := 20) rfl (by rfl) ?_
  refine q_ic (v := nI 1) dX12_letterOf_16 rfl ?_
  refine am_x_goto (tgt := 61) dX12_letterOf_17 rfl ?_
  refine q_ir dX12_letterOf_61 rfl ?_
  rfl
set_option maxHeartbeats 2000000 in
theorem r_letterOf_2 {h : am_H} : am_C 0 m_X12_letterOf [.int (nI 100)] h (some (.int (nI 2)), h) := by
  refine q_iln dX12_letterOf_0 rfl ?_
  refine q_bp (v := nI 118) dX12_letterOf_1 rfl ?_
  refine t_ic_ne 10 dX12_letterOf_3 rfl (by decide +kernel) ?_
  refine q_iln dX12_letterOf_10 rfl ?_
  refine q_bp (v := nI 119) dX12_letterOf_11 rfl ?_
  refine t_ic_ne 20 dX12_letterOf_13 rfl (by decide +kernel) ?_
  refine q_iln dX12_letterOf_20 rfl ?_
  refine q_bp (v := nI 100) dX12_letterOf_21 rfl ?_
  refine f_ic_ne dX12_letterOf_23 (tgt := 30) rfl (by rfl) ?_
  refine q_ic (v := nI 2) dX12_letterOf_26 rfl ?_
  refine am_x_goto (tgt := 61) dX12_letterOf_27 rfl ?_
  refine q_ir dX12_letterOf_61 rfl ?_
  rfl
set_option maxHeartbeats 2000000 in
theorem r_letterOf_3 {h : am_H} : am_C 0 m_X12_letterOf [.int (nI 101)] h (some (.int (nI 3)), h) := by
  refine q_iln dX12_letterOf_0 rfl ?_
  refine q_bp (v := nI 118) dX12_letterOf_1 rfl ?_
  refine t_ic_ne 10 dX12_letterOf_3 rfl (by decide +kernel) ?_
  refine q_iln dX12_letterOf_10 rfl ?_
  refine q_bp (v := nI 119) dX12_letterOf_11 rfl ?_
  refine t_ic_ne 20 dX12_letterOf_13 rfl (by decide +kernel) ?_
  refine q_iln dX12_letterOf_20 rfl ?_
  refine q_bp (v := nI 100) dX12_letterOf_21 rfl ?_
  refine t_ic_ne 30 dX12_letterOf_23 rfl (by decide +kernel) ?_
  refine q_iln dX12_letterOf_30 rfl ?_
  refine q_bp (v := nI 101) dX12_letterOf_31 rfl ?_
  refine f_ic_ne dX12_letterOf_33 (tgt := 40) rfl (by rfl) ?_
  refine q_ic (v := nI 3) dX12_letterOf_36 rfl ?_
  refine am_x_goto (tgt := 61) dX12_letterOf_37 rfl ?_
  refine q_ir dX12_letterOf_61 rfl ?_
  rfl
set_option maxHeartbeats 2000000 in
theorem r_letterOf_4 {h : am_H} : am_C 0 m_X12_letterOf [.int (nI 110)] h (some (.int (nI 4)), h) := by
  refine q_iln dX12_letterOf_0 rfl ?_
  refine q_bp (v := nI 118) dX12_letterOf_1 rfl ?_
  refine t_ic_ne 10 dX12_letterOf_3 rfl (by decide +kernel) ?_
  refine q_iln dX12_letterOf_10 rfl ?_
  refine q_bp (v := nI 119) dX12_letterOf_11 rfl ?_
  refine t_ic_ne 20 dX12_letterOf_13 rfl (by decide +kernel) ?_
  refine q_iln dX12_letterOf_20 rfl ?_
  refine q_bp (v := nI 100) dX12_letterOf_21 rfl ?_
  refine t_ic_ne 30 dX12_letterOf_23 rfl (by decide +kernel) ?_
  refine q_iln dX12_letterOf_30 rfl ?_
  refine q_bp (v := nI 101) dX12_letterOf_31 rfl ?_
  refine t_ic_ne 40 dX12_letterOf_33 rfl (by decide +kernel) ?_
  refine q_iln dX12_letterOf_40 rfl ?_
  refine q_bp (v := nI 110) dX12_letterOf_41 rfl ?_
  refine f_ic_ne dX12_letterOf_43 (tgt := 50) rfl (by rfl) ?_
  refine q_ic (v := nI 4) dX12_letterOf_46 rfl ?_
  refine am_x_goto (tgt := 61) dX12_letterOf_47 rfl ?_
  refine q_ir dX12_letterOf_61 rfl ?_
  rfl
set_option maxHeartbeats 2000000 in
theorem r_letterOf_5 {h : am_H} : am_C 0 m_X12_letterOf [.int (nI 115)] h (some (.int (nI 5)), h) := by
  refine q_iln dX12_letterOf_0 rfl ?_
  refine q_bp (v := nI 118) dX12_letterOf_1 rfl ?_
  refine t_ic_ne 10 dX12_letterOf_3 rfl (by decide +kernel) ?_
  refine q_iln dX12_letterOf_10 rfl ?_
  refine q_bp (v := nI 119) dX12_letterOf_11 rfl ?_
  refine t_ic_ne 20 dX12_letterOf_13 rfl (by decide +kernel) ?_
  refine q_iln dX12_letterOf_20 rfl ?_
  refine q_bp (v := nI 100) dX12_letterOf_21 rfl ?_
  refine t_ic_ne 30 dX12_letterOf_23 rfl (by decide +kernel) ?_
  refine q_iln dX12_letterOf_30 rfl ?_
  refine q_bp (v := nI 101) dX12_letterOf_31 rfl ?_
  refine t_ic_ne 40 dX12_letterOf_33 rfl (by decide +kernel) ?_
  refine q_iln dX12_letterOf_40 rfl ?_
  refine q_bp (v := nI 110) dX12_letterOf_41 rfl ?_
  refine t_ic_ne 50 dX12_letterOf_43 rfl (by decide +kernel) ?_
  refine q_iln dX12_letterOf_50 rfl ?_
  refine q_bp (v := nI 115) dX12_letterOf_51 rfl ?_
  refine f_ic_ne dX12_letterOf_53 (tgt := 60) rfl (by rfl) ?_
  refine q_ic (v := nI 5) dX12_letterOf_56 rfl ?_
  refine am_x_goto (tgt := 61) dX12_letterOf_57 rfl ?_
  refine q_ir dX12_letterOf_61 rfl ?_
  rfl
set_option maxHeartbeats 2000000 in
theorem r_letterOf {h : am_H} {x : Option Nat} (hx : ∀ c, x = some c → c < 256) : am_C 0 m_X12_letterOf [.int (oN x)] h (some (.int (oN (lti x))), h) := by
  cases hq : lti x with
  | some i =>
    obtain ⟨hi, he⟩ := lti_s hq
    rw [he]
    show am_C 0 m_X12_letterOf [.int (nI (lm i))] h (some (.int (nI i)), h)
    rcases (show i = 0 ∨ i = 1 ∨ i = 2 ∨ i = 3 ∨ i = 4 ∨ i = 5 by omega) with rfl | rfl | rfl | rfl | rfl | rfl
    · exact r_letterOf_0
    · exact r_letterOf_1
    · exact r_letterOf_2
    · exact r_letterOf_3
    · exact r_letterOf_4
    · exact r_letterOf_5
  | none =>
    have hn : ∀ i, i < 6 → x ≠ some (lm i) := fun i hi z => by rw [z, lti_6 hi] at hq; cases hq
    refine q_iln dX12_letterOf_0 rfl ?_
    refine q_bp (v := nI 118) dX12_letterOf_1 rfl ?_
    refine t_ic_ne 10 dX12_letterOf_3 rfl (by exact fun z => hn 0 (by omega) ((oNlt (fun k hk => by have := hx k hk; omega) _ (by decide)).mp z)) ?_
    refine q_iln dX12_letterOf_10 rfl ?_
    refine q_bp (v := nI 119) dX12_letterOf_11 rfl ?_
    refine t_ic_ne 20 dX12_letterOf_13 rfl (by exact fun z => hn 1 (by omega) ((oNlt (fun k hk => by have := hx k hk; omega) _ (by decide)).mp z)) ?_
    refine q_iln dX12_letterOf_20 rfl ?_
    refine q_bp (v := nI 100) dX12_letterOf_21 rfl ?_
    refine t_ic_ne 30 dX12_letterOf_23 rfl (by exact fun z => hn 2 (by omega) ((oNlt (fun k hk => by have := hx k hk; omega) _ (by decide)).mp z)) ?_
    refine q_iln dX12_letterOf_30 rfl ?_
    refine q_bp (v := nI 101) dX12_letterOf_31 rfl ?_
    refine t_ic_ne 40 dX12_letterOf_33 rfl (by exact fun z => hn 3 (by omega) ((oNlt (fun k hk => by have := hx k hk; omega) _ (by decide)).mp z)) ?_
    refine q_iln dX12_letterOf_40 rfl ?_
    refine q_bp (v := nI 110) dX12_letterOf_41 rfl ?_
    refine t_ic_ne 50 dX12_letterOf_43 rfl (by exact fun z => hn 4 (by omega) ((oNlt (fun k hk => by have := hx k hk; omega) _ (by decide)).mp z)) ?_
    refine q_iln dX12_letterOf_50 rfl ?_
    refine q_bp (v := nI 115) dX12_letterOf_51 rfl ?_
    refine t_ic_ne 60 dX12_letterOf_53 rfl (by exact fun z => hn 5 (by omega) ((oNlt (fun k hk => by have := hx k hk; omega) _ (by decide)).mp z)) ?_
    refine q_ic (v := -1) dX12_letterOf_60 rfl ?_
    refine q_ir dX12_letterOf_61 rfl ?_
    rfl
set_option maxHeartbeats 2000000 in
theorem r_opens6 {h : am_H} (hW : Wd h) {tl : Nat} {tp : Nat → Nat} {a : Nat} (hA : RA h tl tp a) (hw : am_i h 50 4 = -1) (hd : am_i h 50 5 = nI 6) : am_C 1 m_X12_opens [.ref 50] h (none, am_wI (am_wI (am_wI h 50 4 (nI a)) 50 5 (nI (6 + 1))) 50 3 (nI (a + 1))) := by
  have ha := hA.2.1
  refine q_aln dX12_opens_0 rfl ?_
  refine q_getI dX12_opens_1 fl_X12_123 (ws_50 hW) rfl (by first | exact hd | exact ha) ?_
  refine q_bp (v := nI 6) dX12_opens_4 rfl ?_
  refine f_ic_ne dX12_opens_6 (tgt := 13) rfl (by rfl) ?_
  refine q_aln dX12_opens_9 rfl ?_
  refine q_V0 (N := m_X12_bad) dX12_opens_10 lk_X12_126 mV_X12_bad (r_bad hW hA hw) (by decide) (ws_50 hW) rfl (by decide) (Nat.le_of_ble_eq_true rfl) (Nat.le_of_ble_eq_true rfl) ?_
  refine q_aln dX12_opens_13 rfl ?_
  refine am_x_pu dX12_opens_14 rfl ?_
  refine q_getI dX12_opens_15 fl_X12_123 (ws_50 hW) rfl (by first | exact hd | exact ha) ?_
  refine q_ic (v := nI 1) dX12_opens_18 rfl ?_
  first | refine q_add dX12_opens_19 ?_ | refine am_x_pu dX12_opens_19 rfl ?_
  refine am_x_putI dX12_opens_20 (fw_X12_123 rfl) (ws_50 hW) (Or.inl rfl) ?_
  refine q_aln dX12_opens_23 rfl ?_
  refine am_x_pu dX12_opens_24 rfl ?_
  refine q_getI dX12_opens_25 fl_X12_110 (ws_50 hW) rfl (by first | exact hd | exact ha) ?_
  refine q_ic (v := nI 1) dX12_opens_28 rfl ?_
  first | refine q_add dX12_opens_29 ?_ | refine am_x_pu dX12_opens_29 rfl ?_
  refine am_x_putI dX12_opens_30 (fw_X12_110 rfl) (ws_50 hW) (Or.inl rfl) ?_
  refine q_vr dX12_opens_33 rfl ?_
  rfl
set_option maxHeartbeats 2000000 in
theorem r_opens {h : am_H} (hW : Wd h) {tl : Nat} {tp : Nat → Nat} {a e : Nat} (hA : RA h tl tp a) (hd : am_i h 50 5 = nI e) (he : e < 6) : am_C 1 m_X12_opens [.ref 50] h (none, am_wI (am_wI h 50 5 (nI (e + 1))) 50 3 (nI (a + 1))) := by
  have ha := hA.2.1
  refine q_aln dX12_opens_0 rfl ?_
  refine q_getI dX12_opens_1 fl_X12_123 (ws_50 hW) rfl (by first | exact hd | exact ha) ?_
  refine q_bp (v := nI 6) dX12_opens_4 rfl ?_
  refine t_ic_ne 13 dX12_opens_6 rfl (by exact fun z => absurd ((nI_eq (by omega) (by omega)).mp z) (by omega)) ?_
  refine q_aln dX12_opens_13 rfl ?_
  refine am_x_pu dX12_opens_14 rfl ?_
  refine q_getI dX12_opens_15 fl_X12_123 (ws_50 hW) rfl (by first | exact hd | exact ha) ?_
  refine q_ic (v := nI 1) dX12_opens_18 rfl ?_
  first | refine q_add dX12_opens_19 ?_ | refine am_x_pu dX12_opens_19 rfl ?_
  refine am_x_putI dX12_opens_20 (fw_X12_123 rfl) (ws_50 hW) (Or.inl rfl) ?_
  refine q_aln dX12_opens_23 rfl ?_
  refine am_x_pu dX12_opens_24 rfl ?_
  refine q_getI dX12_opens_25 fl_X12_110 (ws_50 hW) rfl (by first | exact hd | exact ha) ?_
  refine q_ic (v := nI 1) dX12_opens_28 rfl ?_
  first | refine q_add dX12_opens_29 ?_ | refine am_x_pu dX12_opens_29 rfl ?_
  refine am_x_putI dX12_opens_30 (fw_X12_110 rfl) (ws_50 hW) (Or.inl rfl) ?_
  refine q_vr dX12_opens_33 rfl ?_
  rfl
set_option maxHeartbeats 2000000 in
theorem r_closesY {h : am_H} (hW : Wd h) {tl : Nat} {tp : Nat → Nat} {a e c : Nat} (hA : RA h tl tp a) (hl : a ≤ tl) (hw : am_i h 50 4 = -1) (hd : am_i h 50 5 = nI (e + 1)) (hc : sgn tl tp (nx tl tp a) = some c) : am_D 2 m_X12_closes [.ref 50, .int (nI c)] h (fun v h2 => v = none ∧ Fx [] [(50, 3), (50, 5)] h h2 ∧ am_i h2 50 4 = -1 ∧ RA h2 tl tp (nx tl tp a + 1) ∧ am_i h2 50 5 = nI e) := by
  have hx2 := nx_le (tp := tp) hl
  have hp1 := hA.1.2.1
  refine Eq_aln dX12_closes_0 rfl ?_
  refine Eq_getI dX12_closes_1 fl_X12_117 (ws_50 hW) rfl (by first | exact hw | exact hA1.2.1 | exact (hf1.i (by decide) (by decide)).trans hd) ?_
  refine Eq_ic (v := -1) dX12_closes_4 rfl ?_
  refine Ef_ic_ne dX12_closes_5 (tgt := 20) rfl (by rfl) ?_
  refine Eq_aln dX12_closes_8 rfl ?_
  refine Eq_W0 (N := m_X12_look) dX12_closes_9 lk_X12_129 mV_X12_look (r_look hW hA) (by decide) (ws_50 hW) rfl (by decide) (Nat.le_of_ble_eq_true rfl) (Nat.le_of_ble_eq_true rfl) (fun vq hq1 hq2 => ?_)
  obtain ⟨rfl, hf1, hA1⟩ := hq2
  have hW1 := hf1.Wd hW
  have hw1 : am_i hq1 50 4 = -1 := (hf1.i (by decide) (by decide)).trans hw
  refine Eq_iln dX12_closes_12 rfl ?_
  refine Et_ic_eq 20 dX12_closes_13 rfl (by rw [hc]; rfl) ?_
  refine Eq_aln dX12_closes_20 rfl ?_
  refine Eam_x_pu dX12_closes_21 rfl ?_
  refine Eq_getI dX12_closes_22 fl_X12_110 (ws_50 hW1) rfl (by first | exact hw | exact hA1.2.1 | exact (hf1.i (by decide) (by decide)).trans hd) ?_
  refine Eq_ic (v := nI 1) dX12_closes_25 rfl ?_
  first | refine Eq_add dX12_closes_26 ?_ | refine Eam_x_pu dX12_closes_26 rfl ?_
  refine Eam_x_putI dX12_closes_27 (fw_X12_110 rfl) (ws_50 hW1) (Or.inl rfl) ?_
  refine Eq_aln dX12_closes_30 rfl ?_
  refine Eam_x_pu dX12_closes_31 rfl ?_
  refine Eq_getI dX12_closes_32 fl_X12_123 (ws_50 hW1) rfl (by first | exact hw | exact hA1.2.1 | exact (hf1.i (by decide) (by decide)).trans hd) ?_
  refine Eq_ic (v := nI 1) dX12_closes_35 rfl ?_
  first | refine Eq_sub dX12_closes_36 (by omega) ?_ | refine Eam_x_pu dX12_closes_36 rfl ?_
  refine Eam_x_putI dX12_closes_37 (fw_X12_123 rfl) (ws_50 hW1) (Or.inl rfl) ?_
  refine Eq_vr dX12_closes_40 rfl ?_
  exact ⟨rfl, (hf1.mono (by decide) (by decide)).tr ((Fx.wI (Or.inr (by decide))).tr (Fx.wI (Or.inr (by decide)))), hw1, (hA1.mv (by omega)).fx (Fx.wI (A := []) (B := [(50, 5)]) (Or.inr (by decide))) (by decide), wI_e0⟩
set_option maxHeartbeats 2000000 in
theorem r_closesN {h : am_H} (hW : Wd h) {tl : Nat} {tp : Nat → Nat} {a c : Nat} (hc2 : c < 256) (hA : RA h tl tp a) (hl : a ≤ tl) (hw : am_i h 50 4 = -1) (hc : ¬ sgn tl tp (nx tl tp a) = some c) : am_D 2 m_X12_closes [.ref 50, .int (nI c)] h (fun v h2 => v = none ∧ Fx [] [(50, 3), (50, 4), (50, 5)] h h2 ∧ am_i h2 50 4 = nI (nx tl tp a) ∧ RA h2 tl tp (nx tl tp a + 1)) := by
  have h2 := rsgn256 hA (nx tl tp a)
  have hx2 := nx_le (tp := tp) hl
  have hp1 := hA.1.2.1
  refine Eq_aln dX12_closes_0 rfl ?_
  refine Eq_getI dX12_closes_1 fl_X12_117 (ws_50 hW) rfl (by first | exact hw | exact hA1.2.1 | rfl) ?_
  refine Eq_ic (v := -1) dX12_closes_4 rfl ?_
  refine Ef_ic_ne dX12_closes_5 (tgt := 20) rfl (by rfl) ?_
  refine Eq_aln dX12_closes_8 rfl ?_
  refine Eq_W0 (N := m_X12_look) dX12_closes_9 lk_X12_129 mV_X12_look (r_look hW hA) (by decide) (ws_50 hW) rfl (by decide) (Nat.le_of_ble_eq_true rfl) (Nat.le_of_ble_eq_true rfl) (fun vq hq1 hq2 => ?_)
  obtain ⟨rfl, hf1, hA1⟩ := hq2
  have hW1 := hf1.Wd hW
  have hw1 : am_i hq1 50 4 = -1 := (hf1.i (by decide) (by decide)).trans hw
  refine Eq_iln dX12_closes_12 rfl ?_
  refine Ef_ic_eq dX12_closes_13 (tgt := 20) rfl (by exact fun z => hc ((oNlt (fun k hk => by have := h2 k hk; omega) _ (by omega)).mp z)) ?_
  refine Eq_aln dX12_closes_16 rfl ?_
  refine Eq_V0 (N := m_X12_bad) dX12_closes_17 lk_X12_126 mV_X12_bad (r_bad hW1 hA1 hw1) (by decide) (ws_50 hW1) rfl (by decide) (Nat.le_of_ble_eq_true rfl) (Nat.le_of_ble_eq_true rfl) ?_
  refine Eq_aln dX12_closes_20 rfl ?_
  refine Eam_x_pu dX12_closes_21 rfl ?_
  refine Eq_getI dX12_closes_22 fl_X12_110 (ws_50 hW1) rfl (by first | exact hw | exact hA1.2.1 | rfl) ?_
  refine Eq_ic (v := nI 1) dX12_closes_25 rfl ?_
  first | refine Eq_add dX12_closes_26 ?_ | refine Eam_x_pu dX12_closes_26 rfl ?_
  refine Eam_x_putI dX12_closes_27 (fw_X12_110 rfl) (ws_50 hW1) (Or.inl rfl) ?_
  refine Eq_aln dX12_closes_30 rfl ?_
  refine Eam_x_pu dX12_closes_31 rfl ?_
  refine Eq_getI dX12_closes_32 fl_X12_123 (ws_50 hW1) rfl (by first | exact hw | exact hA1.2.1 | rfl) ?_
  refine Eq_ic (v := nI 1) dX12_closes_35 rfl ?_
  first | refine Eq_sub dX12_closes_36 (by omega) ?_ | refine Eam_x_pu dX12_closes_36 rfl ?_
  refine Eam_x_putI dX12_closes_37 (fw_X12_123 rfl) (ws_50 hW1) (Or.inl rfl) ?_
  refine Eq_vr dX12_closes_40 rfl ?_
  exact ⟨rfl, (hf1.mono (by decide) (by decide)).tr ((Fx.wI (Or.inr (by decide))).tr ((Fx.wI (Or.inr (by decide))).tr (Fx.wI (Or.inr (by decide))))), by rw [wI_o (by decide), wI_o (by decide), wI_e0], ((hA1.fx (Fx.wI (A := []) (B := [(50, 4)]) (Or.inr (by decide))) (by decide)).mv (by omega)).fx (Fx.wI (A := []) (B := [(50, 5)]) (Or.inr (by decide))) (by decide)⟩
set_option maxHeartbeats 2000000 in
theorem r_closesB {h : am_H} (hW : Wd h) {tl : Nat} {tp : Nat → Nat} {b p c : Nat} (hA : RA h tl tp b) (hb : b < 1000) (hp : p ≤ 1000) (hw : am_i h 50 4 = nI p) : am_D 2 m_X12_closes [.ref 50, .int (nI c)] h (fun v h2 => v = none ∧ Fx [] [(50, 3), (50, 5)] h h2 ∧ am_i h2 50 4 = nI p ∧ RA h2 tl tp (b + 1)) := by
  refine Eq_aln dX12_closes_0 rfl ?_
  refine Eq_getI dX12_closes_1 fl_X12_117 (ws_50 hW) rfl (by first | exact hw | exact hA.2.1 | rfl) ?_
  refine Eq_ic (v := -1) dX12_closes_4 rfl ?_
  refine Et_ic_ne 20 dX12_closes_5 rfl (by exact nI_m1 (by omega)) ?_
  refine Eq_aln dX12_closes_20 rfl ?_
  refine Eam_x_pu dX12_closes_21 rfl ?_
  refine Eq_getI dX12_closes_22 fl_X12_110 (ws_50 hW) rfl (by first | exact hw | exact hA.2.1 | rfl) ?_
  refine Eq_ic (v := nI 1) dX12_closes_25 rfl ?_
  first | refine Eq_add dX12_closes_26 ?_ | refine Eam_x_pu dX12_closes_26 rfl ?_
  refine Eam_x_putI dX12_closes_27 (fw_X12_110 rfl) (ws_50 hW) (Or.inl rfl) ?_
  refine Eq_aln dX12_closes_30 rfl ?_
  refine Eam_x_pu dX12_closes_31 rfl ?_
  refine Eq_getI dX12_closes_32 fl_X12_123 (ws_50 hW) rfl (by first | exact hw | exact hA.2.1 | rfl) ?_
  refine Eq_ic (v := nI 1) dX12_closes_35 rfl ?_
  first | refine Eq_sub dX12_closes_36 (by omega) ?_ | refine Eam_x_pu dX12_closes_36 rfl ?_
  refine Eam_x_putI dX12_closes_37 (fw_X12_123 rfl) (ws_50 hW) (Or.inl rfl) ?_
  refine Eq_vr dX12_closes_40 rfl ?_
  exact ⟨rfl, (Fx.wI (Or.inr (by decide))).tr (Fx.wI (Or.inr (by decide))), hw, (hA.mv (by omega)).fx (Fx.wI (A := []) (B := [(50, 5)]) (Or.inr (by decide))) (by decide)⟩
set_option maxHeartbeats 2000000 in
theorem r_plain_lp {tl : Nat} {tp : Nat → Nat} : ∀ k j b v, j + k = 4 → v < 10 ^ j → ∀ h, Wd h → RA h tl tp b → am_i h 50 4 = -1 → am_E 1 m_X12_plainNumber 4 [some (.ref 50), some (.int (nI v)), some (.int (nI j))] [] h (fun w h2 => w = some (.int (nI (ndg tl tp k b v).2)) ∧ Fx [] [(50, 3), (50, 4)] h h2 ∧ RA h2 tl tp (ndg tl tp k b v).1 ∧ am_i h2 50 4 = if isDg (sgn tl tp (ndg tl tp k b v).1) = true then nI (ndg tl tp k b v).1 else -1) := by
  intro k
  induction k with
  | zero =>
    intro j b v hj hv h hW hA hw
    show am_E _ _ _ _ _ _ (fun w h2 => w = some (.int (nI v)) ∧ Fx [] [(50, 3), (50, 4)] h h2 ∧ RA h2 tl tp b ∧ am_i h2 50 4 = if isDg (sgn tl tp b) = true then nI b else -1)
    by_cases hdg : isDg (sgn tl tp b) = true
    · rw [if_pos hdg]
      refine Eq_iln dX12_plainNumber_4 rfl ?_
      refine Eq_ic (v := nI 4) dX12_plainNumber_5 rfl ?_
      refine Et_ic_ge 48 dX12_plainNumber_6 rfl (by exact nI_le (by omega) (by omega)) ?_
      refine Eq_aln dX12_plainNumber_48 rfl ?_
      refine Eq_V0 (N := m_X12_here) dX12_plainNumber_49 lk_X12_113 mV_X12_here (r_here hW hA) (by decide) (ws_50 hW) rfl (by decide) (Nat.le_of_ble_eq_true rfl) (Nat.le_of_ble_eq_true rfl) ?_
      refine Eq_S1 (N := m_X12_isDigit) dX12_plainNumber_52 lk_X12_132 mS_X12_isDigit (r_isDigit (rsgn256 hA b)) (by decide) (Nat.le_of_ble_eq_true rfl) (Nat.le_of_ble_eq_true rfl) ?_
      refine Ef_if_eq dX12_plainNumber_55 (tgt := 62) rfl (by rw [if_pos hdg]; exact zf1) ?_
      refine Eq_aln dX12_plainNumber_58 rfl ?_
      refine Eq_V0 (N := m_X12_bad) dX12_plainNumber_59 lk_X12_126 mV_X12_bad (r_bad hW hA hw) (by decide) (ws_50 hW) rfl (by decide) (Nat.le_of_ble_eq_true rfl) (Nat.le_of_ble_eq_true rfl) ?_
      refine Eq_iln dX12_plainNumber_62 rfl ?_
      refine Eq_ir dX12_plainNumber_63 rfl ?_
      exact ⟨rfl, Fx.wI (Or.inr (by decide)), hA.fx (Fx.wI (A := []) (B := [(50, 4)]) (Or.inr (by decide))) (by decide), wI_e0⟩
    · rw [if_neg hdg]
      refine Eq_iln dX12_plainNumber_4 rfl ?_
      refine Eq_ic (v := nI 4) dX12_plainNumber_5 rfl ?_
      refine Et_ic_ge 48 dX12_plainNumber_6 rfl (by exact nI_le (by omega) (by omega)) ?_
      refine Eq_aln dX12_plainNumber_48 rfl ?_
      refine Eq_V0 (N := m_X12_here) dX12_plainNumber_49 lk_X12_113 mV_X12_here (r_here hW hA) (by decide) (ws_50 hW) rfl (by decide) (Nat.le_of_ble_eq_true rfl) (Nat.le_of_ble_eq_true rfl) ?_
      refine Eq_S1 (N := m_X12_isDigit) dX12_plainNumber_52 lk_X12_132 mS_X12_isDigit (r_isDigit (rsgn256 hA b)) (by decide) (Nat.le_of_ble_eq_true rfl) (Nat.le_of_ble_eq_true rfl) ?_
      refine Et_if_eq 62 dX12_plainNumber_55 rfl (by rw [if_neg hdg]; rfl) ?_
      refine Eq_iln dX12_plainNumber_62 rfl ?_
      refine Eq_ir dX12_plainNumber_63 rfl ?_
      exact ⟨rfl, Fx.rf, hA, hw⟩
  | succ k ih =>
    intro j b v hj hv h hW hA hw
    have pj : 10 ^ j ≤ 10 ^ 4 := Nat.pow_le_pow_right (by omega) (by omega)
    have hp1 := hA.1.2.1
    by_cases hdg : isDg (sgn tl tp b) = true
    · have hl := isDg_at hdg
      rw [ndg_y hdg]
      have k1 : Fx [] [(50, 3), (50, 4)] h (am_wI h 50 3 (nI (b + 1))) := Fx.wI (Or.inr (by decide))
      obtain ⟨v2, h2, z1, z2, z3, z4⟩ := ih (j + 1) (b + 1) (v * 10 + (tp b - 48)) (by omega) (by rw [Nat.pow_succ]; omega) _ (k1.Wd hW) (hA.mv (by omega)) hw
      refine ⟨v2, h2, ?_, z2, k1.tr z3, z4⟩
      rw [show v * 10 + (tp b - 48) = 10 * v + tp b - 48 by omega] at z1
      refine q_iln dX12_plainNumber_4 rfl ?_
      refine q_ic (v := nI 4) dX12_plainNumber_5 rfl ?_
      refine f_ic_ge dX12_plainNumber_6 (tgt := 48) rfl (by exact nI_ge (by omega) (by omega)) ?_
      refine q_aln dX12_plainNumber_9 rfl ?_
      refine q_V0 (N := m_X12_here) dX12_plainNumber_10 lk_X12_113 mV_X12_here (r_here hW hA) (by decide) (ws_50 hW) rfl (by decide) (Nat.le_of_ble_eq_true rfl) (Nat.le_of_ble_eq_true rfl) ?_
      refine q_S1 (N := m_X12_isDigit) dX12_plainNumber_13 lk_X12_132 mS_X12_isDigit (r_isDigit (rsgn256 hA b)) (by decide) (Nat.le_of_ble_eq_true rfl) (Nat.le_of_ble_eq_true rfl) ?_
      refine f_if_eq dX12_plainNumber_16 (tgt := 48) rfl (by rw [if_pos hdg]; exact zf1) ?_
      refine q_bp (v := nI 10) dX12_plainNumber_19 rfl ?_
      refine q_iln dX12_plainNumber_21 rfl ?_
      first | refine q_mul dX12_plainNumber_22 ?_ | refine am_x_pu dX12_plainNumber_22 rfl ?_
      refine q_aln dX12_plainNumber_23 rfl ?_
      refine q_V0 (N := m_X12_here) dX12_plainNumber_24 lk_X12_113 mV_X12_here ((by have z := r_here hW hA; rw [sgn_s hl.1] at z; exact z)) (by decide) (ws_50 hW) rfl (by decide) (Nat.le_of_ble_eq_true rfl) (Nat.le_of_ble_eq_true rfl) ?_
      first | refine q_add dX12_plainNumber_27 ?_ | refine am_x_pu dX12_plainNumber_27 rfl ?_
      refine q_bp (v := nI 48) dX12_plainNumber_28 rfl ?_
      first | refine q_sub dX12_plainNumber_30 (by omega) ?_ | refine am_x_pu dX12_plainNumber_30 rfl ?_
      refine q_isn dX12_plainNumber_31 (by decide) ?_
      refine am_nl (pc' := 32) (l' := [_, _, _]) rfl rfl ?_
      refine q_aln dX12_plainNumber_32 rfl ?_
      refine am_x_pu dX12_plainNumber_33 rfl ?_
      refine q_getI dX12_plainNumber_34 fl_X12_110 (ws_50 hW) rfl hA.2.1 ?_
      refine q_ic (v := nI 1) dX12_plainNumber_37 rfl ?_
      first | refine q_add dX12_plainNumber_38 ?_ | refine am_x_pu dX12_plainNumber_38 rfl ?_
      refine am_x_putI dX12_plainNumber_39 (fw_X12_110 rfl) (ws_50 hW) (Or.inl rfl) ?_
      refine q_inc dX12_plainNumber_42 rfl (by decide) ?_
      refine am_nl (pc' := 45) (l' := [_, _, _]) rfl rfl ?_
      refine am_x_goto (tgt := 4) dX12_plainNumber_45 rfl ?_
      exact z1
    · rw [ndg_n hdg]
      show am_E _ _ _ _ _ _ (fun w h2 => w = some (.int (nI v)) ∧ Fx [] [(50, 3), (50, 4)] h h2 ∧ RA h2 tl tp b ∧ am_i h2 50 4 = if isDg (sgn tl tp b) = true then nI b else -1)
      rw [if_neg hdg]
      refine Eq_iln dX12_plainNumber_4 rfl ?_
      refine Eq_ic (v := nI 4) dX12_plainNumber_5 rfl ?_
      refine Ef_ic_ge dX12_plainNumber_6 (tgt := 48) rfl (by exact nI_ge (by omega) (by omega)) ?_
      refine Eq_aln dX12_plainNumber_9 rfl ?_
      refine Eq_V0 (N := m_X12_here) dX12_plainNumber_10 lk_X12_113 mV_X12_here (r_here hW hA) (by decide) (ws_50 hW) rfl (by decide) (Nat.le_of_ble_eq_true rfl) (Nat.le_of_ble_eq_true rfl) ?_
      refine Eq_S1 (N := m_X12_isDigit) dX12_plainNumber_13 lk_X12_132 mS_X12_isDigit (r_isDigit (rsgn256 hA b)) (by decide) (Nat.le_of_ble_eq_true rfl) (Nat.le_of_ble_eq_true rfl) ?_
      refine Et_if_eq 48 dX12_plainNumber_16 rfl (by rw [if_neg hdg]; rfl) ?_
      refine Eq_aln dX12_plainNumber_48 rfl ?_
      refine Eq_V0 (N := m_X12_here) dX12_plainNumber_49 lk_X12_113 mV_X12_here (r_here hW hA) (by decide) (ws_50 hW) rfl (by decide) (Nat.le_of_ble_eq_true rfl) (Nat.le_of_ble_eq_true rfl) ?_
      refine Eq_S1 (N := m_X12_isDigit) dX12_plainNumber_52 lk_X12_132 mS_X12_isDigit (r_isDigit (rsgn256 hA b)) (by decide) (Nat.le_of_ble_eq_true rfl) (Nat.le_of_ble_eq_true rfl) ?_
      refine Et_if_eq 62 dX12_plainNumber_55 rfl (by rw [if_neg hdg]; rfl) ?_
      refine Eq_iln dX12_plainNumber_62 rfl ?_
      refine Eq_ir dX12_plainNumber_63 rfl ?_
      exact ⟨rfl, Fx.rf, hA, hw⟩
set_option maxHeartbeats 2000000 in
theorem r_plain {h : am_H} (hW : Wd h) {tl : Nat} {tp : Nat → Nat} {b : Nat} (hA : RA h tl tp b) (hw : am_i h 50 4 = -1) : am_D 1 m_X12_plainNumber [.ref 50] h (fun w h2 => w = some (.int (nI (ndg tl tp 4 b 0).2)) ∧ Fx [] [(50, 3), (50, 4)] h h2 ∧ RA h2 tl tp (ndg tl tp 4 b 0).1 ∧ am_i h2 50 4 = if isDg (sgn tl tp (ndg tl tp 4 b 0).1) = true then nI (ndg tl tp 4 b 0).1 else -1) := by
  refine Eq_ic (v := nI 0) dX12_plainNumber_0 rfl ?_
  refine Eq_isn dX12_plainNumber_1 (by decide) ?_
  refine Eam_nl (pc' := 2) (l' := [_, _, _]) rfl rfl ?_
  refine Eq_ic (v := nI 0) dX12_plainNumber_2 rfl ?_
  refine Eq_isn dX12_plainNumber_3 (by decide) ?_
  refine Eam_nl (pc' := 4) (l' := [_, _, _]) rfl rfl ?_
  exact r_plain_lp 4 0 b 0 (by omega) (by omega) h hW hA hw
set_option maxHeartbeats 2000000 in
theorem r_atom {tl : Nat} {tp : Nat → Nat} {n L d : Nat} (hL6 : L ≤ 6) {inner : Nat → Rd} (hi : L ≠ 0 → RSC tl tp n m_X12_sum d (6 - L + 1) (L - 1) inner) (hp : L ≠ 0 → Prs tl inner) (hdd : 2 ≤ d) : RSC tl tp n m_X12_atom (d + 1) (6 - L) L (atm tl tp L inner) := by
  intro h a l hW hA hal hC hl hw hd
  have h2 := rsgn256 hA (nx tl tp a)
  have hx1 := nx_ge (tl := tl) (tp := tp) (a := a)
  have hx2 := nx_le (tp := tp) hal
  have htl := hA.1.2.1
  unfold atm
  by_cases e : sgn tl tp (nx tl tp a) = some 91
  · rw [if_pos e]
    have hlt := (sgn_lt e).1
    have hj : lti (sgn tl tp (nx tl tp a)) = none := by rw [e]; rfl
    by_cases hL : L = 0
    · rw [if_pos hL]
      subst hL
      refine Eq_aln dX12_atom_0 rfl ?_
      refine Eq_W0 (N := m_X12_look) dX12_atom_1 lk_X12_129 mV_X12_look (r_look hW hA) (by omega) (ws_50 hW) rfl (by decide) (Nat.le_of_ble_eq_true rfl) (Nat.le_of_ble_eq_true rfl) (fun vq hq1 hq2 => ?_)
      obtain ⟨rfl, hf1, hA1⟩ := hq2
      have hW1 := hf1.Wd hW
      have hw1 : am_i hq1 50 4 = -1 := (hf1.i (by decide) (by decide)).trans hw
      have hd1 : am_i hq1 50 5 = nI (6) := (hf1.i (by decide) (by decide)).trans hd
      have hC1 := hC.fx hf1 (by decide)
      refine Eq_isn dX12_atom_4 (by decide) ?_
      refine Eam_nl (pc' := 5) (l' := [_, _]) rfl rfl ?_
      refine Eq_iln dX12_atom_5 rfl ?_
      refine Eq_S1 (N := m_X12_isDigit) dX12_atom_6 lk_X12_132 mS_X12_isDigit (r_isDigit h2) (by omega) (Nat.le_of_ble_eq_true rfl) (Nat.le_of_ble_eq_true rfl) ?_
      refine Et_if_eq 24 dX12_atom_9 rfl (by rw [if_neg (by rw [e]; decide)]; rfl) ?_
      refine Eq_iln dX12_atom_24 rfl ?_
      refine Eq_S1 (N := m_X12_letterOf) dX12_atom_25 lk_X12_143 mS_X12_letterOf ((by have z := r_letterOf (h := hq1) h2; rw [hj] at z; exact z)) (by omega) (Nat.le_of_ble_eq_true rfl) (Nat.le_of_ble_eq_true rfl) ?_
      refine Eq_ic (v := -1) dX12_atom_28 rfl ?_
      refine Et_ic_eq 54 dX12_atom_29 rfl (by rfl) ?_
      refine Eq_iln dX12_atom_54 rfl ?_
      refine Eq_bp (v := nI 91) dX12_atom_55 rfl ?_
      refine Ef_ic_ne dX12_atom_57 (tgt := 85) rfl (by rw [e]; rfl) ?_
      refine Eq_aln dX12_atom_60 rfl ?_
      refine Eq_V0 (N := m_X12_opens) dX12_atom_61 lk_X12_147 mV_X12_opens (r_opens6 hW1 hA1 hw1 hd1) (by omega) (ws_50 hW1) rfl (by decide) (Nat.le_of_ble_eq_true rfl) (Nat.le_of_ble_eq_true rfl) ?_
      refine Eq_aln dX12_atom_64 rfl ?_
      refine Eq_getI dX12_atom_65 fl_X12_117 (ws_50 hW1) rfl (by rw [wI_o (by decide), wI_o (by decide), wI_e0]) ?_
      refine Eq_ic (v := -1) dX12_atom_68 rfl ?_
      refine Et_ic_ne 89 dX12_atom_69 rfl (by exact nI_m1 (by omega)) ?_
      refine Eq_vr dX12_atom_89 rfl ?_
      exact ⟨rfl, (NF.of3 hf1).tr (NF.of4.tr (NF.of5.tr NF.w3)), by rw [wI_o (by decide), wI_o (by decide), wI_e0], ⟨_, ((hA1.fx (Fx.wI (A := []) (B := [(50, 4)]) (Or.inr (by decide))) (by decide)).fx (Fx.wI (A := []) (B := [(50, 5)]) (Or.inr (by decide))) (by decide)).mv (by omega), by omega⟩, l.length, hC1.2.2.1, by dsimp only; omega⟩
    · rw [if_neg hL]
      have hpi := hp hL (nx tl tp a + 1) (by omega)
      unfold clo
      cases hq : (inner (nx tl tp a + 1)).2 with
      | none =>
        rw [bd_n hq]
        refine Eq_aln dX12_atom_0 rfl ?_
        refine Eq_W0 (N := m_X12_look) dX12_atom_1 lk_X12_129 mV_X12_look (r_look hW hA) (by omega) (ws_50 hW) rfl (by decide) (Nat.le_of_ble_eq_true rfl) (Nat.le_of_ble_eq_true rfl) (fun vq hq1 hq2 => ?_)
        obtain ⟨rfl, hf1, hA1⟩ := hq2
        have hW1 := hf1.Wd hW
        have hw1 : am_i hq1 50 4 = -1 := (hf1.i (by decide) (by decide)).trans hw
        have hd1 : am_i hq1 50 5 = nI (6 - L) := (hf1.i (by decide) (by decide)).trans hd
        have hC1 := hC.fx hf1 (by decide)
        have ko : Fx [] [(50, 3), (50, 5)] hq1 (am_wI (am_wI hq1 50 5 (nI (6 - L + 1))) 50 3 (nI (nx tl tp a + 1))) := (Fx.wI (Or.inr (by decide))).tr (Fx.wI (Or.inr (by decide)))
        have hWo := ko.Wd hW1
        have hAo := (hA1.fx (Fx.wI (A := []) (B := [(50, 5)]) (r := 50) (j := 5) (v := nI (6 - L + 1)) (Or.inr (by decide))) (by decide)).mv (b := nx tl tp a + 1) (by omega)
        have hCo := hC1.fx ko (by decide)
        have hwo : am_i (am_wI (am_wI hq1 50 5 (nI (6 - L + 1))) 50 3 (nI (nx tl tp a + 1))) 50 4 = -1 := hw1
        have hdo : am_i (am_wI (am_wI hq1 50 5 (nI (6 - L + 1))) 50 3 (nI (nx tl tp a + 1))) 50 5 = nI (6 - L + 1) := (by rw [wI_o (by decide), wI_e0])
        have hno : NF n h (am_wI (am_wI hq1 50 5 (nI (6 - L + 1))) 50 3 (nI (nx tl tp a + 1))) := (NF.of3 hf1).tr (NF.of (ko.mono (by decide) (by decide)))
        refine Eq_isn dX12_atom_4 (by decide) ?_
        refine Eam_nl (pc' := 5) (l' := [_, _]) rfl rfl ?_
        refine Eq_iln dX12_atom_5 rfl ?_
        refine Eq_S1 (N := m_X12_isDigit) dX12_atom_6 lk_X12_132 mS_X12_isDigit (r_isDigit h2) (by omega) (Nat.le_of_ble_eq_true rfl) (Nat.le_of_ble_eq_true rfl) ?_
        refine Et_if_eq 24 dX12_atom_9 rfl (by rw [if_neg (by rw [e]; decide)]; rfl) ?_
        refine Eq_iln dX12_atom_24 rfl ?_
        refine Eq_S1 (N := m_X12_letterOf) dX12_atom_25 lk_X12_143 mS_X12_letterOf ((by have z := r_letterOf (h := hq1) h2; rw [hj] at z; exact z)) (by omega) (Nat.le_of_ble_eq_true rfl) (Nat.le_of_ble_eq_true rfl) ?_
        refine Eq_ic (v := -1) dX12_atom_28 rfl ?_
        refine Et_ic_eq 54 dX12_atom_29 rfl (by rfl) ?_
        refine Eq_iln dX12_atom_54 rfl ?_
        refine Eq_bp (v := nI 91) dX12_atom_55 rfl ?_
        refine Ef_ic_ne dX12_atom_57 (tgt := 85) rfl (by rw [e]; rfl) ?_
        refine Eq_aln dX12_atom_60 rfl ?_
        refine Eq_V0 (N := m_X12_opens) dX12_atom_61 lk_X12_147 mV_X12_opens (r_opens hW1 hA1 hd1 (by omega)) (by omega) (ws_50 hW1) rfl (by decide) (Nat.le_of_ble_eq_true rfl) (Nat.le_of_ble_eq_true rfl) ?_
        refine Eq_aln dX12_atom_64 rfl ?_
        refine Eq_getI dX12_atom_65 fl_X12_117 (ws_50 hW1) rfl (by first | exact hwo | exact hw1) ?_
        refine Eq_ic (v := -1) dX12_atom_68 rfl ?_
        refine Ef_ic_ne dX12_atom_69 (tgt := 89) rfl (by rfl) ?_
        refine Eq_aln dX12_atom_72 rfl ?_
        refine Eq_W0 (N := m_X12_sum) dX12_atom_73 lk_X12_150 mV_X12_sum (hi hL _ _ _ hWo hAo (by omega) hCo (by omega) hwo hdo) (by omega) (ws_50 hW1) rfl (by decide) (Nat.le_of_ble_eq_true rfl) (Nat.le_of_ble_eq_true rfl) (fun vq hq1 hq2 => ?_)
        obtain ⟨rfl, hn2, hw2, b, c, hA2, hb2, hc2, hc3⟩ := hq2.n hq
        have hW2 := hn2.1.Wd hWo
        refine Eq_aln dX12_atom_76 rfl ?_
        refine Eq_bp (v := nI 93) dX12_atom_77 rfl ?_
        refine Eq_W1 (N := m_X12_closes) dX12_atom_79 lk_X12_153 mV_X12_closes (r_closesB hW2 hA2 (by omega) (by omega) hw2) (by omega) (ws_50 hW2) rfl (by decide) (Nat.le_of_ble_eq_true rfl) (Nat.le_of_ble_eq_true rfl) (fun vq hq1 hq2 => ?_)
        obtain ⟨rfl, hf3, hw3, hA3⟩ := hq2
        refine Eam_x_goto (tgt := 89) dX12_atom_82 rfl ?_
        refine Eq_vr dX12_atom_89 rfl ?_
        exact ⟨rfl, hno.tr (hn2.tr (NF.of (hf3.mono (by decide) (by decide)))), hw3, ⟨_, hA3, by omega⟩, c, (hf3.i (by decide) (by simp)).trans hc2, by dsimp only; omega⟩
      | some ts =>
        rw [bd_s hq]
        have hul := hpi.2.2 ts hq
        by_cases ec : sgn tl tp (nx tl tp (inner (nx tl tp a + 1)).1) = some 93
        · rw [if_pos ec]
          refine Eq_aln dX12_atom_0 rfl ?_
          refine Eq_W0 (N := m_X12_look) dX12_atom_1 lk_X12_129 mV_X12_look (r_look hW hA) (by omega) (ws_50 hW) rfl (by decide) (Nat.le_of_ble_eq_true rfl) (Nat.le_of_ble_eq_true rfl) (fun vq hq1 hq2 => ?_)
          obtain ⟨rfl, hf1, hA1⟩ := hq2
          have hW1 := hf1.Wd hW
          have hw1 : am_i hq1 50 4 = -1 := (hf1.i (by decide) (by decide)).trans hw
          have hd1 : am_i hq1 50 5 = nI (6 - L) := (hf1.i (by decide) (by decide)).trans hd
          have hC1 := hC.fx hf1 (by decide)
          have ko : Fx [] [(50, 3), (50, 5)] hq1 (am_wI (am_wI hq1 50 5 (nI (6 - L + 1))) 50 3 (nI (nx tl tp a + 1))) := (Fx.wI (Or.inr (by decide))).tr (Fx.wI (Or.inr (by decide)))
          have hWo := ko.Wd hW1
          have hAo := (hA1.fx (Fx.wI (A := []) (B := [(50, 5)]) (r := 50) (j := 5) (v := nI (6 - L + 1)) (Or.inr (by decide))) (by decide)).mv (b := nx tl tp a + 1) (by omega)
          have hCo := hC1.fx ko (by decide)
          have hwo : am_i (am_wI (am_wI hq1 50 5 (nI (6 - L + 1))) 50 3 (nI (nx tl tp a + 1))) 50 4 = -1 := hw1
          have hdo : am_i (am_wI (am_wI hq1 50 5 (nI (6 - L + 1))) 50 3 (nI (nx tl tp a + 1))) 50 5 = nI (6 - L + 1) := (by rw [wI_o (by decide), wI_e0])
          have hno : NF n h (am_wI (am_wI hq1 50 5 (nI (6 - L + 1))) 50 3 (nI (nx tl tp a + 1))) := (NF.of3 hf1).tr (NF.of (ko.mono (by decide) (by decide)))
          refine Eq_isn dX12_atom_4 (by decide) ?_
          refine Eam_nl (pc' := 5) (l' := [_, _]) rfl rfl ?_
          refine Eq_iln dX12_atom_5 rfl ?_
          refine Eq_S1 (N := m_X12_isDigit) dX12_atom_6 lk_X12_132 mS_X12_isDigit (r_isDigit h2) (by omega) (Nat.le_of_ble_eq_true rfl) (Nat.le_of_ble_eq_true rfl) ?_
          refine Et_if_eq 24 dX12_atom_9 rfl (by rw [if_neg (by rw [e]; decide)]; rfl) ?_
          refine Eq_iln dX12_atom_24 rfl ?_
          refine Eq_S1 (N := m_X12_letterOf) dX12_atom_25 lk_X12_143 mS_X12_letterOf ((by have z := r_letterOf (h := hq1) h2; rw [hj] at z; exact z)) (by omega) (Nat.le_of_ble_eq_true rfl) (Nat.le_of_ble_eq_true rfl) ?_
          refine Eq_ic (v := -1) dX12_atom_28 rfl ?_
          refine Et_ic_eq 54 dX12_atom_29 rfl (by rfl) ?_
          refine Eq_iln dX12_atom_54 rfl ?_
          refine Eq_bp (v := nI 91) dX12_atom_55 rfl ?_
          refine Ef_ic_ne dX12_atom_57 (tgt := 85) rfl (by rw [e]; rfl) ?_
          refine Eq_aln dX12_atom_60 rfl ?_
          refine Eq_V0 (N := m_X12_opens) dX12_atom_61 lk_X12_147 mV_X12_opens (r_opens hW1 hA1 hd1 (by omega)) (by omega) (ws_50 hW1) rfl (by decide) (Nat.le_of_ble_eq_true rfl) (Nat.le_of_ble_eq_true rfl) ?_
          refine Eq_aln dX12_atom_64 rfl ?_
          refine Eq_getI dX12_atom_65 fl_X12_117 (ws_50 hW1) rfl (by first | exact hwo | exact hw1) ?_
          refine Eq_ic (v := -1) dX12_atom_68 rfl ?_
          refine Ef_ic_ne dX12_atom_69 (tgt := 89) rfl (by rfl) ?_
          refine Eq_aln dX12_atom_72 rfl ?_
          refine Eq_W0 (N := m_X12_sum) dX12_atom_73 lk_X12_150 mV_X12_sum (hi hL _ _ _ hWo hAo (by omega) hCo (by omega) hwo hdo) (by omega) (ws_50 hW1) rfl (by decide) (Nat.le_of_ble_eq_true rfl) (Nat.le_of_ble_eq_true rfl) (fun vq hq1 hq2 => ?_)
          obtain ⟨rfl, hn2, hw2, hA2, hC2, hd2⟩ := hq2.s hq
          have hW2 := hn2.1.Wd hWo
          refine Eq_aln dX12_atom_76 rfl ?_
          refine Eq_bp (v := nI 93) dX12_atom_77 rfl ?_
          refine Eq_W1 (N := m_X12_closes) dX12_atom_79 lk_X12_153 mV_X12_closes (r_closesY hW2 hA2 hpi.2.1 hw2 (hd2.trans hdo) ec) (by omega) (ws_50 hW2) rfl (by decide) (Nat.le_of_ble_eq_true rfl) (Nat.le_of_ble_eq_true rfl) (fun vq hq1 hq2 => ?_)
          obtain ⟨rfl, hf3, hw3, hA3, hd3⟩ := hq2
          refine Eam_x_goto (tgt := 89) dX12_atom_82 rfl ?_
          refine Eq_vr dX12_atom_89 rfl ?_
          exact ⟨rfl, hno.tr (hn2.tr (NF.of (hf3.mono (by decide) (by decide)))), hw3, hA3, hC2.fx hf3 (by decide), hd3.trans hd.symm⟩
        · rw [if_neg ec]
          have hxc := nx_le (tp := tp) hpi.2.1
          have hxd := nx_ge (tl := tl) (tp := tp) (a := (inner (nx tl tp a + 1)).1)
          refine Eq_aln dX12_atom_0 rfl ?_
          refine Eq_W0 (N := m_X12_look) dX12_atom_1 lk_X12_129 mV_X12_look (r_look hW hA) (by omega) (ws_50 hW) rfl (by decide) (Nat.le_of_ble_eq_true rfl) (Nat.le_of_ble_eq_true rfl) (fun vq hq1 hq2 => ?_)
          obtain ⟨rfl, hf1, hA1⟩ := hq2
          have hW1 := hf1.Wd hW
          have hw1 : am_i hq1 50 4 = -1 := (hf1.i (by decide) (by decide)).trans hw
          have hd1 : am_i hq1 50 5 = nI (6 - L) := (hf1.i (by decide) (by decide)).trans hd
          have hC1 := hC.fx hf1 (by decide)
          have ko : Fx [] [(50, 3), (50, 5)] hq1 (am_wI (am_wI hq1 50 5 (nI (6 - L + 1))) 50 3 (nI (nx tl tp a + 1))) := (Fx.wI (Or.inr (by decide))).tr (Fx.wI (Or.inr (by decide)))
          have hWo := ko.Wd hW1
          have hAo := (hA1.fx (Fx.wI (A := []) (B := [(50, 5)]) (r := 50) (j := 5) (v := nI (6 - L + 1)) (Or.inr (by decide))) (by decide)).mv (b := nx tl tp a + 1) (by omega)
          have hCo := hC1.fx ko (by decide)
          have hwo : am_i (am_wI (am_wI hq1 50 5 (nI (6 - L + 1))) 50 3 (nI (nx tl tp a + 1))) 50 4 = -1 := hw1
          have hdo : am_i (am_wI (am_wI hq1 50 5 (nI (6 - L + 1))) 50 3 (nI (nx tl tp a + 1))) 50 5 = nI (6 - L + 1) := (by rw [wI_o (by decide), wI_e0])
          have hno : NF n h (am_wI (am_wI hq1 50 5 (nI (6 - L + 1))) 50 3 (nI (nx tl tp a + 1))) := (NF.of3 hf1).tr (NF.of (ko.mono (by decide) (by decide)))
          refine Eq_isn dX12_atom_4 (by decide) ?_
          refine Eam_nl (pc' := 5) (l' := [_, _]) rfl rfl ?_
          refine Eq_iln dX12_atom_5 rfl ?_
          refine Eq_S1 (N := m_X12_isDigit) dX12_atom_6 lk_X12_132 mS_X12_isDigit (r_isDigit h2) (by omega) (Nat.le_of_ble_eq_true rfl) (Nat.le_of_ble_eq_true rfl) ?_
          refine Et_if_eq 24 dX12_atom_9 rfl (by rw [if_neg (by rw [e]; decide)]; rfl) ?_
          refine Eq_iln dX12_atom_24 rfl ?_
          refine Eq_S1 (N := m_X12_letterOf) dX12_atom_25 lk_X12_143 mS_X12_letterOf ((by have z := r_letterOf (h := hq1) h2; rw [hj] at z; exact z)) (by omega) (Nat.le_of_ble_eq_true rfl) (Nat.le_of_ble_eq_true rfl) ?_
          refine Eq_ic (v := -1) dX12_atom_28 rfl ?_
          refine Et_ic_eq 54 dX12_atom_29 rfl (by rfl) ?_
          refine Eq_iln dX12_atom_54 rfl ?_
          refine Eq_bp (v := nI 91) dX12_atom_55 rfl ?_
          refine Ef_ic_ne dX12_atom_57 (tgt := 85) rfl (by rw [e]; rfl) ?_
          refine Eq_aln dX12_atom_60 rfl ?_
          refine Eq_V0 (N := m_X12_opens) dX12_atom_61 lk_X12_147 mV_X12_opens (r_opens hW1 hA1 hd1 (by omega)) (by omega) (ws_50 hW1) rfl (by decide) (Nat.le_of_ble_eq_true rfl) (Nat.le_of_ble_eq_true rfl) ?_
          refine Eq_aln dX12_atom_64 rfl ?_
          refine Eq_getI dX12_atom_65 fl_X12_117 (ws_50 hW1) rfl (by first | exact hwo | exact hw1) ?_
          refine Eq_ic (v := -1) dX12_atom_68 rfl ?_
          refine Ef_ic_ne dX12_atom_69 (tgt := 89) rfl (by rfl) ?_
          refine Eq_aln dX12_atom_72 rfl ?_
          refine Eq_W0 (N := m_X12_sum) dX12_atom_73 lk_X12_150 mV_X12_sum (hi hL _ _ _ hWo hAo (by omega) hCo (by omega) hwo hdo) (by omega) (ws_50 hW1) rfl (by decide) (Nat.le_of_ble_eq_true rfl) (Nat.le_of_ble_eq_true rfl) (fun vq hq1 hq2 => ?_)
          obtain ⟨rfl, hn2, hw2, hA2, hC2, hd2⟩ := hq2.s hq
          have hW2 := hn2.1.Wd hWo
          refine Eq_aln dX12_atom_76 rfl ?_
          refine Eq_bp (v := nI 93) dX12_atom_77 rfl ?_
          refine Eq_W1 (N := m_X12_closes) dX12_atom_79 lk_X12_153 mV_X12_closes (r_closesN hW2 (by omega) hA2 hpi.2.1 hw2 ec) (by omega) (ws_50 hW2) rfl (by decide) (Nat.le_of_ble_eq_true rfl) (Nat.le_of_ble_eq_true rfl) (fun vq hq1 hq2 => ?_)
          obtain ⟨rfl, hf3, hw3, hA3⟩ := hq2
          refine Eam_x_goto (tgt := 89) dX12_atom_82 rfl ?_
          refine Eq_vr dX12_atom_89 rfl ?_
          exact ⟨rfl, hno.tr (hn2.tr (NF.of hf3)), hw3, ⟨_, hA3, by omega⟩, _, (hC2.fx hf3 (by decide)).2.2.1, by simp only [List.length_append]; omega⟩
  · rw [if_neg e]
    cases hj : lti (sgn tl tp (nx tl tp a)) with
    | some j =>
      obtain ⟨hj6, hjc⟩ := lti_s hj
      have hlt := (sgn_lt hjc).1
      have hdn : isDg (sgn tl tp (nx tl tp a)) = false := by
        rw [hjc]
        rcases (show j = 0 ∨ j = 1 ∨ j = 2 ∨ j = 3 ∨ j = 4 ∨ j = 5 by omega) with rfl | rfl | rfl | rfl | rfl | rfl <;> decide
      dsimp only
      refine Eq_aln dX12_atom_0 rfl ?_
      refine Eq_W0 (N := m_X12_look) dX12_atom_1 lk_X12_129 mV_X12_look (r_look hW hA) (by omega) (ws_50 hW) rfl (by decide) (Nat.le_of_ble_eq_true rfl) (Nat.le_of_ble_eq_true rfl) (fun vq hq1 hq2 => ?_)
      obtain ⟨rfl, hf1, hA1⟩ := hq2
      have hW1 := hf1.Wd hW
      have hw1 : am_i hq1 50 4 = -1 := (hf1.i (by decide) (by decide)).trans hw
      have hd1 : am_i hq1 50 5 = nI (6 - L) := (hf1.i (by decide) (by decide)).trans hd
      have hC1 := hC.fx hf1 (by decide)
      have kl : Fx [] [(50, 3)] hq1 (am_wI hq1 50 3 (nI (nx tl tp a + 1))) := Fx.wI (Or.inr (by decide))
      have hWl := kl.Wd hW1
      have hCl := hC1.fx kl (by decide)
      refine Eq_isn dX12_atom_4 (by decide) ?_
      refine Eam_nl (pc' := 5) (l' := [_, _]) rfl rfl ?_
      refine Eq_iln dX12_atom_5 rfl ?_
      refine Eq_S1 (N := m_X12_isDigit) dX12_atom_6 lk_X12_132 mS_X12_isDigit (r_isDigit h2) (by omega) (Nat.le_of_ble_eq_true rfl) (Nat.le_of_ble_eq_true rfl) ?_
      refine Et_if_eq 24 dX12_atom_9 rfl (by rw [if_neg (by rw [hdn]; decide)]; rfl) ?_
      refine Eq_iln dX12_atom_24 rfl ?_
      refine Eq_S1 (N := m_X12_letterOf) dX12_atom_25 lk_X12_143 mS_X12_letterOf ((by have z := r_letterOf (h := hq1) h2; rw [hj] at z; exact z)) (by omega) (Nat.le_of_ble_eq_true rfl) (Nat.le_of_ble_eq_true rfl) ?_
      refine Eq_ic (v := -1) dX12_atom_28 rfl ?_
      refine Ef_ic_eq dX12_atom_29 (tgt := 54) rfl (by exact nI_m1 (by omega)) ?_
      refine Eq_aln dX12_atom_32 rfl ?_
      refine Eam_x_pu dX12_atom_33 rfl ?_
      refine Eq_getI dX12_atom_34 fl_X12_110 (ws_50 hW1) rfl hA1.2.1 ?_
      refine Eq_ic (v := nI 1) dX12_atom_37 rfl ?_
      first | refine Eq_add dX12_atom_38 ?_ | refine Eam_x_pu dX12_atom_38 rfl ?_
      refine Eam_x_putI dX12_atom_39 (fw_X12_110 rfl) (ws_50 hW1) (Or.inl rfl) ?_
      refine Eq_aln dX12_atom_42 rfl ?_
      refine Eq_ic (v := nI 1) dX12_atom_43 rfl ?_
      refine Eq_iln dX12_atom_44 rfl ?_
      refine Eq_S1 (N := m_X12_letterOf) dX12_atom_45 lk_X12_143 mS_X12_letterOf ((by have z := r_letterOf (h := (am_wI hq1 50 3 (nI (nx tl tp a + 1)))) h2; rw [hj] at z; exact z)) (by omega) (Nat.le_of_ble_eq_true rfl) (Nat.le_of_ble_eq_true rfl) ?_
      refine Eq_V2 (N := m_X12_put) dX12_atom_48 lk_X12_139 mV_X12_put (r_put hWl hCl.1 hCl.2.1 hCl.2.2.1 (by omega)) (by omega) (ws_50 hW1) rfl (by decide) (Nat.le_of_ble_eq_true rfl) (Nat.le_of_ble_eq_true rfl) ?_
      refine Eam_x_goto (tgt := 89) dX12_atom_51 rfl ?_
      refine Eq_vr dX12_atom_89 rfl ?_
      exact ⟨rfl, (NF.of3 hf1).tr (NF.w3.tr (NF.pw (by omega))), hw1, (hA1.mv (by omega)).fx (A := [52, 53, 54]) (B := []) ((Fx.wI (Or.inl (by decide))).tr ((Fx.wI (Or.inl (by decide))).tr (Fx.wI (Or.inl (by decide))))) (by decide), hCl.put (by omega) (1, j), hf1.i (by decide) (by decide)⟩
    | none =>
      dsimp only
      by_cases hdg : isDg (sgn tl tp (nx tl tp a)) = true
      · have hdl := isDg_at hdg
        have hb4 := ndg_b (tl := tl) (tp := tp) 4 (nx tl tp a) 0 hx2
        have hb5 : nx tl tp a + 1 ≤ (ndg tl tp 4 (nx tl tp a) 0).1 := by
          rw [ndg_y hdg]
          exact (ndg_b (tl := tl) (tp := tp) 3 (nx tl tp a + 1) (0 * 10 + (tp (nx tl tp a) - 48)) (by omega)).1
        by_cases hd5 : isDg (sgn tl tp (ndg tl tp 4 (nx tl tp a) 0).1) = true
        · have hq : num tl tp 4 (nx tl tp a) = ((ndg tl tp 4 (nx tl tp a) 0).1, none) := by
            unfold num
            rw [nx_nx, if_pos hdg, if_pos hd5]
          rw [hq]
          refine Eq_aln dX12_atom_0 rfl ?_
          refine Eq_W0 (N := m_X12_look) dX12_atom_1 lk_X12_129 mV_X12_look (r_look hW hA) (by omega) (ws_50 hW) rfl (by decide) (Nat.le_of_ble_eq_true rfl) (Nat.le_of_ble_eq_true rfl) (fun vq hq1 hq2 => ?_)
          obtain ⟨rfl, hf1, hA1⟩ := hq2
          have hW1 := hf1.Wd hW
          have hw1 : am_i hq1 50 4 = -1 := (hf1.i (by decide) (by decide)).trans hw
          have hd1 : am_i hq1 50 5 = nI (6 - L) := (hf1.i (by decide) (by decide)).trans hd
          have hC1 := hC.fx hf1 (by decide)
          refine Eq_isn dX12_atom_4 (by decide) ?_
          refine Eam_nl (pc' := 5) (l' := [_, _]) rfl rfl ?_
          refine Eq_iln dX12_atom_5 rfl ?_
          refine Eq_S1 (N := m_X12_isDigit) dX12_atom_6 lk_X12_132 mS_X12_isDigit (r_isDigit h2) (by omega) (Nat.le_of_ble_eq_true rfl) (Nat.le_of_ble_eq_true rfl) ?_
          refine Ef_if_eq dX12_atom_9 (tgt := 24) rfl (by rw [if_pos hdg]; exact zf1) ?_
          refine Eq_aln dX12_atom_12 rfl ?_
          refine Eq_ic (v := nI 0) dX12_atom_13 rfl ?_
          refine Eq_aln dX12_atom_14 rfl ?_
          refine Eq_W0 (N := m_X12_plainNumber) dX12_atom_15 lk_X12_136 mV_X12_plainNumber (r_plain hW1 hA1 hw1) (by omega) (ws_50 hW1) rfl (by decide) (Nat.le_of_ble_eq_true rfl) (Nat.le_of_ble_eq_true rfl) (fun vq hq1 hq2 => ?_)
          rw [if_pos hd5] at hq2
          obtain ⟨rfl, hf2, hA2, hw2⟩ := hq2
          have hW2 := hf2.Wd hW1
          have hC2 := hC1.fx hf2 (by decide)
          refine Eq_V2 (N := m_X12_put) dX12_atom_18 lk_X12_139 mV_X12_put (r_put hW2 hC2.1 hC2.2.1 hC2.2.2.1 (by omega)) (by omega) (ws_50 hW2) rfl (by decide) (Nat.le_of_ble_eq_true rfl) (Nat.le_of_ble_eq_true rfl) ?_
          refine Eam_x_goto (tgt := 89) dX12_atom_21 rfl ?_
          refine Eq_vr dX12_atom_89 rfl ?_
          exact ⟨rfl, (NF.of3 hf1).tr ((NF.of (hf2.mono (by decide) (by decide))).tr (NF.pw (by omega))), hw2, ⟨_, hA2.fx (A := [52, 53, 54]) (B := []) ((Fx.wI (Or.inl (by decide))).tr ((Fx.wI (Or.inl (by decide))).tr (Fx.wI (Or.inl (by decide))))) (by decide), by omega⟩, l.length + 1, by rw [pwE, wI_e0], by dsimp only; omega⟩
        · have hq : num tl tp 4 (nx tl tp a) = ((ndg tl tp 4 (nx tl tp a) 0).1, some (ndg tl tp 4 (nx tl tp a) 0).2) := by
            unfold num
            rw [nx_nx, if_pos hdg, if_neg hd5]
          rw [hq]
          refine Eq_aln dX12_atom_0 rfl ?_
          refine Eq_W0 (N := m_X12_look) dX12_atom_1 lk_X12_129 mV_X12_look (r_look hW hA) (by omega) (ws_50 hW) rfl (by decide) (Nat.le_of_ble_eq_true rfl) (Nat.le_of_ble_eq_true rfl) (fun vq hq1 hq2 => ?_)
          obtain ⟨rfl, hf1, hA1⟩ := hq2
          have hW1 := hf1.Wd hW
          have hw1 : am_i hq1 50 4 = -1 := (hf1.i (by decide) (by decide)).trans hw
          have hd1 : am_i hq1 50 5 = nI (6 - L) := (hf1.i (by decide) (by decide)).trans hd
          have hC1 := hC.fx hf1 (by decide)
          refine Eq_isn dX12_atom_4 (by decide) ?_
          refine Eam_nl (pc' := 5) (l' := [_, _]) rfl rfl ?_
          refine Eq_iln dX12_atom_5 rfl ?_
          refine Eq_S1 (N := m_X12_isDigit) dX12_atom_6 lk_X12_132 mS_X12_isDigit (r_isDigit h2) (by omega) (Nat.le_of_ble_eq_true rfl) (Nat.le_of_ble_eq_true rfl) ?_
          refine Ef_if_eq dX12_atom_9 (tgt := 24) rfl (by rw [if_pos hdg]; exact zf1) ?_
          refine Eq_aln dX12_atom_12 rfl ?_
          refine Eq_ic (v := nI 0) dX12_atom_13 rfl ?_
          refine Eq_aln dX12_atom_14 rfl ?_
          refine Eq_W0 (N := m_X12_plainNumber) dX12_atom_15 lk_X12_136 mV_X12_plainNumber (r_plain hW1 hA1 hw1) (by omega) (ws_50 hW1) rfl (by decide) (Nat.le_of_ble_eq_true rfl) (Nat.le_of_ble_eq_true rfl) (fun vq hq1 hq2 => ?_)
          rw [if_neg hd5] at hq2
          obtain ⟨rfl, hf2, hA2, hw2⟩ := hq2
          have hW2 := hf2.Wd hW1
          have hC2 := hC1.fx hf2 (by decide)
          refine Eq_V2 (N := m_X12_put) dX12_atom_18 lk_X12_139 mV_X12_put (r_put hW2 hC2.1 hC2.2.1 hC2.2.2.1 (by omega)) (by omega) (ws_50 hW2) rfl (by decide) (Nat.le_of_ble_eq_true rfl) (Nat.le_of_ble_eq_true rfl) ?_
          refine Eam_x_goto (tgt := 89) dX12_atom_21 rfl ?_
          refine Eq_vr dX12_atom_89 rfl ?_
          exact ⟨rfl, (NF.of3 hf1).tr ((NF.of (hf2.mono (by decide) (by decide))).tr (NF.pw (by omega))), hw2, hA2.fx (A := [52, 53, 54]) (B := []) ((Fx.wI (Or.inl (by decide))).tr ((Fx.wI (Or.inl (by decide))).tr (Fx.wI (Or.inl (by decide))))) (by decide), hC2.put (by omega) (0, _), (hf2.i (by decide) (by decide)).trans (hf1.i (by decide) (by decide))⟩
      · have hq : num tl tp 4 (nx tl tp a) = (nx tl tp a, none) := by
          unfold num
          rw [nx_nx, if_neg hdg]
        rw [hq]
        refine Eq_aln dX12_atom_0 rfl ?_
        refine Eq_W0 (N := m_X12_look) dX12_atom_1 lk_X12_129 mV_X12_look (r_look hW hA) (by omega) (ws_50 hW) rfl (by decide) (Nat.le_of_ble_eq_true rfl) (Nat.le_of_ble_eq_true rfl) (fun vq hq1 hq2 => ?_)
        obtain ⟨rfl, hf1, hA1⟩ := hq2
        have hW1 := hf1.Wd hW
        have hw1 : am_i hq1 50 4 = -1 := (hf1.i (by decide) (by decide)).trans hw
        have hd1 : am_i hq1 50 5 = nI (6 - L) := (hf1.i (by decide) (by decide)).trans hd
        have hC1 := hC.fx hf1 (by decide)
        refine Eq_isn dX12_atom_4 (by decide) ?_
        refine Eam_nl (pc' := 5) (l' := [_, _]) rfl rfl ?_
        refine Eq_iln dX12_atom_5 rfl ?_
        refine Eq_S1 (N := m_X12_isDigit) dX12_atom_6 lk_X12_132 mS_X12_isDigit (r_isDigit h2) (by omega) (Nat.le_of_ble_eq_true rfl) (Nat.le_of_ble_eq_true rfl) ?_
        refine Et_if_eq 24 dX12_atom_9 rfl (by rw [if_neg hdg]; rfl) ?_
        refine Eq_iln dX12_atom_24 rfl ?_
        refine Eq_S1 (N := m_X12_letterOf) dX12_atom_25 lk_X12_143 mS_X12_letterOf ((by have z := r_letterOf (h := hq1) h2; rw [hj] at z; exact z)) (by omega) (Nat.le_of_ble_eq_true rfl) (Nat.le_of_ble_eq_true rfl) ?_
        refine Eq_ic (v := -1) dX12_atom_28 rfl ?_
        refine Et_ic_eq 54 dX12_atom_29 rfl (by rfl) ?_
        refine Eq_iln dX12_atom_54 rfl ?_
        refine Eq_bp (v := nI 91) dX12_atom_55 rfl ?_
        refine Et_ic_ne 85 dX12_atom_57 rfl (by exact fun z => e ((oNlt (fun k hk => by have := h2 k hk; omega) 91 (by omega)).mp z)) ?_
        refine Eq_aln dX12_atom_85 rfl ?_
        refine Eq_V0 (N := m_X12_bad) dX12_atom_86 lk_X12_126 mV_X12_bad (r_bad hW1 hA1 hw1) (by omega) (ws_50 hW1) rfl (by decide) (Nat.le_of_ble_eq_true rfl) (Nat.le_of_ble_eq_true rfl) ?_
        refine Eq_vr dX12_atom_89 rfl ?_
        exact ⟨rfl, (NF.of3 hf1).tr NF.of4, wI_e0, ⟨_, hA1.fx (Fx.wI (A := []) (B := [(50, 4)]) (Or.inr (by decide))) (by decide), by omega⟩, l.length, hC1.2.2.1, by dsimp only; omega⟩
