/-! the reference's changes: levels -/
def WAY (n : Nat) (g : Bool) (l0 : List Nat) (d : Nat) (A : Nat → Option Nat) : Prop := ∀ i, i < N_ n → (∀ e, e ≤ d → (Rc n g l0 e (L_ n i) ↔ ∃ e', e' ≤ e ∧ A i = some e')) ∧ ∀ e, A i = some e → e ≤ d
def NGd (n : Nat) (g : Bool) (F : Nat → Nat → Nat) (l0 : List Nat) (d : Nat) : Prop := ∀ e, e < d → ∀ l, Rc n g l0 e l → ¬ good n g F l
/-- those at d ahead of k gone through -/
def IT (n : Nat) (g : Bool) (d : Nat) (A : Nat → Option Nat) (k : Nat) (A' : Nat → Option Nat) (b : Bool) : Prop := (∀ i, i < N_ n → (A i ≠ none → A' i = A i) ∧ (A i = none → ((∃ k', k' < k ∧ A k' = some d ∧ nb n g (L_ n k') (L_ n i)) → A' i = some (d + 1)) ∧ ((¬ ∃ k', k' < k ∧ A k' = some d ∧ nb n g (L_ n k') (L_ n i)) → A' i = none))) ∧ (b = true ↔ ∃ i, i < N_ n ∧ A i = none ∧ A' i ≠ none)
def FI (n : Nat) (g : Bool) (F : Nat → Nat → Nat) (d : Nat) (A : Nat → Option Nat) (k : Nat) (st : Option Nat) : Prop := match st with
  | none => ∀ k', k' < k → A k' = some d → ¬ good n g F (L_ n k')
  | some t => ∃ k', k' < k ∧ A k' = some d ∧ good n g F (L_ n k') ∧ dgl n (L_ n k') = t ∧ ∀ j, j < k' → A j = some d → ¬ good n g F (L_ n j)
theorem IT.zero {n : Nat} {g : Bool} {d : Nat} {A : Nat → Option Nat} : IT n g d A 0 A false := ⟨fun i _ => ⟨fun _ => rfl, fun h => ⟨fun ⟨k, z, _⟩ => by omega, fun _ => h⟩⟩, ⟨fun z => (nomatch z), fun ⟨i, _, h1, h2⟩ => absurd h1 h2⟩⟩
theorem IT.cur {n : Nat} {g : Bool} {d : Nat} {A A' : Nat → Option Nat} {k : Nat} {b : Bool} (m : IT n g d A k A' b) {i : Nat} (hi : i < N_ n) : A' i = some d ↔ A i = some d := by
  cases hA : A i with
  | some e => rw [(m.1 i hi).1 (by rw [hA]; exact fun z => nomatch z), hA]
  | none =>
    have q := (m.1 i hi).2 hA
    by_cases h : ∃ k', k' < k ∧ A k' = some d ∧ nb n g (L_ n k') (L_ n i)
    · rw [q.1 h]
      constructor
      · intro z; have := Option.some.inj z; omega
      · intro z; cases z
    · rw [q.2 h]
theorem IT.skip {n : Nat} {g : Bool} {d : Nat} {A A' : Nat → Option Nat} {k : Nat} {b : Bool} (m : IT n g d A k A' b) (h : A k ≠ some d) : IT n g d A (k + 1) A' b := by
  have e : ∀ i, (∃ k', k' < k + 1 ∧ A k' = some d ∧ nb n g (L_ n k') (L_ n i)) ↔ ∃ k', k' < k ∧ A k' = some d ∧ nb n g (L_ n k') (L_ n i) := fun i => by
    constructor
    · rintro ⟨k', h1, h2, h3⟩
      exact ⟨k', by have : k' ≠ k := fun z => h (z ▸ h2); omega, h2, h3⟩
    · rintro ⟨k', h1, h2, h3⟩
      exact ⟨k', by omega, h2, h3⟩
  unfold IT at m ⊢
  simp only [e]
  exact m
theorem IT.step {n : Nat} {g : Bool} {d : Nat} {A A' A2 : Nat → Option Nat} {k : Nat} {b b2 : Bool} (m : IT n g d A k A' b) (h : A k = some d) (r : RO n g (L_ n k) (d + 1) A' n A2 b2) : IT n g d A (k + 1) A2 (b2 || b) := by
  refine ⟨fun i hi => ⟨fun z => ?_, fun z => ⟨fun y => ?_, fun y => ?_⟩⟩, ?_⟩
  · have q := (m.1 i hi).1 z
    rw [← q] at z
    exact ((r.1 i hi).1 z).trans q
  · by_cases hc : A' i = none
    · refine ((r.1 i hi).2 hc).1 ?_
      obtain ⟨k', h1, h2, h3⟩ := y
      by_cases e : k' = k
      · rw [e] at h3; exact h3
      · have := ((m.1 i hi).2 z).1 ⟨k', by omega, h2, h3⟩
        rw [this] at hc; cases hc
    · have q := (r.1 i hi).1 hc
      rw [q]
      apply Classical.byContradiction
      intro w
      have q2 := (m.1 i hi).2 z
      by_cases hx : ∃ k', k' < k ∧ A k' = some d ∧ nb n g (L_ n k') (L_ n i)
      · exact w (q2.1 hx)
      · exact hc (q2.2 hx)
  · have hx : ¬ ∃ k', k' < k ∧ A k' = some d ∧ nb n g (L_ n k') (L_ n i) := fun ⟨k', h1, h2, h3⟩ => y ⟨k', by omega, h2, h3⟩
    have hc := ((m.1 i hi).2 z).2 hx
    exact ((r.1 i hi).2 hc).2 (fun w => y ⟨k, by omega, h, w⟩)
  · rw [Bool.or_eq_true, m.2, r.2]
    constructor
    · rintro (⟨i, h1, h2, h3⟩ | ⟨i, h1, h2, h3⟩)
      · have hA : A i = none := Classical.byContradiction (fun w => by rw [(m.1 i h1).1 w] at h2; exact w h2)
        exact ⟨i, h1, hA, by rw [((r.1 i h1).2 h2).1 h3]; exact fun z => nomatch z⟩
      · exact ⟨i, h1, h2, by rw [(r.1 i h1).1 h3]; exact h3⟩
    · rintro ⟨i, h1, h2, h3⟩
      by_cases hc : A' i = none
      · refine Or.inl ⟨i, h1, hc, ?_⟩
        apply Classical.byContradiction
        intro w
        exact h3 (((r.1 i h1).2 hc).2 w)
      · exact Or.inr ⟨i, h1, h2, hc⟩
theorem FI.skip {n : Nat} {g : Bool} {F : Nat → Nat → Nat} {d : Nat} {A : Nat → Option Nat} {k : Nat} {st : Option Nat} (m : FI n g F d A k st) (h : st ≠ none ∨ A k ≠ some d ∨ ¬ good n g F (L_ n k)) : FI n g F d A (k + 1) st := by
  cases st with
  | none =>
    intro k' h1 h2
    by_cases e : k' = k
    · subst e
      rcases h with z | z | z
      · exact absurd rfl z
      · exact absurd h2 z
      · exact z
    · exact m k' (by omega) h2
  | some t =>
    obtain ⟨k', h1, h2⟩ := m
    exact ⟨k', by omega, h2⟩
theorem FI.new {n : Nat} {g : Bool} {F : Nat → Nat → Nat} {d : Nat} {A : Nat → Option Nat} {k : Nat} (m : FI n g F d A k none) (h1 : A k = some d) (h2 : good n g F (L_ n k)) : FI n g F d A (k + 1) (some (dgl n (L_ n k))) := ⟨k, by omega, h1, h2, rfl, m⟩
theorem WAY.lv {n : Nat} {g : Bool} {l0 : List Nat} {d : Nat} {A : Nat → Option Nat} (m : WAY n g l0 d A) {i e : Nat} (hi : i < N_ n) (h : A i = some e) : Rc n g l0 e (L_ n i) := ((m i hi).1 e ((m i hi).2 e h)).mpr ⟨e, Nat.le_refl _, h⟩
theorem WAY.next {n : Nat} {g : Bool} {l0 : List Nat} (h0 : PL n l0) {d : Nat} {A A' : Nat → Option Nat} {b : Bool} (m : WAY n g l0 d A) (t : IT n g d A (N_ n) A' b) : WAY n g l0 (d + 1) A' := by
  have hlt : ∀ k, A k = some d → k < N_ n ∨ N_ n ≤ k := fun k _ => by omega
  intro i hi
  have keep : ∀ e, A i = some e → A' i = some e := fun e he => by rw [(t.1 i hi).1 (by rw [he]; exact fun z => nomatch z), he]
  have back : ∀ e, A' i = some e → A i = some e ∨ (A i = none ∧ e = d + 1 ∧ ∃ k', k' < N_ n ∧ A k' = some d ∧ nb n g (L_ n k') (L_ n i)) := fun e he => by
    cases hA : A i with
    | some e2 => rw [keep e2 hA] at he; exact Or.inl he
    | none =>
      have q := (t.1 i hi).2 hA
      by_cases hx : ∃ k', k' < N_ n ∧ A k' = some d ∧ nb n g (L_ n k') (L_ n i)
      · rw [q.1 hx] at he
        exact Or.inr ⟨rfl, (Option.some.inj he).symm, hx⟩
      · rw [q.2 hx] at he; cases he
  refine ⟨fun e he => ?_, fun e he => ?_⟩
  · by_cases hed : e ≤ d
    · rw [(m i hi).1 e hed]
      constructor
      · rintro ⟨e', h1, h2⟩
        exact ⟨e', h1, keep e' h2⟩
      · rintro ⟨e', h1, h2⟩
        rcases back e' h2 with z | ⟨_, z, _⟩
        · exact ⟨e', h1, z⟩
        · omega
    · have e1 : e = d + 1 := by omega
      subst e1
      constructor
      · rintro (h | ⟨l', h1, h2⟩)
        · obtain ⟨e', h3, h4⟩ := ((m i hi).1 d (Nat.le_refl _)).mp h
          exact ⟨e', by omega, keep e' h4⟩
        · obtain ⟨k', k1, rfl⟩ := L_ix (Rc_PL h0 h1)
          obtain ⟨e', h3, h4⟩ := ((m k' k1).1 d (Nat.le_refl _)).mp h1
          cases hA : A i with
          | some e2 =>
            have := (m i hi).2 e2 hA
            exact ⟨e2, by omega, keep e2 hA⟩
          | none =>
            by_cases e3 : e' = d
            · subst e3
              exact ⟨e' + 1, Nat.le_refl _, ((t.1 i hi).2 hA).1 ⟨k', k1, h4, h2⟩⟩
            · exfalso
              have r1 := m.lv k1 h4
              have r2 : Rc n g l0 (e' + 1) (L_ n i) := Or.inr ⟨_, r1, h2⟩
              obtain ⟨e4, h5, h6⟩ := ((m i hi).1 (e' + 1) (by omega)).mp r2
              rw [hA] at h6; cases h6
      · rintro ⟨e', h1, h2⟩
        rcases back e' h2 with z | ⟨_, _, k', k1, k2, k3⟩
        · exact Rc_mono (m.lv hi z) (by omega)
        · exact Or.inr ⟨_, m.lv k1 k2, k3⟩
  · rcases back e he with z | ⟨_, z, _⟩
    · have := (m i hi).2 e z; omega
    · omega
theorem NGd.next {n : Nat} {g : Bool} {F : Nat → Nat → Nat} {l0 : List Nat} (h0 : PL n l0) {d : Nat} {A : Nat → Option Nat} (m : NGd n g F l0 d) (w : WAY n g l0 d A) (f : FI n g F d A (N_ n) none) : NGd n g F l0 (d + 1) := fun e he l hl hg => by
  obtain ⟨k, k1, rfl⟩ := L_ix (Rc_PL h0 hl)
  obtain ⟨e', h3, h4⟩ := ((w k k1).1 e (by omega)).mp hl
  by_cases ed : e' = d
  · subst ed
    exact f k k1 h4 hg
  · have := (w k k1).2 e' h4
    exact m e' (by omega) _ (w.lv k1 h4) hg
theorem Ans_fo {n : Nat} (h7 : n ≤ 7) {g : Bool} {F : Nat → Nat → Nat} {l0 : List Nat} (h0 : PL n l0) {d t : Nat} {A : Nat → Option Nat} (m : NGd n g F l0 d) (w : WAY n g l0 d A) (f : FI n g F d A (N_ n) (some t)) : Ans n g F l0 (some (d, t)) := by
  obtain ⟨k, k1, k2, k3, k4, k5⟩ := f
  refine ⟨fun l hl hg => ?_, ⟨L_ n k, w.lv k1 k2, k3, k4⟩, m⟩
  obtain ⟨j, j1, rfl⟩ := L_ix (Rc_PL h0 hl)
  obtain ⟨e', h3, h4⟩ := ((w j j1).1 d (Nat.le_refl _)).mp hl
  by_cases ed : e' = d
  · subst ed
    have hjk : ¬ j < k := fun z => k5 j z h4 hg
    by_cases e : j = k
    · subst e; omega
    · have := L_lt h7 j1 (show k < j by omega); omega
  · exact absurd hg (m e' (by omega) _ (w.lv j1 h4))
theorem Ans_ex {n : Nat} {g : Bool} {F : Nat → Nat → Nat} {l0 : List Nat} (h0 : PL n l0) {d : Nat} {A A' : Nat → Option Nat} (m : NGd n g F l0 (d + 1)) (w : WAY n g l0 d A) (t : IT n g d A (N_ n) A' false) : Ans n g F l0 none := by
  have w2 := w.next h0 t
  have hst : ∀ l, Rc n g l0 (d + 1) l → Rc n g l0 d l := fun l hl => by
    obtain ⟨k, k1, rfl⟩ := L_ix (Rc_PL h0 hl)
    obtain ⟨e', h3, h4⟩ := ((w2 k k1).1 (d + 1) (Nat.le_refl _)).mp hl
    cases hA : A k with
    | some e => exact Rc_mono (w.lv k1 hA) ((w k k1).2 e hA)
    | none =>
      have := t.2.mpr ⟨k, k1, hA, by rw [h4]; exact fun z => nomatch z⟩
      cases this
  intro e l hl
  have : Rc n g l0 d l := Rc_st hst e l (Rc_mono hl (by omega))
  exact m d (by omega) l this
set_option maxHeartbeats 2000000 in
theorem r_ch_in {n : Nat} {g : Bool} {F : Nat → Nat → Nat} (h7 : n ≤ 7) {S T : Nat → Nat} {d y : Nat} (hd5 : d < 99999) {A : Nat → Option Nat} {h0 : am_H} (kk : ∀ A' b st h l6, IT n g d A (N_ n) A' b → FI n g F d A (N_ n) st → (∀ t, st = some t → t < 10000000) → Wd h → (∃ Sx Tx, RB h n g F Sx Tx) → SLs h ((LX n).map (dgl n)) → AW h n A' → Fx [63, 67] [] h0 h → am_E 10 m_X12_changes 170 [some (.ref 50), some (.int (nI y)), some (.int (nI (dg S n))), some (.int (oN st)), some (.int (nI d)), some (.int (nI (if b = true then 1 else 0))), l6] [] h (fun v h2 => (∃ o, Ans n g F (lS n S) o ∧ v = some (.int (if y = 0 then oN (o.map Prod.fst) else oN (o.map Prod.snd)))) ∧ Fx [63, 67] [] h0 h2 ∧ RB h2 n g F S T)) : ∀ q k A' b st h, k + q = N_ n → IT n g d A k A' b → FI n g F d A k st → (∀ t, st = some t → t < 10000000) → Wd h → (∃ Sx Tx, RB h n g F Sx Tx) → SLs h ((LX n).map (dgl n)) → AW h n A' → Fx [63, 67] [] h0 h → am_E 10 m_X12_changes 85 [some (.ref 50), some (.int (nI y)), some (.int (nI (dg S n))), some (.int (oN st)), some (.int (nI d)), some (.int (nI (if b = true then 1 else 0))), some (.int (nI k))] [] h (fun v h2 => (∃ o, Ans n g F (lS n S) o ∧ v = some (.int (if y = 0 then oN (o.map Prod.fst) else oN (o.map Prod.snd)))) ∧ Fx [63, 67] [] h0 h2 ∧ RB h2 n g F S T) := by
  intro q
  induction q with
  | zero =>
    intro k A' b st h hk hI hF hb hW hRe hQ hA hf
    have hN := hQ.n
    have hkn : k = N_ n := by omega
    subst hkn
    refine Eq_il dX12_changes_85 rfl ?_
    refine Eq_aln dX12_changes_87 rfl ?_
    refine Eq_getI dX12_changes_88 fl_X12_362 (ws_50 hW) rfl hQ.n.1 ?_
    refine Et_ic_ge 170 dX12_changes_91 rfl (by exact nI_le (by omega) (by omega)) ?_
    exact kk A' b st h _ hI hF hb hW hRe hQ hA hf
  | succ q ih =>
    intro k A' b st h hk hI hF hb hW hRe hQ hA hf
    obtain ⟨Sx, Tx, hR⟩ := id hRe
    have hN := hQ.n
    have hkN : k < N_ n := by omega
    have hl := L_PL hkN
    have hpm := hl.pm
    have hd := dgl_lt h7 hl.2.1 hl.2.2
    have hq := hQ.at hkN
    have hv := (hA k hkN).1
    have hve := (hA k hkN).2
    by_cases hAk : A k = some d
    · have hA'k := (hI.cur hkN).mpr hAk
      rw [hA'k] at hv
      have hv : am_i h 67 k = nI d := hv
      have hvd : nI d = nI d := rfl
      cases st with
      | some t =>
        have hbt := hb t rfl
        refine Eq_il dX12_changes_85 rfl ?_
        refine Eq_aln dX12_changes_87 rfl ?_
        refine Eq_getI dX12_changes_88 fl_X12_362 (ws_50 hW) rfl hQ.n.1 ?_
        refine Ef_ic_ge dX12_changes_91 (tgt := 170) rfl (by exact nI_ge (by omega) (by omega)) ?_
        refine Eq_aln dX12_changes_94 rfl ?_
        refine Eq_getR dX12_changes_95 fl_X12_63 (ws_50 hW) rfl (wp_50_32 hW) ?_
        refine Eq_il dX12_changes_98 rfl ?_
        refine Eq_ald dX12_changes_100 (ws_67 hW) (by omega) (by omega) (by first | exact hv | exact hq) ?_
        refine Eq_il dX12_changes_101 rfl ?_
        refine Ef_ic_ne dX12_changes_103 (tgt := 164) rfl (by exact hvd) ?_
        refine Eq_aln dX12_changes_106 rfl ?_
        refine Eq_aln dX12_changes_107 rfl ?_
        refine Eq_getR dX12_changes_108 fl_X12_60 (ws_50 hW) rfl (wp_50_31 hW) ?_
        refine Eq_il dX12_changes_111 rfl ?_
        refine Eq_ald dX12_changes_113 (ws_66 hW) (by omega) (by omega) (by first | exact hv | exact hq) ?_
        refine Eq_W1 (N := m_X12_write) dX12_changes_114 lk_X12_300 mV_X12_write (r_write hW hR (v := dgl n (L_ n k)) (by omega) hpm (fun s hs => dgs_dg (fun s hs => by have := (hpm.1 s hs).1; omega) hs)) (by decide) (ws_50 hW) rfl (by decide) (Nat.le_of_ble_eq_true rfl) (Nat.le_of_ble_eq_true rfl) (fun vq hq1 hq2 => ?_)
        obtain ⟨rfl, hf2, hR2⟩ := hq2
        have hW2 := hf2.Wd hW
        have hQ2 := hQ.fx hf2 (by decide)
        have hA2 := hA.fx hf2 (by decide) (by decide)
        refine Eq_iln dX12_changes_117 rfl ?_
        refine Eq_ic (v := -1) dX12_changes_118 rfl ?_
        refine Et_ic_ne 139 dX12_changes_119 rfl (by exact nI_m1 (by omega)) ?_
        refine Eq_iln dX12_changes_139 rfl ?_
        refine Eq_isn dX12_changes_140 (by decide) ?_
        refine Eam_nl (pc' := 141) (l' := [_, _, _, _, _, _, _]) rfl rfl ?_
        refine Eq_aln dX12_changes_141 rfl ?_
        refine Eq_il dX12_changes_142 rfl ?_
        refine Eq_ic (v := nI 1) dX12_changes_144 rfl ?_
        first | refine Eq_add dX12_changes_145 ?_ | refine Eam_x_pu dX12_changes_145 rfl ?_
        refine Eq_W1 (N := m_X12_reachOn) dX12_changes_146 lk_X12_384 mV_X12_reachOn (r_reachOn hW2 hl hR2 hQ2 hA2 (fr := d + 1) (by omega)) (by decide) (ws_50 hW2) rfl (by decide) (Nat.le_of_ble_eq_true rfl) (Nat.le_of_ble_eq_true rfl) (fun vq hq1 hq4 => ?_)
        obtain ⟨A2, b2, rfl, hO2, hA4, hf4, T4, hR4⟩ := hq4
        have hI2 := hI.step hAk hO2
        cases b2 with
        | true =>
          refine Et_if_ne 157 dX12_changes_149 rfl (by exact zf1) ?_
          refine Eq_ic (v := nI 1) dX12_changes_157 rfl ?_
          refine Eam_x_goto (tgt := 162) dX12_changes_158 rfl ?_
          refine Eq_is dX12_changes_162 (by decide) ?_
          refine Eam_nl (pc' := 164) (l' := [_, _, _, _, _, _, _]) rfl rfl ?_
          refine Eq_inc dX12_changes_164 rfl (by decide) ?_
          refine Eam_nl (pc' := 167) (l' := [_, _, _, _, _, _, _]) rfl rfl ?_
          refine Eam_x_goto (tgt := 85) dX12_changes_167 rfl ?_
          exact ih (k + 1) A2 (true || b) (some t) _ (by omega) hI2 (hF.skip (Or.inl (fun z => nomatch z))) hb (hf4.Wd hW2) ⟨_, _, hR4⟩ (hQ2.fx hf4 (by decide)) hA4 (hf.tr ((hf2.mono (by decide) (by decide)).tr hf4))
        | false =>
          refine Ef_if_ne dX12_changes_149 (tgt := 157) rfl (by rfl) ?_
          refine Eq_il dX12_changes_152 rfl ?_
          cases b with
          | true =>
            refine Ef_if_eq dX12_changes_154 (tgt := 161) rfl (by exact zf1) ?_
            refine Eq_ic (v := nI 1) dX12_changes_157 rfl ?_
            refine Eam_x_goto (tgt := 162) dX12_changes_158 rfl ?_
            refine Eq_is dX12_changes_162 (by decide) ?_
            refine Eam_nl (pc' := 164) (l' := [_, _, _, _, _, _, _]) rfl rfl ?_
            refine Eq_inc dX12_changes_164 rfl (by decide) ?_
            refine Eam_nl (pc' := 167) (l' := [_, _, _, _, _, _, _]) rfl rfl ?_
            refine Eam_x_goto (tgt := 85) dX12_changes_167 rfl ?_
            exact ih (k + 1) A2 (false || true) (some t) _ (by omega) hI2 (hF.skip (Or.inl (fun z => nomatch z))) hb (hf4.Wd hW2) ⟨_, _, hR4⟩ (hQ2.fx hf4 (by decide)) hA4 (hf.tr ((hf2.mono (by decide) (by decide)).tr hf4))
          | false =>
            refine Et_if_eq 161 dX12_changes_154 rfl (by rfl) ?_
            refine Eq_ic (v := nI 0) dX12_changes_161 rfl ?_
            refine Eq_is dX12_changes_162 (by decide) ?_
            refine Eam_nl (pc' := 164) (l' := [_, _, _, _, _, _, _]) rfl rfl ?_
            refine Eq_inc dX12_changes_164 rfl (by decide) ?_
            refine Eam_nl (pc' := 167) (l' := [_, _, _, _, _, _, _]) rfl rfl ?_
            refine Eam_x_goto (tgt := 85) dX12_changes_167 rfl ?_
            exact ih (k + 1) A2 (false || false) (some t) _ (by omega) hI2 (hF.skip (Or.inl (fun z => nomatch z))) hb (hf4.Wd hW2) ⟨_, _, hR4⟩ (hQ2.fx hf4 (by decide)) hA4 (hf.tr ((hf2.mono (by decide) (by decide)).tr hf4))
      | none =>
        by_cases hgd : good n g F (L_ n k)
        · have hga : alh n g F (sl (L_ n k)) (fs (sl (L_ n k)) n) = true := hgd
          refine Eq_il dX12_changes_85 rfl ?_
          refine Eq_aln dX12_changes_87 rfl ?_
          refine Eq_getI dX12_changes_88 fl_X12_362 (ws_50 hW) rfl hQ.n.1 ?_
          refine Ef_ic_ge dX12_changes_91 (tgt := 170) rfl (by exact nI_ge (by omega) (by omega)) ?_
          refine Eq_aln dX12_changes_94 rfl ?_
          refine Eq_getR dX12_changes_95 fl_X12_63 (ws_50 hW) rfl (wp_50_32 hW) ?_
          refine Eq_il dX12_changes_98 rfl ?_
          refine Eq_ald dX12_changes_100 (ws_67 hW) (by omega) (by omega) (by first | exact hv | exact hq | exact (congrFun (hf2.ia (by decide) (by decide)) _).trans hq) ?_
          refine Eq_il dX12_changes_101 rfl ?_
          refine Ef_ic_ne dX12_changes_103 (tgt := 164) rfl (by exact hvd) ?_
          refine Eq_aln dX12_changes_106 rfl ?_
          refine Eq_aln dX12_changes_107 rfl ?_
          refine Eq_getR dX12_changes_108 fl_X12_60 (ws_50 hW) rfl (wp_50_31 hW) ?_
          refine Eq_il dX12_changes_111 rfl ?_
          refine Eq_ald dX12_changes_113 (ws_66 hW) (by omega) (by omega) (by first | exact hv | exact hq | exact (congrFun (hf2.ia (by decide) (by decide)) _).trans hq) ?_
          refine Eq_W1 (N := m_X12_write) dX12_changes_114 lk_X12_300 mV_X12_write (r_write hW hR (v := dgl n (L_ n k)) (by omega) hpm (fun s hs => dgs_dg (fun s hs => by have := (hpm.1 s hs).1; omega) hs)) (by decide) (ws_50 hW) rfl (by decide) (Nat.le_of_ble_eq_true rfl) (Nat.le_of_ble_eq_true rfl) (fun vq hq1 hq2 => ?_)
          obtain ⟨rfl, hf2, hR2⟩ := hq2
          have hW2 := hf2.Wd hW
          have hQ2 := hQ.fx hf2 (by decide)
          have hA2 := hA.fx hf2 (by decide) (by decide)
          refine Eq_iln dX12_changes_117 rfl ?_
          refine Eq_ic (v := -1) dX12_changes_118 rfl ?_
          refine Ef_ic_ne dX12_changes_119 (tgt := 139) rfl (by rfl) ?_
          refine Eq_aln dX12_changes_122 rfl ?_
          refine Eq_V0 (N := m_X12_isAllHeard) dX12_changes_123 lk_X12_380 mV_X12_isAllHeard (r_isAllHeard hW2 hR2) (by decide) (ws_50 hW2) rfl (by decide) (Nat.le_of_ble_eq_true rfl) (Nat.le_of_ble_eq_true rfl) ?_
          refine Ef_if_eq dX12_changes_126 (tgt := 139) rfl (by rw [if_pos hga]; exact zf1) ?_
          refine Eq_aln dX12_changes_129 rfl ?_
          refine Eq_getR dX12_changes_130 fl_X12_60 (ws_50 hW2) rfl (wp_50_31 hW2) ?_
          refine Eq_il dX12_changes_133 rfl ?_
          refine Eq_ald dX12_changes_135 (ws_66 hW2) (by omega) (by omega) (by first | exact hv | exact hq | exact (congrFun (hf2.ia (by decide) (by decide)) _).trans hq) ?_
          refine Eam_x_goto (tgt := 140) dX12_changes_136 rfl ?_
          refine Eq_isn dX12_changes_140 (by decide) ?_
          refine Eam_nl (pc' := 141) (l' := [_, _, _, _, _, _, _]) rfl rfl ?_
          refine Eq_aln dX12_changes_141 rfl ?_
          refine Eq_il dX12_changes_142 rfl ?_
          refine Eq_ic (v := nI 1) dX12_changes_144 rfl ?_
          first | refine Eq_add dX12_changes_145 ?_ | refine Eam_x_pu dX12_changes_145 rfl ?_
          refine Eq_W1 (N := m_X12_reachOn) dX12_changes_146 lk_X12_384 mV_X12_reachOn (r_reachOn hW2 hl hR2 hQ2 hA2 (fr := d + 1) (by omega)) (by decide) (ws_50 hW2) rfl (by decide) (Nat.le_of_ble_eq_true rfl) (Nat.le_of_ble_eq_true rfl) (fun vq hq1 hq4 => ?_)
          obtain ⟨A2, b2, rfl, hO2, hA4, hf4, T4, hR4⟩ := hq4
          have hI2 := hI.step hAk hO2
          cases b2 with
          | true =>
            refine Et_if_ne 157 dX12_changes_149 rfl (by exact zf1) ?_
            refine Eq_ic (v := nI 1) dX12_changes_157 rfl ?_
            refine Eam_x_goto (tgt := 162) dX12_changes_158 rfl ?_
            refine Eq_is dX12_changes_162 (by decide) ?_
            refine Eam_nl (pc' := 164) (l' := [_, _, _, _, _, _, _]) rfl rfl ?_
            refine Eq_inc dX12_changes_164 rfl (by decide) ?_
            refine Eam_nl (pc' := 167) (l' := [_, _, _, _, _, _, _]) rfl rfl ?_
            refine Eam_x_goto (tgt := 85) dX12_changes_167 rfl ?_
            exact ih (k + 1) A2 (true || b) (some (dgl n (L_ n k))) _ (by omega) hI2 (FI.new hF hAk hgd) (fun t e => by cases e; exact hd) (hf4.Wd hW2) ⟨_, _, hR4⟩ (hQ2.fx hf4 (by decide)) hA4 (hf.tr ((hf2.mono (by decide) (by decide)).tr hf4))
          | false =>
            refine Ef_if_ne dX12_changes_149 (tgt := 157) rfl (by rfl) ?_
            refine Eq_il dX12_changes_152 rfl ?_
            cases b with
            | true =>
              refine Ef_if_eq dX12_changes_154 (tgt := 161) rfl (by exact zf1) ?_
              refine Eq_ic (v := nI 1) dX12_changes_157 rfl ?_
              refine Eam_x_goto (tgt := 162) dX12_changes_158 rfl ?_
              refine Eq_is dX12_changes_162 (by decide) ?_
              refine Eam_nl (pc' := 164) (l' := [_, _, _, _, _, _, _]) rfl rfl ?_
              refine Eq_inc dX12_changes_164 rfl (by decide) ?_
              refine Eam_nl (pc' := 167) (l' := [_, _, _, _, _, _, _]) rfl rfl ?_
              refine Eam_x_goto (tgt := 85) dX12_changes_167 rfl ?_
              exact ih (k + 1) A2 (false || true) (some (dgl n (L_ n k))) _ (by omega) hI2 (FI.new hF hAk hgd) (fun t e => by cases e; exact hd) (hf4.Wd hW2) ⟨_, _, hR4⟩ (hQ2.fx hf4 (by decide)) hA4 (hf.tr ((hf2.mono (by decide) (by decide)).tr hf4))
            | false =>
              refine Et_if_eq 161 dX12_changes_154 rfl (by rfl) ?_
              refine Eq_ic (v := nI 0) dX12_changes_161 rfl ?_
              refine Eq_is dX12_changes_162 (by decide) ?_
              refine Eam_nl (pc' := 164) (l' := [_, _, _, _, _, _, _]) rfl rfl ?_
              refine Eq_inc dX12_changes_164 rfl (by decide) ?_
              refine Eam_nl (pc' := 167) (l' := [_, _, _, _, _, _, _]) rfl rfl ?_
              refine Eam_x_goto (tgt := 85) dX12_changes_167 rfl ?_
              exact ih (k + 1) A2 (false || false) (some (dgl n (L_ n k))) _ (by omega) hI2 (FI.new hF hAk hgd) (fun t e => by cases e; exact hd) (hf4.Wd hW2) ⟨_, _, hR4⟩ (hQ2.fx hf4 (by decide)) hA4 (hf.tr ((hf2.mono (by decide) (by decide)).tr hf4))
        · have hga : ¬ alh n g F (sl (L_ n k)) (fs (sl (L_ n k)) n) = true := hgd
          refine Eq_il dX12_changes_85 rfl ?_
          refine Eq_aln dX12_changes_87 rfl ?_
          refine Eq_getI dX12_changes_88 fl_X12_362 (ws_50 hW) rfl hQ.n.1 ?_
          refine Ef_ic_ge dX12_changes_91 (tgt := 170) rfl (by exact nI_ge (by omega) (by omega)) ?_
          refine Eq_aln dX12_changes_94 rfl ?_
          refine Eq_getR dX12_changes_95 fl_X12_63 (ws_50 hW) rfl (wp_50_32 hW) ?_
          refine Eq_il dX12_changes_98 rfl ?_
          refine Eq_ald dX12_changes_100 (ws_67 hW) (by omega) (by omega) (by first | exact hv | exact hq) ?_
          refine Eq_il dX12_changes_101 rfl ?_
          refine Ef_ic_ne dX12_changes_103 (tgt := 164) rfl (by exact hvd) ?_
          refine Eq_aln dX12_changes_106 rfl ?_
          refine Eq_aln dX12_changes_107 rfl ?_
          refine Eq_getR dX12_changes_108 fl_X12_60 (ws_50 hW) rfl (wp_50_31 hW) ?_
          refine Eq_il dX12_changes_111 rfl ?_
          refine Eq_ald dX12_changes_113 (ws_66 hW) (by omega) (by omega) (by first | exact hv | exact hq) ?_
          refine Eq_W1 (N := m_X12_write) dX12_changes_114 lk_X12_300 mV_X12_write (r_write hW hR (v := dgl n (L_ n k)) (by omega) hpm (fun s hs => dgs_dg (fun s hs => by have := (hpm.1 s hs).1; omega) hs)) (by decide) (ws_50 hW) rfl (by decide) (Nat.le_of_ble_eq_true rfl) (Nat.le_of_ble_eq_true rfl) (fun vq hq1 hq2 => ?_)
          obtain ⟨rfl, hf2, hR2⟩ := hq2
          have hW2 := hf2.Wd hW
          have hQ2 := hQ.fx hf2 (by decide)
          have hA2 := hA.fx hf2 (by decide) (by decide)
          refine Eq_iln dX12_changes_117 rfl ?_
          refine Eq_ic (v := -1) dX12_changes_118 rfl ?_
          refine Ef_ic_ne dX12_changes_119 (tgt := 139) rfl (by rfl) ?_
          refine Eq_aln dX12_changes_122 rfl ?_
          refine Eq_V0 (N := m_X12_isAllHeard) dX12_changes_123 lk_X12_380 mV_X12_isAllHeard (r_isAllHeard hW2 hR2) (by decide) (ws_50 hW2) rfl (by decide) (Nat.le_of_ble_eq_true rfl) (Nat.le_of_ble_eq_true rfl) ?_
          refine Et_if_eq 139 dX12_changes_126 rfl (by rw [if_neg hga]; rfl) ?_
          refine Eq_iln dX12_changes_139 rfl ?_
          refine Eq_isn dX12_changes_140 (by decide) ?_
          refine Eam_nl (pc' := 141) (l' := [_, _, _, _, _, _, _]) rfl rfl ?_
          refine Eq_aln dX12_changes_141 rfl ?_
          refine Eq_il dX12_changes_142 rfl ?_
          refine Eq_ic (v := nI 1) dX12_changes_144 rfl ?_
          first | refine Eq_add dX12_changes_145 ?_ | refine Eam_x_pu dX12_changes_145 rfl ?_
          refine Eq_W1 (N := m_X12_reachOn) dX12_changes_146 lk_X12_384 mV_X12_reachOn (r_reachOn hW2 hl hR2 hQ2 hA2 (fr := d + 1) (by omega)) (by decide) (ws_50 hW2) rfl (by decide) (Nat.le_of_ble_eq_true rfl) (Nat.le_of_ble_eq_true rfl) (fun vq hq1 hq4 => ?_)
          obtain ⟨A2, b2, rfl, hO2, hA4, hf4, T4, hR4⟩ := hq4
          have hI2 := hI.step hAk hO2
          cases b2 with
          | true =>
            refine Et_if_ne 157 dX12_changes_149 rfl (by exact zf1) ?_
            refine Eq_ic (v := nI 1) dX12_changes_157 rfl ?_
            refine Eam_x_goto (tgt := 162) dX12_changes_158 rfl ?_
            refine Eq_is dX12_changes_162 (by decide) ?_
            refine Eam_nl (pc' := 164) (l' := [_, _, _, _, _, _, _]) rfl rfl ?_
            refine Eq_inc dX12_changes_164 rfl (by decide) ?_
            refine Eam_nl (pc' := 167) (l' := [_, _, _, _, _, _, _]) rfl rfl ?_
            refine Eam_x_goto (tgt := 85) dX12_changes_167 rfl ?_
            exact ih (k + 1) A2 (true || b) none _ (by omega) hI2 (hF.skip (Or.inr (Or.inr hgd))) hb (hf4.Wd hW2) ⟨_, _, hR4⟩ (hQ2.fx hf4 (by decide)) hA4 (hf.tr ((hf2.mono (by decide) (by decide)).tr hf4))
          | false =>
            refine Ef_if_ne dX12_changes_149 (tgt := 157) rfl (by rfl) ?_
            refine Eq_il dX12_changes_152 rfl ?_
            cases b with
            | true =>
              refine Ef_if_eq dX12_changes_154 (tgt := 161) rfl (by exact zf1) ?_
              refine Eq_ic (v := nI 1) dX12_changes_157 rfl ?_
              refine Eam_x_goto (tgt := 162) dX12_changes_158 rfl ?_
              refine Eq_is dX12_changes_162 (by decide) ?_
              refine Eam_nl (pc' := 164) (l' := [_, _, _, _, _, _, _]) rfl rfl ?_
              refine Eq_inc dX12_changes_164 rfl (by decide) ?_
              refine Eam_nl (pc' := 167) (l' := [_, _, _, _, _, _, _]) rfl rfl ?_
              refine Eam_x_goto (tgt := 85) dX12_changes_167 rfl ?_
              exact ih (k + 1) A2 (false || true) none _ (by omega) hI2 (hF.skip (Or.inr (Or.inr hgd))) hb (hf4.Wd hW2) ⟨_, _, hR4⟩ (hQ2.fx hf4 (by decide)) hA4 (hf.tr ((hf2.mono (by decide) (by decide)).tr hf4))
            | false =>
              refine Et_if_eq 161 dX12_changes_154 rfl (by rfl) ?_
              refine Eq_ic (v := nI 0) dX12_changes_161 rfl ?_
              refine Eq_is dX12_changes_162 (by decide) ?_
              refine Eam_nl (pc' := 164) (l' := [_, _, _, _, _, _, _]) rfl rfl ?_
              refine Eq_inc dX12_changes_164 rfl (by decide) ?_
              refine Eam_nl (pc' := 167) (l' := [_, _, _, _, _, _, _]) rfl rfl ?_
              refine Eam_x_goto (tgt := 85) dX12_changes_167 rfl ?_
              exact ih (k + 1) A2 (false || false) none _ (by omega) hI2 (hF.skip (Or.inr (Or.inr hgd))) hb (hf4.Wd hW2) ⟨_, _, hR4⟩ (hQ2.fx hf4 (by decide)) hA4 (hf.tr ((hf2.mono (by decide) (by decide)).tr hf4))
    · have hA'k : ¬ A' k = some d := fun z => hAk ((hI.cur hkN).mp z)
      have hvd : ¬ oN (A' k) = nI d := by
        cases hz : A' k with
        | none => exact fun z => nI_m1 (a := d) (by omega) z.symm
        | some e =>
          intro z
          have := hve e hz
          have e2 := (nI_eq (by omega) (by omega)).mp z
          exact hA'k (by rw [hz, e2])
      refine Eq_il dX12_changes_85 rfl ?_
      refine Eq_aln dX12_changes_87 rfl ?_
      refine Eq_getI dX12_changes_88 fl_X12_362 (ws_50 hW) rfl hQ.n.1 ?_
      refine Ef_ic_ge dX12_changes_91 (tgt := 170) rfl (by exact nI_ge (by omega) (by omega)) ?_
      refine Eq_aln dX12_changes_94 rfl ?_
      refine Eq_getR dX12_changes_95 fl_X12_63 (ws_50 hW) rfl (wp_50_32 hW) ?_
      refine Eq_il dX12_changes_98 rfl ?_
      refine Eq_ald dX12_changes_100 (ws_67 hW) (by omega) (by omega) hv ?_
      refine Eq_il dX12_changes_101 rfl ?_
      refine Et_ic_ne 164 dX12_changes_103 rfl (by exact hvd) ?_
      refine Eq_inc dX12_changes_164 rfl (by decide) ?_
      refine Eam_nl (pc' := 167) (l' := [_, _, _, _, _, _, _]) rfl rfl ?_
      refine Eam_x_goto (tgt := 85) dX12_changes_167 rfl ?_
      exact ih (k + 1) A' b st h (by omega) (hI.skip hAk) (hF.skip (Or.inr (Or.inl hAk))) hb hW hRe hQ hA hf
