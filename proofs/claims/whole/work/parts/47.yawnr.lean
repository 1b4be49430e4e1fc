/-- one told of a yawn beside, where he may yawn -/
def rlx (F : Nat → Nat → Nat) (fr : Nat) (f : Nat → Nat) (m b : Nat) : Nat → Nat := if sus F fr m = true then up1 f m (min (f m) (yc f (F 5 m) (some b))) else f
theorem rlx_y {F : Nat → Nat → Nat} {fr : Nat} {f : Nat → Nat} {m b : Nat} (h : sus F fr m = true) : rlx F fr f m b = up1 f m (min (f m) (yc f (F 5 m) (some b))) := if_pos h
theorem rlx_n {F : Nat → Nat → Nat} {fr : Nat} {f : Nat → Nat} {m b : Nat} (h : ¬ sus F fr m = true) : rlx F fr f m b = f := if_neg h
theorem rlx_le {F : Nat → Nat → Nat} {fr : Nat} {f : Nat → Nat} {m b i : Nat} : rlx F fr f m b i ≤ f i := by
  by_cases h : sus F fr m = true
  · rw [rlx_y h]
    by_cases e : i = m
    · rw [e, up1_eq]; omega
    · rw [up1_ne e]; exact Nat.le_refl _
  · rw [rlx_n h]; exact Nat.le_refl _
theorem Yb.rx {n : Nat} {g : Bool} {F : Nat → Nat → Nat} {S T : Nat → Nat} {fr k B : Nat} {f : Nat → Nat} {m b : Nat} (p : Pm n S T) (hY : ∀ m, m < n → F 5 m ≤ 20) (hn : n ≤ 7) (y : Yb n g F S T fr k B f) (hm : m < n) (hb : nb1 n g S T m = some b ∨ nb2 n g S T m = some b) (hB : B ≤ 100000) : Yb n g F S T fr k (B + 20) (rlx F fr f m b) := by
  by_cases h : sus F fr m = true
  · rw [rlx_y h]; exact y.rl p hY hn hm h hb hB
  · rw [rlx_n h]; exact y.wk (by omega)
theorem yd_fr {n : Nat} {g : Bool} {F : Nat → Nat → Nat} {S T : Nat → Nat} {fr k : Nat} : yd n g F S T fr k fr = 0 := by
  have := yd_le (n := n) (g := g) (F := F) (S := S) (T := T) (fr := fr) (m := fr) (a := 0) k
  rw [Nat.zero_add] at this
  have h0 : yd n g F S T fr 0 fr = 0 := by simp [yd]
  omega
/-- what the pair of seat s and the one left of it has been told in round k -/
def Pr (n : Nat) (g : Bool) (F : Nat → Nat → Nat) (S T : Nat → Nat) (fr k : Nat) (f : Nat → Nat) (s : Nat) : Prop := ∀ l, lf n g s = some l → (sus F fr (S s) = true → f (S s) ≤ yc (yd n g F S T fr k) (F 5 (S s)) (some (S l))) ∧ (sus F fr (S l) = true → f (S l) ≤ yc (yd n g F S T fr k) (F 5 (S l)) (some (S s)))
theorem Pr.le {n : Nat} {g : Bool} {F : Nat → Nat → Nat} {S T : Nat → Nat} {fr k : Nat} {f f' : Nat → Nat} {s : Nat} (h : Pr n g F S T fr k f s) (hle : ∀ i, f' i ≤ f i) : Pr n g F S T fr k f' s := fun l hl => ⟨fun z => Nat.le_trans (hle _) ((h l hl).1 z), fun z => Nat.le_trans (hle _) ((h l hl).2 z)⟩
theorem Pr.step {n : Nat} {g : Bool} {F : Nat → Nat → Nat} {S T : Nat → Nat} {fr k B : Nat} {f : Nat → Nat} {s l : Nat} (p : Pm n S T) (hY : ∀ m, m < n → F 5 m ≤ 20) (hn : n ≤ 7) (hk : k ≤ 8) (y : Yb n g F S T fr k B f) (hs : s < n) (hl : lf n g s = some l) (hB : B ≤ 50000) : Yb n g F S T fr k (B + 40) (rlx F fr (rlx F fr f (S s) (S l)) (S l) (S s)) ∧ Pr n g F S T fr k (rlx F fr (rlx F fr f (S s) (S l)) (S l) (S s)) s := by
  have hln := lf_lt hs hl
  have hb1 : nb1 n g S T (S s) = some (S l) := by unfold nb1; rw [(p.1 s hs).2, hl]; rfl
  have hb2 : nb2 n g S T (S l) = some (S s) := by unfold nb2; rw [(p.1 l hln).2, lf_rt hs hl]; rfl
  have y1 := y.rx p hY hn (p.1 s hs).1 (Or.inl hb1) (by omega)
  have y2 := y1.rx p hY hn (p.1 l hln).1 (Or.inr hb2) (by omega)
  refine ⟨y2, fun l' hl' => ?_⟩
  rw [hl] at hl'
  cases hl'
  refine ⟨fun z => ?_, fun z => ?_⟩
  · have c1 := y.cand (b := some (S l)) p hY hk (p.1 s hs).1 (fun q hq => by cases hq; exact (p.1 l hln).1) (by omega)
    refine Nat.le_trans rlx_le ?_
    rw [rlx_y z, up1_eq]
    omega
  · have c1 := y1.cand (b := some (S s)) p hY hk (p.1 l hln).1 (fun q hq => by cases hq; exact (p.1 s hs).1) (by omega)
    rw [rlx_y z, up1_eq]
    omega
theorem Pr.fin {n : Nat} {g : Bool} {F : Nat → Nat → Nat} {S T : Nat → Nat} {fr k B : Nat} {f : Nat → Nat} (p : Pm n S T) (y : Yb n g F S T fr k B f) (hB : B ≤ 100000) (h : ∀ s, s < n → Pr n g F S T fr k f s) : ∀ i, i < n → f i ≤ yd n g F S T fr (k + 1) i := by
  intro i hi
  have h1 := y.1 i hi
  have h3 := y.2.2 i hi
  by_cases hs : sus F fr i = true
  · rw [yd_s]
    unfold yst
    rw [if_pos hs]
    have pi := p.2 i hi
    have a1 : f i ≤ yc (yd n g F S T fr k) (F 5 i) (nb1 n g S T i) := by
      unfold nb1
      cases hl : lf n g (T i) with
      | none => simp only [Option.map_none, yc]; omega
      | some l =>
        have := (h (T i) pi.1 l hl).1
        rw [pi.2] at this
        exact this hs
    have a2 : f i ≤ yc (yd n g F S T fr k) (F 5 i) (nb2 n g S T i) := by
      unfold nb2
      cases hl : rt n g (T i) with
      | none => simp only [Option.map_none, yc]; omega
      | some r =>
        have := (h r (rt_lt pi.1 hl) (T i) (rt_lf pi.1 hl)).2
        rw [pi.2] at this
        exact this hs
    omega
  · rw [sus_f hs]; exact h1
set_option maxHeartbeats 2000000 in
theorem r_catchYawn {h : am_H} {n : Nat} {g : Bool} {F : Nat → Nat → Nat} {S T : Nat → Nat} (hW : Wd h) (hR : RB h n g F S T) {f : Nat → Nat} (hA : YA 65 h n f) {B : Nat} (hfB : ∀ i, i < n → f i = 1000000 ∨ f i ≤ B) (hB : B ≤ 100000) {fr m b : Nat} (h0 : f fr = 0) (hm : m < n) (hb : b < n) : am_D 1 m_X12_catchYawn [.ref 50, .int (nI m), .int (nI b)] h (fun v h2 => v = none ∧ Fx [65] [] h h2 ∧ YA 65 h2 n (rlx F fr f m b)) := by
  obtain ⟨hn9, hg9, h7, hF, hB9, hS, hT⟩ := id hR
  have hbm := hB9 m hm
  have hfm := hfB m hm
  have hfb := hfB b hb
  have ham := hA m hm
  have hab := hA b hb
  have nos : ∀ i, ¬ sus F fr m = true → f i = rlx F fr f m b i := fun i z => by rw [rlx_n z]
  by_cases hv : f b = 1000000
  · have e : ∀ i, f i = rlx F fr f m b i := fun i => by
      by_cases z : sus F fr m = true
      · rw [rlx_y z, yc, if_pos hv]; exact up1_same (by omega) i
      · exact nos i z
    refine Eq_aln dX12_catchYawn_0 rfl ?_
    refine Eq_getR dX12_catchYawn_1 fl_X12_57 (ws_50 hW) rfl (wp_50_30 hW) ?_
    refine Eq_iln dX12_catchYawn_4 rfl ?_
    refine Eq_ald dX12_catchYawn_5 (ws_65 hW) (by omega) (by omega) (by first | exact hab | exact ham) ?_
    refine Eq_ic (v := -1) dX12_catchYawn_6 rfl ?_
    refine Et_ic_eq 29 dX12_catchYawn_7 rfl (by rw [hv]; rfl) ?_
    refine Eq_vr dX12_catchYawn_29 rfl ?_
    exact ⟨rfl, Fx.rf, hA.same (fun i _ => e i)⟩
  · rw [yN_s hv] at hab
    by_cases hd : F 3 m = 1
    · refine Eq_aln dX12_catchYawn_0 rfl ?_
      refine Eq_getR dX12_catchYawn_1 fl_X12_57 (ws_50 hW) rfl (wp_50_30 hW) ?_
      refine Eq_iln dX12_catchYawn_4 rfl ?_
      refine Eq_ald dX12_catchYawn_5 (ws_65 hW) (by omega) (by omega) (by first | exact hab | exact ham) ?_
      refine Eq_ic (v := -1) dX12_catchYawn_6 rfl ?_
      refine Ef_ic_eq dX12_catchYawn_7 (tgt := 29) rfl (by exact nI_m1 (by omega)) ?_
      refine Eq_aln dX12_catchYawn_10 rfl ?_
      refine Eq_iln dX12_catchYawn_11 rfl ?_
      refine Eq_ic (v := nI 3) dX12_catchYawn_12 rfl ?_
      refine Eq_V2 (N := m_X12_of) dX12_catchYawn_13 lk_X12_258 mV_X12_of (r_of hW hR hm (by omega)) (by decide) (ws_50 hW) rfl (by decide) (Nat.le_of_ble_eq_true rfl) (Nat.le_of_ble_eq_true rfl) ?_
      refine Eq_ic (v := nI 1) dX12_catchYawn_16 rfl ?_
      refine Et_ic_eq 29 dX12_catchYawn_17 rfl (by rw [hd]) ?_
      refine Eq_vr dX12_catchYawn_29 rfl ?_
      exact ⟨rfl, Fx.rf, hA.same (fun i _ => nos i (by simp [sus, hd]))⟩
    · by_cases hw : F 5 m = 0
      · refine Eq_aln dX12_catchYawn_0 rfl ?_
        refine Eq_getR dX12_catchYawn_1 fl_X12_57 (ws_50 hW) rfl (wp_50_30 hW) ?_
        refine Eq_iln dX12_catchYawn_4 rfl ?_
        refine Eq_ald dX12_catchYawn_5 (ws_65 hW) (by omega) (by omega) (by first | exact hab | exact ham) ?_
        refine Eq_ic (v := -1) dX12_catchYawn_6 rfl ?_
        refine Ef_ic_eq dX12_catchYawn_7 (tgt := 29) rfl (by exact nI_m1 (by omega)) ?_
        refine Eq_aln dX12_catchYawn_10 rfl ?_
        refine Eq_iln dX12_catchYawn_11 rfl ?_
        refine Eq_ic (v := nI 3) dX12_catchYawn_12 rfl ?_
        refine Eq_V2 (N := m_X12_of) dX12_catchYawn_13 lk_X12_258 mV_X12_of (r_of hW hR hm (by omega)) (by decide) (ws_50 hW) rfl (by decide) (Nat.le_of_ble_eq_true rfl) (Nat.le_of_ble_eq_true rfl) ?_
        refine Eq_ic (v := nI 1) dX12_catchYawn_16 rfl ?_
        refine Ef_ic_eq dX12_catchYawn_17 (tgt := 29) rfl (by exact fun z => hd ((nI_eq (by omega) (by omega)).mp z)) ?_
        refine Eq_aln dX12_catchYawn_20 rfl ?_
        refine Eq_iln dX12_catchYawn_21 rfl ?_
        refine Eq_ic (v := nI 5) dX12_catchYawn_22 rfl ?_
        refine Eq_V2 (N := m_X12_of) dX12_catchYawn_23 lk_X12_258 mV_X12_of (r_of hW hR hm (by omega)) (by decide) (ws_50 hW) rfl (by decide) (Nat.le_of_ble_eq_true rfl) (Nat.le_of_ble_eq_true rfl) ?_
        refine Ef_if_ne dX12_catchYawn_26 (tgt := 30) rfl (by rw [hw]; rfl) ?_
        refine Eq_vr dX12_catchYawn_29 rfl ?_
        exact ⟨rfl, Fx.rf, hA.same (fun i _ => nos i (by simp [sus, hw]))⟩
      · have e : ∀ i, up1 f m (min (f m) (f b + F 5 m)) i = rlx F fr f m b i := fun i => by
          by_cases z : sus F fr m = true
          · rw [rlx_y z, yc, if_neg hv]
          · have hmf : m = fr := by
              by_cases e : m = fr
              · exact e
              · exfalso; apply z; simp [sus, e, hd]; omega
            rw [rlx_n z]
            exact (up1_same (by rw [hmf, h0]; omega) i).symm
        by_cases hm1 : f m = 1000000
        · rw [yN_n hm1] at ham
          refine Eq_aln dX12_catchYawn_0 rfl ?_
          refine Eq_getR dX12_catchYawn_1 fl_X12_57 (ws_50 hW) rfl (wp_50_30 hW) ?_
          refine Eq_iln dX12_catchYawn_4 rfl ?_
          refine Eq_ald dX12_catchYawn_5 (ws_65 hW) (by omega) (by omega) (by first | exact hab | exact ham) ?_
          refine Eq_ic (v := -1) dX12_catchYawn_6 rfl ?_
          refine Ef_ic_eq dX12_catchYawn_7 (tgt := 29) rfl (by exact nI_m1 (by omega)) ?_
          refine Eq_aln dX12_catchYawn_10 rfl ?_
          refine Eq_iln dX12_catchYawn_11 rfl ?_
          refine Eq_ic (v := nI 3) dX12_catchYawn_12 rfl ?_
          refine Eq_V2 (N := m_X12_of) dX12_catchYawn_13 lk_X12_258 mV_X12_of (r_of hW hR hm (by omega)) (by decide) (ws_50 hW) rfl (by decide) (Nat.le_of_ble_eq_true rfl) (Nat.le_of_ble_eq_true rfl) ?_
          refine Eq_ic (v := nI 1) dX12_catchYawn_16 rfl ?_
          refine Ef_ic_eq dX12_catchYawn_17 (tgt := 29) rfl (by exact fun z => hd ((nI_eq (by omega) (by omega)).mp z)) ?_
          refine Eq_aln dX12_catchYawn_20 rfl ?_
          refine Eq_iln dX12_catchYawn_21 rfl ?_
          refine Eq_ic (v := nI 5) dX12_catchYawn_22 rfl ?_
          refine Eq_V2 (N := m_X12_of) dX12_catchYawn_23 lk_X12_258 mV_X12_of (r_of hW hR hm (by omega)) (by decide) (ws_50 hW) rfl (by decide) (Nat.le_of_ble_eq_true rfl) (Nat.le_of_ble_eq_true rfl) ?_
          refine Et_if_ne 30 dX12_catchYawn_26 rfl (by exact nI_ne0 (by omega) (by omega)) ?_
          refine Eq_aln dX12_catchYawn_30 rfl ?_
          refine Eq_getR dX12_catchYawn_31 fl_X12_57 (ws_50 hW) rfl (wp_50_30 hW) ?_
          refine Eq_iln dX12_catchYawn_34 rfl ?_
          refine Eq_ald dX12_catchYawn_35 (ws_65 hW) (by omega) (by omega) (by first | exact hab | exact ham) ?_
          refine Eq_aln dX12_catchYawn_36 rfl ?_
          refine Eq_iln dX12_catchYawn_37 rfl ?_
          refine Eq_ic (v := nI 5) dX12_catchYawn_38 rfl ?_
          refine Eq_V2 (N := m_X12_of) dX12_catchYawn_39 lk_X12_258 mV_X12_of (r_of hW hR hm (by omega)) (by decide) (ws_50 hW) rfl (by decide) (Nat.le_of_ble_eq_true rfl) (Nat.le_of_ble_eq_true rfl) ?_
          first | refine Eq_add dX12_catchYawn_42 ?_ | refine Eam_x_pu dX12_catchYawn_42 rfl ?_
          refine Eq_isn dX12_catchYawn_43 (by decide) ?_
          refine Eam_nl (pc' := 44) (l' := [_, _, _, _]) rfl rfl ?_
          refine Eq_aln dX12_catchYawn_44 rfl ?_
          refine Eq_getR dX12_catchYawn_45 fl_X12_57 (ws_50 hW) rfl (wp_50_30 hW) ?_
          refine Eq_iln dX12_catchYawn_48 rfl ?_
          refine Eq_aln dX12_catchYawn_49 rfl ?_
          refine Eq_getR dX12_catchYawn_50 fl_X12_57 (ws_50 hW) rfl (wp_50_30 hW) ?_
          refine Eq_iln dX12_catchYawn_53 rfl ?_
          refine Eq_ald dX12_catchYawn_54 (ws_65 hW) (by omega) (by omega) (by first | exact hab | exact ham) ?_
          refine Eq_ic (v := -1) dX12_catchYawn_55 rfl ?_
          refine Ef_ic_ne dX12_catchYawn_56 (tgt := 63) rfl (by rfl) ?_
          refine Eq_iln dX12_catchYawn_59 rfl ?_
          refine Eam_x_goto (tgt := 73) dX12_catchYawn_60 rfl ?_
          refine Eq_ast dX12_catchYawn_73 (ws_65 hW) (by omega) (by omega) ?_
          refine Eq_vr dX12_catchYawn_74 rfl ?_
          exact ⟨rfl, Fx.wI (Or.inl (by decide)), (hA.put (by omega)).same (fun i _ => by rw [← e i, show min (f m) (f b + F 5 m) = f b + F 5 m by omega])⟩
        · rw [yN_s hm1] at ham
          have em : (if nI (f b + F 5 m) < nI (f m) then nI (f b + F 5 m) else nI (f m)) = nI (min (f m) (f b + F 5 m)) := by
            by_cases q : f b + F 5 m < f m
            · rw [if_pos (nI_lt q (by omega))]; congr 1; omega
            · rw [if_neg (nI_nlt (by omega) (by omega))]; congr 1; omega
          refine Eq_aln dX12_catchYawn_0 rfl ?_
          refine Eq_getR dX12_catchYawn_1 fl_X12_57 (ws_50 hW) rfl (wp_50_30 hW) ?_
          refine Eq_iln dX12_catchYawn_4 rfl ?_
          refine Eq_ald dX12_catchYawn_5 (ws_65 hW) (by omega) (by omega) (by first | exact hab | exact ham) ?_
          refine Eq_ic (v := -1) dX12_catchYawn_6 rfl ?_
          refine Ef_ic_eq dX12_catchYawn_7 (tgt := 29) rfl (by exact nI_m1 (by omega)) ?_
          refine Eq_aln dX12_catchYawn_10 rfl ?_
          refine Eq_iln dX12_catchYawn_11 rfl ?_
          refine Eq_ic (v := nI 3) dX12_catchYawn_12 rfl ?_
          refine Eq_V2 (N := m_X12_of) dX12_catchYawn_13 lk_X12_258 mV_X12_of (r_of hW hR hm (by omega)) (by decide) (ws_50 hW) rfl (by decide) (Nat.le_of_ble_eq_true rfl) (Nat.le_of_ble_eq_true rfl) ?_
          refine Eq_ic (v := nI 1) dX12_catchYawn_16 rfl ?_
          refine Ef_ic_eq dX12_catchYawn_17 (tgt := 29) rfl (by exact fun z => hd ((nI_eq (by omega) (by omega)).mp z)) ?_
          refine Eq_aln dX12_catchYawn_20 rfl ?_
          refine Eq_iln dX12_catchYawn_21 rfl ?_
          refine Eq_ic (v := nI 5) dX12_catchYawn_22 rfl ?_
          refine Eq_V2 (N := m_X12_of) dX12_catchYawn_23 lk_X12_258 mV_X12_of (r_of hW hR hm (by omega)) (by decide) (ws_50 hW) rfl (by decide) (Nat.le_of_ble_eq_true rfl) (Nat.le_of_ble_eq_true rfl) ?_
          refine Et_if_ne 30 dX12_catchYawn_26 rfl (by exact nI_ne0 (by omega) (by omega)) ?_
          refine Eq_aln dX12_catchYawn_30 rfl ?_
          refine Eq_getR dX12_catchYawn_31 fl_X12_57 (ws_50 hW) rfl (wp_50_30 hW) ?_
          refine Eq_iln dX12_catchYawn_34 rfl ?_
          refine Eq_ald dX12_catchYawn_35 (ws_65 hW) (by omega) (by omega) (by first | exact hab | exact ham) ?_
          refine Eq_aln dX12_catchYawn_36 rfl ?_
          refine Eq_iln dX12_catchYawn_37 rfl ?_
          refine Eq_ic (v := nI 5) dX12_catchYawn_38 rfl ?_
          refine Eq_V2 (N := m_X12_of) dX12_catchYawn_39 lk_X12_258 mV_X12_of (r_of hW hR hm (by omega)) (by decide) (ws_50 hW) rfl (by decide) (Nat.le_of_ble_eq_true rfl) (Nat.le_of_ble_eq_true rfl) ?_
          first | refine Eq_add dX12_catchYawn_42 ?_ | refine Eam_x_pu dX12_catchYawn_42 rfl ?_
          refine Eq_isn dX12_catchYawn_43 (by decide) ?_
          refine Eam_nl (pc' := 44) (l' := [_, _, _, _]) rfl rfl ?_
          refine Eq_aln dX12_catchYawn_44 rfl ?_
          refine Eq_getR dX12_catchYawn_45 fl_X12_57 (ws_50 hW) rfl (wp_50_30 hW) ?_
          refine Eq_iln dX12_catchYawn_48 rfl ?_
          refine Eq_aln dX12_catchYawn_49 rfl ?_
          refine Eq_getR dX12_catchYawn_50 fl_X12_57 (ws_50 hW) rfl (wp_50_30 hW) ?_
          refine Eq_iln dX12_catchYawn_53 rfl ?_
          refine Eq_ald dX12_catchYawn_54 (ws_65 hW) (by omega) (by omega) (by first | exact hab | exact ham) ?_
          refine Eq_ic (v := -1) dX12_catchYawn_55 rfl ?_
          refine Et_ic_ne 63 dX12_catchYawn_56 rfl (by exact nI_m1 (by omega)) ?_
          refine Eq_aln dX12_catchYawn_63 rfl ?_
          refine Eq_getR dX12_catchYawn_64 fl_X12_57 (ws_50 hW) rfl (wp_50_30 hW) ?_
          refine Eq_iln dX12_catchYawn_67 rfl ?_
          refine Eq_ald dX12_catchYawn_68 (ws_65 hW) (by omega) (by omega) (by first | exact hab | exact ham) ?_
          refine Eq_iln dX12_catchYawn_69 rfl ?_
          refine Eq_min dX12_catchYawn_70 lk_X12_345 js_J9_min_7cf53 in_J9 jc_J9_min_7cf53 (by decide) (Nat.le_of_ble_eq_true rfl) ?_
          first | rw [em] | skip
          refine Eq_ast dX12_catchYawn_73 (ws_65 hW) (by omega) (by omega) ?_
          refine Eq_vr dX12_catchYawn_74 rfl ?_
          exact ⟨rfl, Fx.wI (Or.inl (by decide)), (hA.put (by omega)).same (fun i _ => e i)⟩
set_option maxHeartbeats 2000000 in
theorem r_lay_m {h : am_H} {n : Nat} {g : Bool} {F : Nat → Nat → Nat} {S T : Nat → Nat} (hW : Wd h) (hR : RB h n g F S T) {fr k : Nat} (hfn : fr < n) (hk : k < n) {P : Option Value → am_H → Prop} (kk : ∀ hc f x4, Fx [65] [] h hc → YA 65 hc n f → Yb n g F S T fr (k + 1) (280 * (k + 1)) f → am_E 2 m_X12_layYawns 103 [some (.ref 50), some (.int (nI fr)), some (.int (nI k)), some (.int (nI n)), x4] [] hc P) : ∀ q j hc (x4 : Option Value) f, j + q = n → Fx [65] [] h hc → YA 65 hc n f → Yb n g F S T fr k (280 * k + 40 * j) f → (∀ s, s < j → Pr n g F S T fr k f s) → am_E 2 m_X12_layYawns 42 [some (.ref 50), some (.int (nI fr)), some (.int (nI k)), some (.int (nI j)), x4] [] hc P := by
  obtain ⟨hn9, hg9, h7, hF, hB9, hS, hT⟩ := id hR
  have hY : ∀ m, m < n → F 5 m ≤ 20 := fun m hm => (hB9 m hm).2.2.2.2
  intro q
  induction q with
  | zero =>
    intro j hc x4 f hj hfr hA y0 hdone
    have hjn : j = n := by omega
    subst hjn
    have hWc := hfr.Wd hW
    have hRc := hR.fx hfr (by decide)
    have hn := hRc.1
    refine Eq_iln dX12_layYawns_42 rfl ?_
    refine Eq_aln dX12_layYawns_43 rfl ?_
    refine Eq_getI dX12_layYawns_44 fl_X12_252 (ws_50 hWc) rfl (by first | assumption | rfl) ?_
    refine Et_ic_ge 103 dX12_layYawns_47 rfl (by exact nI_le (by omega) (by omega)) ?_
    exact kk hc f x4 hfr hA ⟨Pr.fin hR.pm y0 (by omega) hdone, y0.2.1, fun i hi => by have := y0.2.2 i hi; omega⟩
  | succ q ih =>
    intro j hc x4 f hj hfr hA y0 hdone
    have hWc := hfr.Wd hW
    have hRc := hR.fx hfr (by decide)
    have hn := hRc.1
    have hf0 : f fr = 0 := by have := y0.1 fr hfn; rw [yd_fr] at this; omega
    cases hl : lf n g j with
    | none =>
      refine Eq_iln dX12_layYawns_42 rfl ?_
      refine Eq_aln dX12_layYawns_43 rfl ?_
      refine Eq_getI dX12_layYawns_44 fl_X12_252 (ws_50 hWc) rfl (by first | assumption | rfl) ?_
      refine Ef_ic_ge dX12_layYawns_47 (tgt := 103) rfl (by exact nI_ge (by omega) (by omega)) ?_
      refine Eq_aln dX12_layYawns_50 rfl ?_
      refine Eq_iln dX12_layYawns_51 rfl ?_
      refine Eq_V1 (N := m_X12_leftOf) dX12_layYawns_52 lk_X12_279 mV_X12_leftOf ((by have z := r_leftOf hWc hRc (s := j) (by omega); rw [hl] at z; exact z)) (by decide) (ws_50 hWc) rfl (by decide) (Nat.le_of_ble_eq_true rfl) (Nat.le_of_ble_eq_true rfl) ?_
      refine Eq_is dX12_layYawns_55 (by decide) ?_
      refine Eam_nl (pc' := 57) (l' := [_, _, _, _, _]) rfl rfl ?_
      refine Eq_il dX12_layYawns_57 rfl ?_
      refine Eq_ic (v := -1) dX12_layYawns_59 rfl ?_
      refine Et_ic_eq 97 dX12_layYawns_60 rfl (by rfl) ?_
      refine Eq_inc dX12_layYawns_97 rfl (by decide) ?_
      refine Eam_nl (pc' := 100) (l' := [_, _, _, _, _]) rfl rfl ?_
      refine Eam_x_goto (tgt := 42) dX12_layYawns_100 rfl ?_
      refine ih (j + 1) hc _ f (by omega) hfr hA (y0.wk (by omega)) (fun s hs => ?_)
      by_cases e : s = j
      · subst e; intro l' hl'; rw [hl] at hl'; cases hl'
      · exact hdone s (by omega)
    | some l =>
      have hln := lf_lt (show j < n by omega) hl
      have hSj := hR.pm.1 j (by omega)
      have hSl := hR.pm.1 l hln
      have hSc := hRc.2.2.2.2.2.1
      have st := Pr.step hR.pm hY h7 (by omega) y0 (show j < n by omega) hl (by omega)
      have y1 := y0.rx (m := S j) (b := S l) hR.pm hY h7 hSj.1 (Or.inl (by unfold nb1; rw [hSj.2, hl]; rfl)) (by omega)
      refine Eq_iln dX12_layYawns_42 rfl ?_
      refine Eq_aln dX12_layYawns_43 rfl ?_
      refine Eq_getI dX12_layYawns_44 fl_X12_252 (ws_50 hWc) rfl (by first | assumption | rfl) ?_
      refine Ef_ic_ge dX12_layYawns_47 (tgt := 103) rfl (by exact nI_ge (by omega) (by omega)) ?_
      refine Eq_aln dX12_layYawns_50 rfl ?_
      refine Eq_iln dX12_layYawns_51 rfl ?_
      refine Eq_V1 (N := m_X12_leftOf) dX12_layYawns_52 lk_X12_279 mV_X12_leftOf ((by have z := r_leftOf hWc hRc (s := j) (by omega); rw [hl] at z; exact z)) (by decide) (ws_50 hWc) rfl (by decide) (Nat.le_of_ble_eq_true rfl) (Nat.le_of_ble_eq_true rfl) ?_
      refine Eq_is dX12_layYawns_55 (by decide) ?_
      refine Eam_nl (pc' := 57) (l' := [_, _, _, _, _]) rfl rfl ?_
      refine Eq_il dX12_layYawns_57 rfl ?_
      refine Eq_ic (v := -1) dX12_layYawns_59 rfl ?_
      refine Ef_ic_eq dX12_layYawns_60 (tgt := 97) rfl (by exact nI_m1 (by omega)) ?_
      refine Eq_aln dX12_layYawns_63 rfl ?_
      refine Eq_aln dX12_layYawns_64 rfl ?_
      refine Eq_getR dX12_layYawns_65 fl_X12_46 (ws_50 hWc) rfl (wp_50_23 hWc) ?_
      refine Eq_iln dX12_layYawns_68 rfl ?_
      refine Eq_ald dX12_layYawns_69 (ws_63 hWc) (by omega) (by omega) (by first | exact (hSc _ (by omega)).1 | exact (hS1 _ (by omega)).1) ?_
      refine Eq_aln dX12_layYawns_70 rfl ?_
      refine Eq_getR dX12_layYawns_71 fl_X12_46 (ws_50 hWc) rfl (wp_50_23 hWc) ?_
      refine Eq_il dX12_layYawns_74 rfl ?_
      refine Eq_ald dX12_layYawns_76 (ws_63 hWc) (by omega) (by omega) (by first | exact (hSc _ (by omega)).1 | exact (hS1 _ (by omega)).1) ?_
      refine Eq_W2 (N := m_X12_catchYawn) dX12_layYawns_77 lk_X12_342 mV_X12_catchYawn (r_catchYawn (fr := fr) hWc hRc hA y0.2.2 (by omega) hf0 hSj.1 hSl.1) (by decide) (ws_50 hWc) rfl (by decide) (Nat.le_of_ble_eq_true rfl) (Nat.le_of_ble_eq_true rfl) (fun vq hq1 hq2 => ?_)
      obtain ⟨rfl, hf1, hA1⟩ := hq2
      have hW1 := hf1.Wd hWc
      have hR1 := hRc.fx hf1 (by decide)
      have hS1 := hR1.2.2.2.2.2.1
      refine Eq_aln dX12_layYawns_80 rfl ?_
      refine Eq_aln dX12_layYawns_81 rfl ?_
      refine Eq_getR dX12_layYawns_82 fl_X12_46 (ws_50 hW1) rfl (wp_50_23 hW1) ?_
      refine Eq_il dX12_layYawns_85 rfl ?_
      refine Eq_ald dX12_layYawns_87 (ws_63 hW1) (by omega) (by omega) (by first | exact (hSc _ (by omega)).1 | exact (hS1 _ (by omega)).1) ?_
      refine Eq_aln dX12_layYawns_88 rfl ?_
      refine Eq_getR dX12_layYawns_89 fl_X12_46 (ws_50 hW1) rfl (wp_50_23 hW1) ?_
      refine Eq_iln dX12_layYawns_92 rfl ?_
      refine Eq_ald dX12_layYawns_93 (ws_63 hW1) (by omega) (by omega) (by first | exact (hSc _ (by omega)).1 | exact (hS1 _ (by omega)).1) ?_
      refine Eq_W2 (N := m_X12_catchYawn) dX12_layYawns_94 lk_X12_342 mV_X12_catchYawn (r_catchYawn (fr := fr) hW1 hR1 hA1 y1.2.2 (by omega) (Nat.le_zero.mp (hf0 ▸ rlx_le)) hSl.1 hSj.1) (by decide) (ws_50 hW1) rfl (by decide) (Nat.le_of_ble_eq_true rfl) (Nat.le_of_ble_eq_true rfl) (fun vq hq1 hq5 => ?_)
      obtain ⟨rfl, hf2, hA2⟩ := hq5
      refine Eq_inc dX12_layYawns_97 rfl (by decide) ?_
      refine Eam_nl (pc' := 100) (l' := [_, _, _, _, _]) rfl rfl ?_
      refine Eam_x_goto (tgt := 42) dX12_layYawns_100 rfl ?_
      refine ih (j + 1) _ _ _ (by omega) ((hfr.tr hf1).tr hf2) hA2 (st.1.wk (by omega)) (fun s hs => ?_)
      by_cases e : s = j
      · subst e; exact st.2
      · exact (hdone s (by omega)).le (fun i => Nat.le_trans rlx_le rlx_le)
set_option maxHeartbeats 2000000 in
theorem r_lay_p {h : am_H} {n : Nat} {g : Bool} {F : Nat → Nat → Nat} {S T : Nat → Nat} (hW : Wd h) (hR : RB h n g F S T) {fr : Nat} (hfn : fr < n) : ∀ q k hc (x3 x4 : Option Value) f, k + q = n → Fx [65] [] h hc → YA 65 hc n f → Yb n g F S T fr k (280 * k) f → am_E 2 m_X12_layYawns 32 [some (.ref 50), some (.int (nI fr)), some (.int (nI k)), x3, x4] [] hc (fun v h2 => v = none ∧ Fx [65] [] h h2 ∧ YA 65 h2 n (yd n g F S T fr n)) := by
  obtain ⟨hn9, hg9, h7, hF, hB9, hS, hT⟩ := id hR
  have hY : ∀ m, m < n → F 5 m ≤ 20 := fun m hm => (hB9 m hm).2.2.2.2
  intro q
  induction q with
  | zero =>
    intro k hc x3 x4 f hj hfr hA y0
    have hjn : k = n := by omega
    subst hjn
    have hWc := hfr.Wd hW
    have hRc := hR.fx hfr (by decide)
    have hn := hRc.1
    refine Eq_iln dX12_layYawns_32 rfl ?_
    refine Eq_aln dX12_layYawns_33 rfl ?_
    refine Eq_getI dX12_layYawns_34 fl_X12_252 (ws_50 hWc) rfl (by first | assumption | rfl) ?_
    refine Et_ic_ge 109 dX12_layYawns_37 rfl (by exact nI_le (by omega) (by omega)) ?_
    refine Eq_vr dX12_layYawns_109 rfl ?_
    exact ⟨rfl, hfr, hA.same (fun i hi => y0.fin i hi)⟩
  | succ q ih =>
    intro k hc x3 x4 f hj hfr hA y0
    have hWc := hfr.Wd hW
    have hRc := hR.fx hfr (by decide)
    have hn := hRc.1
    refine Eq_iln dX12_layYawns_32 rfl ?_
    refine Eq_aln dX12_layYawns_33 rfl ?_
    refine Eq_getI dX12_layYawns_34 fl_X12_252 (ws_50 hWc) rfl (by first | assumption | rfl) ?_
    refine Ef_ic_ge dX12_layYawns_37 (tgt := 109) rfl (by exact nI_ge (by omega) (by omega)) ?_
    refine Eq_ic (v := nI 0) dX12_layYawns_40 rfl ?_
    refine Eq_isn dX12_layYawns_41 (by decide) ?_
    refine Eam_nl (pc' := 42) (l' := [_, _, _, _, _]) rfl rfl ?_
    refine r_lay_m hWc hRc hfn (show k < n by omega) ?_ n 0 hc _ f (by omega) Fx.rf hA (y0.wk (by omega)) (fun i hi => by omega)
    intro hc2 f2 x4' hfr2 hA2 y2
    have hWc := hfr2.Wd hWc
    refine Eq_inc dX12_layYawns_103 rfl (by decide) ?_
    refine Eam_nl (pc' := 106) (l' := [_, _, _, _, _]) rfl rfl ?_
    refine Eam_x_goto (tgt := 32) dX12_layYawns_106 rfl ?_
    exact ih (k + 1) hc2 _ _ f2 (by omega) (hfr.tr hfr2) hA2 y2
set_option maxHeartbeats 2000000 in
theorem r_lay_i {h : am_H} {n : Nat} {g : Bool} {F : Nat → Nat → Nat} {S T : Nat → Nat} (hW : Wd h) (hR : RB h n g F S T) {fr : Nat} (hfn : fr < n) : ∀ q j hc (x3 x4 : Option Value), j + q = 7 → Fx [65] [] h hc → (∀ i, i < j → am_i hc 65 i = yN (if i = fr then 0 else 1000000)) → am_E 2 m_X12_layYawns 2 [some (.ref 50), some (.int (nI fr)), some (.int (nI j)), x3, x4] [] hc (fun v h2 => v = none ∧ Fx [65] [] h h2 ∧ YA 65 h2 n (yd n g F S T fr n)) := by
  obtain ⟨hn9, hg9, h7, hF, hB9, hS, hT⟩ := id hR
  have hY : ∀ m, m < n → F 5 m ≤ 20 := fun m hm => (hB9 m hm).2.2.2.2
  intro q
  induction q with
  | zero =>
    intro j hc x3 x4 hj hfr hA
    have hjn : j = 7 := by omega
    subst hjn
    have hWc := hfr.Wd hW
    refine Eq_iln dX12_layYawns_2 rfl ?_
    refine Eq_bp (v := nI 7) dX12_layYawns_3 rfl ?_
    refine Et_ic_ge 30 dX12_layYawns_5 rfl (by decide +kernel) ?_
    refine Eq_ic (v := nI 0) dX12_layYawns_30 rfl ?_
    refine Eq_isn dX12_layYawns_31 (by decide) ?_
    refine Eam_nl (pc' := 32) (l' := [_, _, _, _, _]) rfl rfl ?_
    exact r_lay_p hW hR hfn n 0 hc _ _ _ (by omega) hfr (fun i hi => hA i (by omega)) Yb.start
  | succ q ih =>
    intro j hc x3 x4 hj hfr hA
    have hWc := hfr.Wd hW
    refine Eq_iln dX12_layYawns_2 rfl ?_
    refine Eq_bp (v := nI 7) dX12_layYawns_3 rfl ?_
    refine Ef_ic_ge dX12_layYawns_5 (tgt := 30) rfl (by exact nI_ge (by omega) (by omega)) ?_
    refine Eq_aln dX12_layYawns_8 rfl ?_
    refine Eq_getR dX12_layYawns_9 fl_X12_57 (ws_50 hWc) rfl (wp_50_30 hWc) ?_
    refine Eq_iln dX12_layYawns_12 rfl ?_
    refine Eq_iln dX12_layYawns_13 rfl ?_
    refine Eq_iln dX12_layYawns_14 rfl ?_
    first | refine En_ic_ne 22 dX12_layYawns_15 rfl (by omega) (by omega) (fun c15 => ?_) (fun c15 => ?_) | refine Eb_ic_ne 22 dX12_layYawns_15 rfl (fun c15 => ?_) (fun c15 => ?_)
    · first
      | (exfalso; omega)
      | (refine Eq_ic (v := -1) dX12_layYawns_22 rfl ?_
         refine Eq_ast dX12_layYawns_23 (ws_65 hWc) (by omega) (by omega) ?_
         refine Eq_inc dX12_layYawns_24 rfl (by decide) ?_
         refine Eam_nl (pc' := 27) (l' := [_, _, _, _, _]) rfl rfl ?_
         refine Eam_x_goto (tgt := 2) dX12_layYawns_27 rfl ?_
         (refine ih (j + 1) _ _ _ (by omega) (hfr.tr (Fx.wI (Or.inl (by decide)))) (fun i hi => ?_); rw [wI_eq]; exact yinit (by first | (rw [if_pos (by omega)]; rfl) | (rw [if_neg (by omega)]; rfl)) (fun e => hA i (by omega))))
    · first
      | (exfalso; omega)
      | (refine Eq_ic (v := nI 0) dX12_layYawns_18 rfl ?_
         refine Eam_x_goto (tgt := 23) dX12_layYawns_19 rfl ?_
         refine Eq_ast dX12_layYawns_23 (ws_65 hWc) (by omega) (by omega) ?_
         refine Eq_inc dX12_layYawns_24 rfl (by decide) ?_
         refine Eam_nl (pc' := 27) (l' := [_, _, _, _, _]) rfl rfl ?_
         refine Eam_x_goto (tgt := 2) dX12_layYawns_27 rfl ?_
         (refine ih (j + 1) _ _ _ (by omega) (hfr.tr (Fx.wI (Or.inl (by decide)))) (fun i hi => ?_); rw [wI_eq]; exact yinit (by first | (rw [if_pos (by omega)]; rfl) | (rw [if_neg (by omega)]; rfl)) (fun e => hA i (by omega))))
set_option maxHeartbeats 2000000 in
theorem r_layYawns {h : am_H} {n : Nat} {g : Bool} {F : Nat → Nat → Nat} {S T : Nat → Nat} (hW : Wd h) (hR : RB h n g F S T) {fr : Nat} (hfn : fr < n) : am_D 2 m_X12_layYawns [.ref 50, .int (nI fr)] h (fun v h2 => v = none ∧ Fx [65] [] h h2 ∧ YA 65 h2 n (yd n g F S T fr n)) := by
  have h7 := hR.2.2.1
  refine Eq_ic (v := nI 0) dX12_layYawns_0 rfl ?_
  refine Eq_isn dX12_layYawns_1 (by decide) ?_
  refine Eam_nl (pc' := 2) (l' := [_, _, _, _, _]) rfl rfl ?_
  exact r_lay_i hW hR hfn 7 0 h _ _ (by omega) Fx.rf (fun i hi => by omega)
set_option maxHeartbeats 2000000 in
theorem r_yawn {h : am_H} {n : Nat} {g : Bool} {F : Nat → Nat → Nat} {S T : Nat → Nat} (hW : Wd h) (hR : RB h n g F S T) {x1 x2 : Int32} : am_D 3 m_X12_yawn [.ref 50, .int x1, .int x2] h (fun v h2 => v = some (.int (yaV n g F S T x1 x2)) ∧ Fx [65] [] h h2) := by
  obtain ⟨hn9, hg9, h7, hF, hB9, hS, hT⟩ := id hR
  unfold yaV
  cases hr1 : rg x1 n with
  | none =>
    rw [if_pos (show lvs n F x1 = 0 by simp [lvs, hr1])]
    refine Eq_aln dX12_yawn_0 rfl ?_
    refine Eq_iln dX12_yawn_1 rfl ?_
    refine Eq_V1 (N := m_X12_isMember) dX12_yawn_2 lk_X12_288 mV_X12_isMember ((by have z := r_isMember hW hR (x := x1); rw [isr_n hr1] at z; exact z)) (by decide) (ws_50 hW) rfl (by decide) (Nat.le_of_ble_eq_true rfl) (Nat.le_of_ble_eq_true rfl) ?_
    refine Et_if_eq 26 dX12_yawn_5 rfl (by rfl) ?_
    refine Eq_ic (v := -1) dX12_yawn_26 rfl ?_
    refine Eq_ir dX12_yawn_27 rfl ?_
    exact ⟨rfl, Fx.rf⟩
  | some m =>
    have hi1 := isr_s hr1
    obtain ⟨rfl, hm⟩ := rg_some (by omega) hr1
    have hb := hB9 m hm
    cases hr2 : rg x2 n with
    | none =>
      rw [show (if lvs n F (nI m) = 0 then (-1 : Int32) else -1) = -1 by split <;> rfl]
      refine Eq_aln dX12_yawn_0 rfl ?_
      refine Eq_iln dX12_yawn_1 rfl ?_
      refine Eq_V1 (N := m_X12_isMember) dX12_yawn_2 lk_X12_288 mV_X12_isMember ((by have z := r_isMember hW hR (x := nI m); rw [hi1] at z; exact z)) (by decide) (ws_50 hW) rfl (by decide) (Nat.le_of_ble_eq_true rfl) (Nat.le_of_ble_eq_true rfl) ?_
      refine Ef_if_eq dX12_yawn_5 (tgt := 26) rfl (by exact zf1) ?_
      refine Eq_aln dX12_yawn_8 rfl ?_
      refine Eq_iln dX12_yawn_9 rfl ?_
      refine Eq_V1 (N := m_X12_isMember) dX12_yawn_10 lk_X12_288 mV_X12_isMember ((by have z := r_isMember hW hR (x := x2); rw [isr_n hr2] at z; exact z)) (by decide) (ws_50 hW) rfl (by decide) (Nat.le_of_ble_eq_true rfl) (Nat.le_of_ble_eq_true rfl) ?_
      refine Et_if_eq 26 dX12_yawn_13 rfl (by rfl) ?_
      refine Eq_ic (v := -1) dX12_yawn_26 rfl ?_
      refine Eq_ir dX12_yawn_27 rfl ?_
      exact ⟨rfl, Fx.rf⟩
    | some b =>
      have hi2 := isr_s hr2
      obtain ⟨rfl, hb2⟩ := rg_some (by omega) hr2
      by_cases hd : F 3 m = 1
      · rw [if_pos (show lvs n F (nI m) = 0 by simp [lvs, hr1, hd])]
        refine Eq_aln dX12_yawn_0 rfl ?_
        refine Eq_iln dX12_yawn_1 rfl ?_
        refine Eq_V1 (N := m_X12_isMember) dX12_yawn_2 lk_X12_288 mV_X12_isMember ((by have z := r_isMember hW hR (x := nI m); rw [hi1] at z; exact z)) (by decide) (ws_50 hW) rfl (by decide) (Nat.le_of_ble_eq_true rfl) (Nat.le_of_ble_eq_true rfl) ?_
        refine Ef_if_eq dX12_yawn_5 (tgt := 26) rfl (by exact zf1) ?_
        refine Eq_aln dX12_yawn_8 rfl ?_
        refine Eq_iln dX12_yawn_9 rfl ?_
        refine Eq_V1 (N := m_X12_isMember) dX12_yawn_10 lk_X12_288 mV_X12_isMember ((by have z := r_isMember hW hR (x := nI b); rw [hi2] at z; exact z)) (by decide) (ws_50 hW) rfl (by decide) (Nat.le_of_ble_eq_true rfl) (Nat.le_of_ble_eq_true rfl) ?_
        refine Ef_if_eq dX12_yawn_13 (tgt := 26) rfl (by exact zf1) ?_
        refine Eq_aln dX12_yawn_16 rfl ?_
        refine Eq_iln dX12_yawn_17 rfl ?_
        refine Eq_ic (v := nI 3) dX12_yawn_18 rfl ?_
        refine Eq_V2 (N := m_X12_of) dX12_yawn_19 lk_X12_258 mV_X12_of (r_of hW hR hm (by omega)) (by decide) (ws_50 hW) rfl (by decide) (Nat.le_of_ble_eq_true rfl) (Nat.le_of_ble_eq_true rfl) ?_
        refine Eq_ic (v := nI 1) dX12_yawn_22 rfl ?_
        refine Ef_ic_ne dX12_yawn_23 (tgt := 28) rfl (by rw [hd]) ?_
        refine Eq_ic (v := -1) dX12_yawn_26 rfl ?_
        refine Eq_ir dX12_yawn_27 rfl ?_
        exact ⟨rfl, Fx.rf⟩
      · rw [if_neg (show ¬ lvs n F (nI m) = 0 by simp [lvs, hr1, hd])]
        refine Eq_aln dX12_yawn_0 rfl ?_
        refine Eq_iln dX12_yawn_1 rfl ?_
        refine Eq_V1 (N := m_X12_isMember) dX12_yawn_2 lk_X12_288 mV_X12_isMember ((by have z := r_isMember hW hR (x := nI m); rw [hi1] at z; exact z)) (by decide) (ws_50 hW) rfl (by decide) (Nat.le_of_ble_eq_true rfl) (Nat.le_of_ble_eq_true rfl) ?_
        refine Ef_if_eq dX12_yawn_5 (tgt := 26) rfl (by exact zf1) ?_
        refine Eq_aln dX12_yawn_8 rfl ?_
        refine Eq_iln dX12_yawn_9 rfl ?_
        refine Eq_V1 (N := m_X12_isMember) dX12_yawn_10 lk_X12_288 mV_X12_isMember ((by have z := r_isMember hW hR (x := nI b); rw [hi2] at z; exact z)) (by decide) (ws_50 hW) rfl (by decide) (Nat.le_of_ble_eq_true rfl) (Nat.le_of_ble_eq_true rfl) ?_
        refine Ef_if_eq dX12_yawn_13 (tgt := 26) rfl (by exact zf1) ?_
        refine Eq_aln dX12_yawn_16 rfl ?_
        refine Eq_iln dX12_yawn_17 rfl ?_
        refine Eq_ic (v := nI 3) dX12_yawn_18 rfl ?_
        refine Eq_V2 (N := m_X12_of) dX12_yawn_19 lk_X12_258 mV_X12_of (r_of hW hR hm (by omega)) (by decide) (ws_50 hW) rfl (by decide) (Nat.le_of_ble_eq_true rfl) (Nat.le_of_ble_eq_true rfl) ?_
        refine Eq_ic (v := nI 1) dX12_yawn_22 rfl ?_
        refine Et_ic_ne 28 dX12_yawn_23 rfl (by exact fun z => hd ((nI_eq (by omega) (by omega)).mp z)) ?_
        refine Eq_aln dX12_yawn_28 rfl ?_
        refine Eq_iln dX12_yawn_29 rfl ?_
        refine Eq_W1 (N := m_X12_layYawns) dX12_yawn_30 lk_X12_347 mV_X12_layYawns (r_layYawns hW hR hm) (by decide) (ws_50 hW) rfl (by decide) (Nat.le_of_ble_eq_true rfl) (Nat.le_of_ble_eq_true rfl) (fun vq hq1 hq2 => ?_)
        obtain ⟨rfl, hf, hA⟩ := hq2
        have hW2 := hf.Wd hW
        have hR2 := hR.fx hf (by decide)
        have hn2 := hR2.1
        refine Eq_aln dX12_yawn_33 rfl ?_
        refine Eq_getR dX12_yawn_34 fl_X12_57 (ws_50 hW2) rfl (wp_50_30 hW2) ?_
        refine Eq_iln dX12_yawn_37 rfl ?_
        refine Eq_ald dX12_yawn_38 (ws_65 hW2) (by omega) (by omega) (hA b hb2) ?_
        refine Eq_ir dX12_yawn_39 rfl ?_
        exact ⟨rfl, hf⟩
set_option maxHeartbeats 2000000 in
theorem r_yawns_lp {h : am_H} {n : Nat} {g : Bool} {F : Nat → Nat → Nat} {S T : Nat → Nat} (hW : Wd h) (hR : RB h n g F S T) {m w : Nat} (hw : w < 2) (hA : YA 65 h n (yd n g F S T m n)) : ∀ k j (x1 : Option Value), j + k = n → am_Sem 3 m_X12_yawns 42 [some (.ref 50), x1, some (.int (nI w)), some (.int (nI (yl (yd n g F S T m n) j))), some (.int (nI (bt (fun i => decide (yd n g F S T m n i = 1000000)) j))), some (.int (nI j))] [] h (some (.int (if w = 0 then nI (yl (yd n g F S T m n) n) else nI (bt (fun i => decide (yd n g F S T m n i = 1000000)) n))), h) := by
  obtain ⟨hn9, hg9, h7, hF, hB9, hS, hT⟩ := id hR
  have hn := hn9
  have hyB : ∀ i, i < n → yd n g F S T m n i = 1000000 ∨ yd n g F S T m n i ≤ 20 * n := fun i hi => yd_b (g := g) hR.pm (fun m hm => (hB9 m hm).2.2.2.2) n i hi
  intro k
  induction k with
  | zero =>
    intro j x1 hj
    have hjn : j = n := by omega
    subst hjn
    refine q_il dX12_yawns_42 rfl ?_
    refine q_aln dX12_yawns_44 rfl ?_
    refine q_getI dX12_yawns_45 fl_X12_252 (ws_50 hW) rfl (by first | assumption | rfl) ?_
    refine t_ic_ge 93 dX12_yawns_48 rfl (by exact nI_le (by omega) (by omega)) ?_
    refine q_iln dX12_yawns_93 rfl ?_
    first | refine n_if_ne 101 dX12_yawns_94 rfl (by omega) (fun c94 => ?_) (fun c94 => ?_) | refine b_if_ne 101 dX12_yawns_94 rfl (fun c94 => ?_) (fun c94 => ?_)
    · first
      | (exfalso; omega)
      | (refine q_il dX12_yawns_101 rfl ?_
         refine q_ir dX12_yawns_103 rfl ?_
         (apply o_i2; first | rw [if_pos (by omega)] | rw [if_neg (by omega)]))
    · first
      | (exfalso; omega)
      | (refine q_iln dX12_yawns_97 rfl ?_
         refine am_x_goto (tgt := 103) dX12_yawns_98 rfl ?_
         refine q_ir dX12_yawns_103 rfl ?_
         (apply o_i2; first | rw [if_pos (by omega)] | rw [if_neg (by omega)]))
  | succ k ih =>
    intro j x1 hj
    have q := ih (j + 1) x1 (by omega)
    have hl := yl_le j (fun i hi => hyB i (by omega))
    have hj2 := hyB j (by omega)
    have em := ymax (a := yl (yd n g F S T m n) j) (v := yd n g F S T m n j) (by omega) (by omega)
    rw [show yl (yd n g F S T m n) (j + 1) = max (yl (yd n g F S T m n) j) (if yd n g F S T m n j = 1000000 then 0 else yd n g F S T m n j) from rfl] at q
    by_cases e : yd n g F S T m n j = 1000000
    · rw [bt_t (p := fun i => decide (yd n g F S T m n i = 1000000)) (by simp [e])] at q
      refine q_il dX12_yawns_42 rfl ?_
      refine q_aln dX12_yawns_44 rfl ?_
      refine q_getI dX12_yawns_45 fl_X12_252 (ws_50 hW) rfl (by first | assumption | rfl) ?_
      refine f_ic_ge dX12_yawns_48 (tgt := 93) rfl (by exact nI_ge (by omega) (by omega)) ?_
      refine q_iln dX12_yawns_51 rfl ?_
      refine q_aln dX12_yawns_52 rfl ?_
      refine q_getR dX12_yawns_53 fl_X12_57 (ws_50 hW) rfl (wp_50_30 hW) ?_
      refine q_il dX12_yawns_56 rfl ?_
      refine q_ald dX12_yawns_58 (ws_65 hW) (by omega) (by omega) (hA j (by omega)) ?_
      refine q_max dX12_yawns_59 lk_X12_350 js_J9_max_7cf53 in_J9 jc_J9_max_7cf53 (by decide) (Nat.le_of_ble_eq_true rfl) ?_
      rw [em]
      refine q_isn dX12_yawns_62 (by decide) ?_
      refine am_nl (pc' := 63) (l' := [_, _, _, _, _, _]) rfl rfl ?_
      refine q_il dX12_yawns_63 rfl ?_
      refine q_aln dX12_yawns_65 rfl ?_
      refine q_getR dX12_yawns_66 fl_X12_57 (ws_50 hW) rfl (wp_50_30 hW) ?_
      refine q_il dX12_yawns_69 rfl ?_
      refine q_ald dX12_yawns_71 (ws_65 hW) (by omega) (by omega) (hA j (by omega)) ?_
      refine q_ic (v := -1) dX12_yawns_72 rfl ?_
      refine f_ic_ne dX12_yawns_73 (tgt := 83) rfl (by exact yN_n e) ?_
      refine q_ic (v := nI 1) dX12_yawns_76 rfl ?_
      refine q_il dX12_yawns_77 rfl ?_
      first | refine q_shl1 dX12_yawns_79 (by omega) ?_ | refine am_x_pu dX12_yawns_79 rfl ?_
      refine am_x_goto (tgt := 84) dX12_yawns_80 rfl ?_
      first | refine q_or dX12_yawns_84 ?_ | refine am_x_pu dX12_yawns_84 rfl ?_
      refine q_is dX12_yawns_85 (by decide) ?_
      refine am_nl (pc' := 87) (l' := [_, _, _, _, _, _]) rfl rfl ?_
      refine q_inc dX12_yawns_87 rfl (by decide) ?_
      refine am_nl (pc' := 90) (l' := [_, _, _, _, _, _]) rfl rfl ?_
      refine am_x_goto (tgt := 42) dX12_yawns_90 rfl ?_
      exact q
    · rw [bt_f0 (p := fun i => decide (yd n g F S T m n i = 1000000)) (by simp [e])] at q
      refine q_il dX12_yawns_42 rfl ?_
      refine q_aln dX12_yawns_44 rfl ?_
      refine q_getI dX12_yawns_45 fl_X12_252 (ws_50 hW) rfl (by first | assumption | rfl) ?_
      refine f_ic_ge dX12_yawns_48 (tgt := 93) rfl (by exact nI_ge (by omega) (by omega)) ?_
      refine q_iln dX12_yawns_51 rfl ?_
      refine q_aln dX12_yawns_52 rfl ?_
      refine q_getR dX12_yawns_53 fl_X12_57 (ws_50 hW) rfl (wp_50_30 hW) ?_
      refine q_il dX12_yawns_56 rfl ?_
      refine q_ald dX12_yawns_58 (ws_65 hW) (by omega) (by omega) (hA j (by omega)) ?_
      refine q_max dX12_yawns_59 lk_X12_350 js_J9_max_7cf53 in_J9 jc_J9_max_7cf53 (by decide) (Nat.le_of_ble_eq_true rfl) ?_
      rw [em]
      refine q_isn dX12_yawns_62 (by decide) ?_
      refine am_nl (pc' := 63) (l' := [_, _, _, _, _, _]) rfl rfl ?_
      refine q_il dX12_yawns_63 rfl ?_
      refine q_aln dX12_yawns_65 rfl ?_
      refine q_getR dX12_yawns_66 fl_X12_57 (ws_50 hW) rfl (wp_50_30 hW) ?_
      refine q_il dX12_yawns_69 rfl ?_
      refine q_ald dX12_yawns_71 (ws_65 hW) (by omega) (by omega) (hA j (by omega)) ?_
      refine q_ic (v := -1) dX12_yawns_72 rfl ?_
      refine t_ic_ne 83 dX12_yawns_73 rfl (by exact fun z => e ((yN_m1 (by omega)).mp z)) ?_
      refine q_ic (v := nI 0) dX12_yawns_83 rfl ?_
      first | refine q_or dX12_yawns_84 ?_ | refine am_x_pu dX12_yawns_84 rfl ?_
      refine q_is dX12_yawns_85 (by decide) ?_
      refine am_nl (pc' := 87) (l' := [_, _, _, _, _, _]) rfl rfl ?_
      refine q_inc dX12_yawns_87 rfl (by decide) ?_
      refine am_nl (pc' := 90) (l' := [_, _, _, _, _, _]) rfl rfl ?_
      refine am_x_goto (tgt := 42) dX12_yawns_90 rfl ?_
      exact q
set_option maxHeartbeats 2000000 in
theorem r_yawns {h : am_H} {n : Nat} {g : Bool} {F : Nat → Nat → Nat} {S T : Nat → Nat} (hW : Wd h) (hR : RB h n g F S T) {x1 x2 : Int32} : am_D 3 m_X12_yawns [.ref 50, .int x1, .int x2] h (fun v h2 => v = some (.int (ysV n g F S T x1 x2)) ∧ Fx [65] [] h h2) := by
  obtain ⟨hn9, hg9, h7, hF, hB9, hS, hT⟩ := id hR
  unfold ysV
  cases hr1 : rg x1 n with
  | none =>
    rw [if_pos (show lvs n F x1 = 0 by simp [lvs, hr1])]
    refine Eq_aln dX12_yawns_0 rfl ?_
    refine Eq_iln dX12_yawns_1 rfl ?_
    refine Eq_V1 (N := m_X12_isMember) dX12_yawns_2 lk_X12_288 mV_X12_isMember ((by have z := r_isMember hW hR (x := x1); rw [isr_n hr1] at z; exact z)) (by decide) (ws_50 hW) rfl (by decide) (Nat.le_of_ble_eq_true rfl) (Nat.le_of_ble_eq_true rfl) ?_
    refine Et_if_eq 27 dX12_yawns_5 rfl (by rfl) ?_
    refine Eq_ic (v := -1) dX12_yawns_27 rfl ?_
    refine Eq_ir dX12_yawns_28 rfl ?_
    exact ⟨rfl, Fx.rf⟩
  | some m =>
    have hi1 := isr_s hr1
    obtain ⟨rfl, hm⟩ := rg_some (by omega) hr1
    have hb := hB9 m hm
    by_cases hd : F 3 m = 1
    · rw [if_pos (show lvs n F (nI m) = 0 by simp [lvs, hr1, hd])]
      refine Eq_aln dX12_yawns_0 rfl ?_
      refine Eq_iln dX12_yawns_1 rfl ?_
      refine Eq_V1 (N := m_X12_isMember) dX12_yawns_2 lk_X12_288 mV_X12_isMember ((by have z := r_isMember hW hR (x := nI m); rw [hi1] at z; exact z)) (by decide) (ws_50 hW) rfl (by decide) (Nat.le_of_ble_eq_true rfl) (Nat.le_of_ble_eq_true rfl) ?_
      refine Ef_if_eq dX12_yawns_5 (tgt := 27) rfl (by exact zf1) ?_
      refine Eq_aln dX12_yawns_8 rfl ?_
      refine Eq_iln dX12_yawns_9 rfl ?_
      refine Eq_ic (v := nI 3) dX12_yawns_10 rfl ?_
      refine Eq_V2 (N := m_X12_of) dX12_yawns_11 lk_X12_258 mV_X12_of (r_of hW hR hm (by omega)) (by decide) (ws_50 hW) rfl (by decide) (Nat.le_of_ble_eq_true rfl) (Nat.le_of_ble_eq_true rfl) ?_
      refine Eq_ic (v := nI 1) dX12_yawns_14 rfl ?_
      refine Et_ic_eq 27 dX12_yawns_15 rfl (by rw [hd]) ?_
      refine Eq_ic (v := -1) dX12_yawns_27 rfl ?_
      refine Eq_ir dX12_yawns_28 rfl ?_
      exact ⟨rfl, Fx.rf⟩
    · rw [if_neg (show ¬ lvs n F (nI m) = 0 by simp [lvs, hr1, hd])]
      cases hr2 : rg x2 2 with
      | none =>
        refine Eq_aln dX12_yawns_0 rfl ?_
        refine Eq_iln dX12_yawns_1 rfl ?_
        refine Eq_V1 (N := m_X12_isMember) dX12_yawns_2 lk_X12_288 mV_X12_isMember ((by have z := r_isMember hW hR (x := nI m); rw [hi1] at z; exact z)) (by decide) (ws_50 hW) rfl (by decide) (Nat.le_of_ble_eq_true rfl) (Nat.le_of_ble_eq_true rfl) ?_
        refine Ef_if_eq dX12_yawns_5 (tgt := 27) rfl (by exact zf1) ?_
        refine Eq_aln dX12_yawns_8 rfl ?_
        refine Eq_iln dX12_yawns_9 rfl ?_
        refine Eq_ic (v := nI 3) dX12_yawns_10 rfl ?_
        refine Eq_V2 (N := m_X12_of) dX12_yawns_11 lk_X12_258 mV_X12_of (r_of hW hR hm (by omega)) (by decide) (ws_50 hW) rfl (by decide) (Nat.le_of_ble_eq_true rfl) (Nat.le_of_ble_eq_true rfl) ?_
        refine Eq_ic (v := nI 1) dX12_yawns_14 rfl ?_
        refine Ef_ic_eq dX12_yawns_15 (tgt := 27) rfl (by exact fun z => hd ((nI_eq (by omega) (by omega)).mp z)) ?_
        refine Eq_iln dX12_yawns_18 rfl ?_
        refine Eq_ic (v := nI 0) dX12_yawns_19 rfl ?_
        refine Eq_ic (v := nI 1) dX12_yawns_20 rfl ?_
        refine Eq_S3 (N := m_X12_in) dX12_yawns_21 lk_X12_215 mS_X12_in ((by have z := r_inr (h := h) (x := x2) (k := 1) (by omega); rw [isr_n hr2] at z; exact z)) (by decide) (Nat.le_of_ble_eq_true rfl) (Nat.le_of_ble_eq_true rfl) ?_
        refine Ef_if_ne dX12_yawns_24 (tgt := 29) rfl (by rfl) ?_
        refine Eq_ic (v := -1) dX12_yawns_27 rfl ?_
        refine Eq_ir dX12_yawns_28 rfl ?_
        exact ⟨rfl, Fx.rf⟩
      | some w =>
        have hi2 := isr_s hr2
        obtain ⟨rfl, hw⟩ := rg_some (by omega) hr2
        refine Eq_aln dX12_yawns_0 rfl ?_
        refine Eq_iln dX12_yawns_1 rfl ?_
        refine Eq_V1 (N := m_X12_isMember) dX12_yawns_2 lk_X12_288 mV_X12_isMember ((by have z := r_isMember hW hR (x := nI m); rw [hi1] at z; exact z)) (by decide) (ws_50 hW) rfl (by decide) (Nat.le_of_ble_eq_true rfl) (Nat.le_of_ble_eq_true rfl) ?_
        refine Ef_if_eq dX12_yawns_5 (tgt := 27) rfl (by exact zf1) ?_
        refine Eq_aln dX12_yawns_8 rfl ?_
        refine Eq_iln dX12_yawns_9 rfl ?_
        refine Eq_ic (v := nI 3) dX12_yawns_10 rfl ?_
        refine Eq_V2 (N := m_X12_of) dX12_yawns_11 lk_X12_258 mV_X12_of (r_of hW hR hm (by omega)) (by decide) (ws_50 hW) rfl (by decide) (Nat.le_of_ble_eq_true rfl) (Nat.le_of_ble_eq_true rfl) ?_
        refine Eq_ic (v := nI 1) dX12_yawns_14 rfl ?_
        refine Ef_ic_eq dX12_yawns_15 (tgt := 27) rfl (by exact fun z => hd ((nI_eq (by omega) (by omega)).mp z)) ?_
        refine Eq_iln dX12_yawns_18 rfl ?_
        refine Eq_ic (v := nI 0) dX12_yawns_19 rfl ?_
        refine Eq_ic (v := nI 1) dX12_yawns_20 rfl ?_
        refine Eq_S3 (N := m_X12_in) dX12_yawns_21 lk_X12_215 mS_X12_in ((by have z := r_inr (h := h) (x := nI w) (k := 1) (by omega); rw [hi2] at z; exact z)) (by decide) (Nat.le_of_ble_eq_true rfl) (Nat.le_of_ble_eq_true rfl) ?_
        refine Et_if_ne 29 dX12_yawns_24 rfl (by exact zf1) ?_
        refine Eq_aln dX12_yawns_29 rfl ?_
        refine Eq_iln dX12_yawns_30 rfl ?_
        refine Eq_W1 (N := m_X12_layYawns) dX12_yawns_31 lk_X12_347 mV_X12_layYawns (r_layYawns hW hR hm) (by decide) (ws_50 hW) rfl (by decide) (Nat.le_of_ble_eq_true rfl) (Nat.le_of_ble_eq_true rfl) (fun vq hq1 hq2 => ?_)
        obtain ⟨rfl, hf, hA⟩ := hq2
        have hW2 := hf.Wd hW
        have hR2 := hR.fx hf (by decide)
        have hn2 := hR2.1
        refine Eq_ic (v := nI 0) dX12_yawns_34 rfl ?_
        refine Eq_isn dX12_yawns_35 (by decide) ?_
        refine Eam_nl (pc' := 36) (l' := [_, _, _, _, _, _]) rfl rfl ?_
        refine Eq_ic (v := nI 0) dX12_yawns_36 rfl ?_
        refine Eq_is dX12_yawns_37 (by decide) ?_
        refine Eam_nl (pc' := 39) (l' := [_, _, _, _, _, _]) rfl rfl ?_
        refine Eq_ic (v := nI 0) dX12_yawns_39 rfl ?_
        refine Eq_is dX12_yawns_40 (by decide) ?_
        refine Eam_nl (pc' := 42) (l' := [_, _, _, _, _, _]) rfl rfl ?_
        exact ⟨_, _, r_yawns_lp hW2 hR2 hw hA n 0 _ (by omega), rfl, hf⟩
