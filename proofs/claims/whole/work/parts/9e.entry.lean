/-! the law: what holds at its entry -/
theorem lw_Kc {args : Array Value} {s : State} (hts : ∀ w ∈ lw_tbl, w.before args s = true) : ∃ D : va_G, ∀ (k : Nat) (q : vw_C), vwCl[k]? = some q → u_Kn s q.1 q.2.1 q.2.2 (D.1 k) (D.2 k) := by
  have h : ∀ (k : Nat) (q : vw_C), vwCl[k]? = some q → ∃ (cC : ClassId) (iS : Nat → Nat), u_Kn s q.1 q.2.1 q.2.2 cC iS := by
    intro k q hq
    match k, hq with
    | 0, hq => cases hq; exact u_known (C := RX0) (T := TX0) (N := am_nf 0) (n := am_nf 0) hts (fun w hw => (List.mem_filter.mp ((ok_X0).2.1 w hw)).1) (hts _ it_X0)
    | 1, hq => cases hq; exact u_known (C := RX1) (T := TX1) (N := am_nf 1) (n := am_nf 1) hts (fun w hw => (List.mem_filter.mp ((ok_X1).2.1 w hw)).1) (hts _ it_X1)
    | 2, hq => cases hq; exact u_known (C := RX2) (T := TX2) (N := am_nf 2) (n := am_nf 2) hts (fun w hw => (List.mem_filter.mp ((ok_X2).2.1 w hw)).1) (hts _ it_X2)
    | 3, hq => cases hq; exact u_known (C := RX3) (T := TX3) (N := am_nf 3) (n := am_nf 3) hts (fun w hw => (List.mem_filter.mp ((ok_X3).2.1 w hw)).1) (hts _ it_X3)
    | 4, hq => cases hq; exact u_known (C := RX4) (T := TX4) (N := am_nf 4) (n := am_nf 4) hts (fun w hw => (List.mem_filter.mp ((ok_X4).2.1 w hw)).1) (hts _ it_X4)
    | 5, hq => cases hq; exact u_known (C := RX5) (T := TX5) (N := am_nf 5) (n := am_nf 5) hts (fun w hw => (List.mem_filter.mp ((ok_X5).2.1 w hw)).1) (hts _ it_X5)
    | 6, hq => cases hq; exact u_known (C := RX6) (T := TX6) (N := am_nf 6) (n := am_nf 6) hts (fun w hw => (List.mem_filter.mp ((ok_X6).2.1 w hw)).1) (hts _ it_X6)
    | 7, hq => cases hq; exact u_known (C := RX7) (T := TX7) (N := am_nf 7) (n := am_nf 7) hts (fun w hw => (List.mem_filter.mp ((ok_X7).2.1 w hw)).1) (hts _ it_X7)
    | 8, hq => cases hq; exact u_known (C := RX8) (T := TX8) (N := am_nf 8) (n := am_nf 8) hts (fun w hw => (List.mem_filter.mp ((ok_X8).2.1 w hw)).1) (hts _ it_X8)
    | 9, hq => cases hq; exact u_known (C := RX9) (T := TX9) (N := am_nf 9) (n := am_nf 9) hts (fun w hw => (List.mem_filter.mp ((ok_X9).2.1 w hw)).1) (hts _ it_X9)
    | 10, hq => cases hq; exact u_known (C := RX10) (T := TX10) (N := am_nf 10) (n := am_nf 10) hts (fun w hw => (List.mem_filter.mp ((ok_X10).2.1 w hw)).1) (hts _ it_X10)
    | 11, hq => cases hq; exact u_known (C := RX11) (T := TX11) (N := am_nf 11) (n := am_nf 11) hts (fun w hw => (List.mem_filter.mp ((ok_X11).2.1 w hw)).1) (hts _ it_X11)
    | 12, hq => cases hq; exact u_known (C := RX12) (T := TX12) (N := am_nf 12) (n := am_nf 12) hts (fun w hw => (List.mem_filter.mp ((ok_X12).2.1 w hw)).1) (hts _ it_X12)
    | k + 13, hq => simp [vwCl] at hq
  have h2 : ∀ k : Nat, ∃ D : ClassId × (Nat → Nat), ∀ q, vwCl[k]? = some q → u_Kn s q.1 q.2.1 q.2.2 D.1 D.2 := by
    intro k
    cases hq : vwCl[k]? with
    | none => exact ⟨(0, fun _ => 0), fun q z => nomatch z⟩
    | some q0 =>
      obtain ⟨a, b, z⟩ := h k q0 hq
      exact ⟨(a, b), fun q e => by cases e; exact z⟩
  obtain ⟨f, hf⟩ := Classical.axiomOfChoice h2
  exact ⟨(fun k => (f k).1, fun k => (f k).2), fun k q hq => hf k q hq⟩
theorem lw_Ty {args : Array Value} {s : State} (hts : ∀ w ∈ lw_tbl, w.before args s = true) (hao : Cond.arrayOver (.object "MouthHouse$Manners") ∈ lw_tbl) : ∃ cy : Nat → ClassId, ∀ (k : Nat) (q : ClassId × FieldType), (am_tys cy)[k]? = some q → ArrOfT s q.1 q.2 ∧ va_RA s q.1 q.2 := by
  obtain ⟨c0, k0, m0, a0, b0, d0⟩ := Cond.arrayClass_spec (hts _ wd_int)
  obtain ⟨c1, k1, m1, a1, b1, d1⟩ := Cond.arrayClass_spec (hts _ wd_long)
  obtain ⟨c2, k2, m2, a2, b2, d2⟩ := Cond.arrayClass_spec (hts _ wd_boolean)
  obtain ⟨m3, c3, k3, e3, f3, b3, d3, a3⟩ := Cond.arrayOver_spec (hts _ hao)
  refine ⟨fun k => if k = 0 then c0 else if k = 1 then c1 else if k = 2 then c2 else c3, fun k q hq => ?_⟩
  match k, hq with
  | 0, hq => cases hq; exact ⟨fun n z => ⟨fun k h => (by cases h), k0, b0, m0, d0⟩, a0⟩
  | 1, hq => cases hq; exact ⟨fun n z => ⟨fun k h => (by cases h), k1, b1, m1, d1⟩, a1⟩
  | 2, hq => cases hq; exact ⟨fun n z => ⟨fun k h => (by cases h), k2, b2, m2, d2⟩, a2⟩
  | 3, hq => cases hq; exact ⟨fun n z => ⟨fun k h => (by cases h), k3, b3, m3, d3⟩, k3, m3, b3, d3, e3, a3⟩
  | k + 4, hq => simp [am_tys] at hq
set_option maxHeartbeats 2000000 in
theorem lw_S0 {args : Array Value} {s : State} (hts : ∀ w ∈ lw_tbl, w.before args s = true) (hgv : (Jvm.Cond.and given_1 narrow_1).before args s = true) : ∃ t : Nat, va_Z "MouthHouse$Manners" "LETTERS" "[I" (.ref t) (am_A s.heap.size) s s.heap ∧ va_T .int t 6 (fun j => .int (([118, 119, 100, 101, 110, 115] : List Int32).getD j 0)) (am_A s.heap.size) s s.heap ∧ t < s.heap.size := by
  have hs := flat_of_before _ hgv
  have hA : ∀ a : Nat, a < s.heap.size → ¬ am_A s.heap.size a := fun a ha => Nat.not_le.mpr ha
  obtain ⟨t, ht, hT⟩ := va_Tof (args := args) (s := s) (tm := (.static "MouthHouse$Manners" "LETTERS" "[I")) (ty := .int) (N := 6) (f := fun j => .int (([118, 119, 100, 101, 110, 115] : List Int32).getD j 0)) (A := am_A s.heap.size) (by decide) (hs (.arrayOf (.static "MouthHouse$Manners" "LETTERS" "[I") .int) (by decide +kernel)) (va_eqt (hs (.eq (.length (.static "MouthHouse$Manners" "LETTERS" "[I")) (.int 6)) (by decide +kernel))) (fun j hj => by
    match j, hj with
    | 0, _ => exact va_eqt (hs (.eq (.elem (.static "MouthHouse$Manners" "LETTERS" "[I") (.int 0)) (.int 118)) (by decide +kernel))
    | 1, _ => exact va_eqt (hs (.eq (.elem (.static "MouthHouse$Manners" "LETTERS" "[I") (.int 1)) (.int 119)) (by decide +kernel))
    | 2, _ => exact va_eqt (hs (.eq (.elem (.static "MouthHouse$Manners" "LETTERS" "[I") (.int 2)) (.int 100)) (by decide +kernel))
    | 3, _ => exact va_eqt (hs (.eq (.elem (.static "MouthHouse$Manners" "LETTERS" "[I") (.int 3)) (.int 101)) (by decide +kernel))
    | 4, _ => exact va_eqt (hs (.eq (.elem (.static "MouthHouse$Manners" "LETTERS" "[I") (.int 4)) (.int 110)) (by decide +kernel))
    | 5, _ => exact va_eqt (hs (.eq (.elem (.static "MouthHouse$Manners" "LETTERS" "[I") (.int 5)) (.int 115)) (by decide +kernel))
    | j + 6, hj => exact absurd hj (by omega)) hA
  refine ⟨t, va_Zof (hts (.laysStatic "MouthHouse$Manners" "LETTERS" "[I") (by decide +kernel)) (hts (.initialized "MouthHouse$Manners") (by decide +kernel)) ht hA, hT, ?_⟩
  obtain ⟨cell, h1, -⟩ := hT
  exact (Array.getElem?_eq_some_iff.mp h1).1
set_option maxHeartbeats 2000000 in
theorem lw_S1 {args : Array Value} {s : State} (hts : ∀ w ∈ lw_tbl, w.before args s = true) (hgv : (Jvm.Cond.and given_1 narrow_1).before args s = true) : ∃ t : Nat, va_Z "MouthHouse$HouseReader" "LETTERS" "[I" (.ref t) (am_A s.heap.size) s s.heap ∧ va_T .int t 7 (fun j => .int (([118, 100, 101, 107, 110, 121, 98] : List Int32).getD j 0)) (am_A s.heap.size) s s.heap ∧ t < s.heap.size := by
  have hs := flat_of_before _ hgv
  have hA : ∀ a : Nat, a < s.heap.size → ¬ am_A s.heap.size a := fun a ha => Nat.not_le.mpr ha
  obtain ⟨t, ht, hT⟩ := va_Tof (args := args) (s := s) (tm := (.static "MouthHouse$HouseReader" "LETTERS" "[I")) (ty := .int) (N := 7) (f := fun j => .int (([118, 100, 101, 107, 110, 121, 98] : List Int32).getD j 0)) (A := am_A s.heap.size) (by decide) (hs (.arrayOf (.static "MouthHouse$HouseReader" "LETTERS" "[I") .int) (by decide +kernel)) (va_eqt (hs (.eq (.length (.static "MouthHouse$HouseReader" "LETTERS" "[I")) (.int 7)) (by decide +kernel))) (fun j hj => by
    match j, hj with
    | 0, _ => exact va_eqt (hs (.eq (.elem (.static "MouthHouse$HouseReader" "LETTERS" "[I") (.int 0)) (.int 118)) (by decide +kernel))
    | 1, _ => exact va_eqt (hs (.eq (.elem (.static "MouthHouse$HouseReader" "LETTERS" "[I") (.int 1)) (.int 100)) (by decide +kernel))
    | 2, _ => exact va_eqt (hs (.eq (.elem (.static "MouthHouse$HouseReader" "LETTERS" "[I") (.int 2)) (.int 101)) (by decide +kernel))
    | 3, _ => exact va_eqt (hs (.eq (.elem (.static "MouthHouse$HouseReader" "LETTERS" "[I") (.int 3)) (.int 107)) (by decide +kernel))
    | 4, _ => exact va_eqt (hs (.eq (.elem (.static "MouthHouse$HouseReader" "LETTERS" "[I") (.int 4)) (.int 110)) (by decide +kernel))
    | 5, _ => exact va_eqt (hs (.eq (.elem (.static "MouthHouse$HouseReader" "LETTERS" "[I") (.int 5)) (.int 121)) (by decide +kernel))
    | 6, _ => exact va_eqt (hs (.eq (.elem (.static "MouthHouse$HouseReader" "LETTERS" "[I") (.int 6)) (.int 98)) (by decide +kernel))
    | j + 7, hj => exact absurd hj (by omega)) hA
  refine ⟨t, va_Zof (hts (.laysStatic "MouthHouse$HouseReader" "LETTERS" "[I") (by decide +kernel)) (hts (.initialized "MouthHouse$HouseReader") (by decide +kernel)) ht hA, hT, ?_⟩
  obtain ⟨cell, h1, -⟩ := hT
  exact (Array.getElem?_eq_some_iff.mp h1).1
set_option maxHeartbeats 2000000 in
theorem lw_S2 {args : Array Value} {s : State} (hts : ∀ w ∈ lw_tbl, w.before args s = true) (hgv : (Jvm.Cond.and given_1 narrow_1).before args s = true) : ∃ t : Nat, va_Z "MouthHouse$Members" "MOST" "[I" (.ref t) (am_A s.heap.size) s s.heap ∧ va_T .int t 7 (fun j => .int (([1, 20, 99, 3, 7, 20, 99] : List Int32).getD j 0)) (am_A s.heap.size) s s.heap ∧ t < s.heap.size := by
  have hs := flat_of_before _ hgv
  have hA : ∀ a : Nat, a < s.heap.size → ¬ am_A s.heap.size a := fun a ha => Nat.not_le.mpr ha
  obtain ⟨t, ht, hT⟩ := va_Tof (args := args) (s := s) (tm := (.static "MouthHouse$Members" "MOST" "[I")) (ty := .int) (N := 7) (f := fun j => .int (([1, 20, 99, 3, 7, 20, 99] : List Int32).getD j 0)) (A := am_A s.heap.size) (by decide) (hs (.arrayOf (.static "MouthHouse$Members" "MOST" "[I") .int) (by decide +kernel)) (va_eqt (hs (.eq (.length (.static "MouthHouse$Members" "MOST" "[I")) (.int 7)) (by decide +kernel))) (fun j hj => by
    match j, hj with
    | 0, _ => exact va_eqt (hs (.eq (.elem (.static "MouthHouse$Members" "MOST" "[I") (.int 0)) (.int 1)) (by decide +kernel))
    | 1, _ => exact va_eqt (hs (.eq (.elem (.static "MouthHouse$Members" "MOST" "[I") (.int 1)) (.int 20)) (by decide +kernel))
    | 2, _ => exact va_eqt (hs (.eq (.elem (.static "MouthHouse$Members" "MOST" "[I") (.int 2)) (.int 99)) (by decide +kernel))
    | 3, _ => exact va_eqt (hs (.eq (.elem (.static "MouthHouse$Members" "MOST" "[I") (.int 3)) (.int 3)) (by decide +kernel))
    | 4, _ => exact va_eqt (hs (.eq (.elem (.static "MouthHouse$Members" "MOST" "[I") (.int 4)) (.int 7)) (by decide +kernel))
    | 5, _ => exact va_eqt (hs (.eq (.elem (.static "MouthHouse$Members" "MOST" "[I") (.int 5)) (.int 20)) (by decide +kernel))
    | 6, _ => exact va_eqt (hs (.eq (.elem (.static "MouthHouse$Members" "MOST" "[I") (.int 6)) (.int 99)) (by decide +kernel))
    | j + 7, hj => exact absurd hj (by omega)) hA
  refine ⟨t, va_Zof (hts (.laysStatic "MouthHouse$Members" "MOST" "[I") (by decide +kernel)) (hts (.initialized "MouthHouse$Members") (by decide +kernel)) ht hA, hT, ?_⟩
  obtain ⟨cell, h1, -⟩ := hT
  exact (Array.getElem?_eq_some_iff.mp h1).1
set_option maxHeartbeats 2000000 in
theorem lw_S3 {args : Array Value} {s : State} (hts : ∀ w ∈ lw_tbl, w.before args s = true) (hgv : (Jvm.Cond.and given_1 narrow_1).before args s = true) : ∃ t : Nat, va_Z "MouthHouse$Members" "USUAL" "[I" (.ref t) (am_A s.heap.size) s s.heap ∧ va_T .int t 7 (fun j => .int (([1, 1, 0, 0, 7, 3, 10] : List Int32).getD j 0)) (am_A s.heap.size) s s.heap ∧ t < s.heap.size := by
  have hs := flat_of_before _ hgv
  have hA : ∀ a : Nat, a < s.heap.size → ¬ am_A s.heap.size a := fun a ha => Nat.not_le.mpr ha
  obtain ⟨t, ht, hT⟩ := va_Tof (args := args) (s := s) (tm := (.static "MouthHouse$Members" "USUAL" "[I")) (ty := .int) (N := 7) (f := fun j => .int (([1, 1, 0, 0, 7, 3, 10] : List Int32).getD j 0)) (A := am_A s.heap.size) (by decide) (hs (.arrayOf (.static "MouthHouse$Members" "USUAL" "[I") .int) (by decide +kernel)) (va_eqt (hs (.eq (.length (.static "MouthHouse$Members" "USUAL" "[I")) (.int 7)) (by decide +kernel))) (fun j hj => by
    match j, hj with
    | 0, _ => exact va_eqt (hs (.eq (.elem (.static "MouthHouse$Members" "USUAL" "[I") (.int 0)) (.int 1)) (by decide +kernel))
    | 1, _ => exact va_eqt (hs (.eq (.elem (.static "MouthHouse$Members" "USUAL" "[I") (.int 1)) (.int 1)) (by decide +kernel))
    | 2, _ => exact va_eqt (hs (.eq (.elem (.static "MouthHouse$Members" "USUAL" "[I") (.int 2)) (.int 0)) (by decide +kernel))
    | 3, _ => exact va_eqt (hs (.eq (.elem (.static "MouthHouse$Members" "USUAL" "[I") (.int 3)) (.int 0)) (by decide +kernel))
    | 4, _ => exact va_eqt (hs (.eq (.elem (.static "MouthHouse$Members" "USUAL" "[I") (.int 4)) (.int 7)) (by decide +kernel))
    | 5, _ => exact va_eqt (hs (.eq (.elem (.static "MouthHouse$Members" "USUAL" "[I") (.int 5)) (.int 3)) (by decide +kernel))
    | 6, _ => exact va_eqt (hs (.eq (.elem (.static "MouthHouse$Members" "USUAL" "[I") (.int 6)) (.int 10)) (by decide +kernel))
    | j + 7, hj => exact absurd hj (by omega)) hA
  refine ⟨t, va_Zof (hts (.laysStatic "MouthHouse$Members" "USUAL" "[I") (by decide +kernel)) (hts (.initialized "MouthHouse$Members") (by decide +kernel)) ht hA, hT, ?_⟩
  obtain ⟨cell, h1, -⟩ := hT
  exact (Array.getElem?_eq_some_iff.mp h1).1
theorem lw_G {p : Program} {s : State} {m : MethodId} {meth : Method} {c : Code} {b L : Nat} {xs : Nat → Int32} (C0 : lw_At p s m meth c b L xs) : ∃ (D : va_G) (sa : Nat → Nat) (cy : Nat → ClassId), am_G D s.heap.size sa cy s ∧ sa 4 = b := by
  obtain ⟨hx, hb, hr, hml, hown, hts, hX, hbl, hlocks, hgv⟩ := id C0
  obtain ⟨D, hD⟩ := lw_Kc hts
  have hao : Cond.arrayOver (.object "MouthHouse$Manners") ∈ lw_tbl := by decide +kernel
  obtain ⟨cy, hcy⟩ := lw_Ty hts hao
  obtain ⟨t0, z0, x0, l0⟩ := lw_S0 hts hgv
  obtain ⟨t1, z1, x1, l1⟩ := lw_S1 hts hgv
  obtain ⟨t2, z2, x2, l2⟩ := lw_S2 hts hgv
  obtain ⟨t3, z3, x3, l3⟩ := lw_S3 hts hgv
  refine ⟨D, fun i => if i = 0 then t0 else if i = 1 then t1 else if i = 2 then t2 else if i = 3 then t3 else b, cy, ⟨⟨hD, hcy⟩, fun w hw hn => ?_, fun i q hq => ?_, va_AO.of (hts _ hao), Nat.le_refl _⟩, rfl⟩
  · have hz := hts w hw
    cases w <;> first | (simp [am_nest] at hn; done) | exact hz
  · match i, hq with
    | 0, hq => cases hq; exact ⟨z0, x0, l0, l0⟩
    | 1, hq => cases hq; exact ⟨z1, x1, l1, l1⟩
    | 2, hq => cases hq; exact ⟨z2, x2, l2, l2⟩
    | 3, hq => cases hq; exact ⟨z3, x3, l3, l3⟩
    | i + 4, hq => simp [am_ss] at hq
theorem lw_from {p : Program} {e : Env} {s : State} {m : MethodId} {below : List Frame} {meth : Method} {c : Code} (l : Launch) {b L : Nat} {xs : Nat → Int32} (hL : L ≤ 3072) (C0 : lw_At p s m meth c b L xs) (hmem : ∀ D sa cy, lw_X p s m meth c b L xs D sa cy → LMEM p l e s m below meth c b L D sa cy) : W p l e room_1 s m #[Value.ref b] below meth c s.heap [] 0 0 (lw_Z below #[Value.ref b] s) (entryFrame m ([Value.ref b] : List Value).toArray 7) := by
  obtain ⟨D, sa, cy, hG, hsa⟩ := lw_G C0
  have hC : lw_X p s m meth c b L xs D sa cy := ⟨by rw [hsa]; exact C0, hG, hsa, hL⟩
  have k := lw_begin hC (hmem D sa cy hC)
  have hl := am_entry (b := s.heap.size) (sa := sa) [.retAddr 4] (n := 7) (Nat.le_of_ble_eq_true rfl)
  rw [lg_entry_eq]
  have ev : ([.retAddr 4] : List Value).map (am_tv s.heap.size sa) = [.ref b] := by show [Value.ref (sa 4)] = _; rw [hsa]
  rw [ev] at hl
  exact k s.heap [] _ ⟨fun k q h => by simp [am_wl, am_ix, HL, am_t] at h, ⟨fun i j p q h => by simp [am_wl, am_ix, HL, am_t] at h, fun k q h => by simp [am_wl, am_ix, HL, am_t] at h⟩, rfl, fun r sh h => by simp [HL, am_s] at h⟩ va_S.rf hl
