/-! the law: from its entry to its loop -/
abbrev ii11 : List (Nat × Nat × Int32) := [(29, 9, -1), (29, 8, -1), (0, 5, -1)]
abbrev pp11 : List (Nat × Nat × Nat) := [(0, 16, 46), (46, 4, 49), (46, 3, 48), (46, 2, 47), (0, 15, 43), (43, 2, 45), (43, 1, 44), (0, 14, 41), (41, 2, 42), (0, 12, 37), (37, 4, 40), (37, 3, 39), (37, 2, 38), (0, 11, 29), (29, 6, 36), (29, 4, 35), (29, 3, 33), (33, 2, 34), (33, 1, 30), (33, 0, 9), (29, 2, 30), (30, 2, 32), (30, 1, 31), (29, 1, 11), (29, 0, 9), (0, 10, 20), (20, 14, 28), (20, 13, 27), (20, 12, 26), (20, 6, 25), (20, 5, 24), (20, 4, 23), (20, 3, 22), (20, 2, 21), (20, 0, 9), (0, 9, 16), (16, 5, 19), (16, 4, 18), (16, 2, 17), (16, 1, 9), (16, 0, 14), (0, 8, 14), (14, 2, 15), (14, 1, 11), (14, 0, 9), (0, 7, 11), (11, 2, 13), (11, 1, 12), (0, 6, 9), (9, 2, 10), (0, 3, 8), (0, 2, 6), (6, 1, 7), (6, 0, 1), (0, 1, 3), (3, 1, 4), (4, 2, 5), (3, 0, 1), (0, 0, 1), (1, 0, 2)]
abbrev ii12 : List (Nat × Nat × Int32) := [(50, 24, -1), (29, 9, -1), (29, 8, -1), (0, 5, -1)]
abbrev pp12 : List (Nat × Nat × Nat) := [(50, 47, 78), (50, 46, 77), (50, 45, 76), (50, 44, 75), (50, 43, 74), (50, 40, 73), (50, 39, 72), (50, 38, 71), (50, 37, 70), (50, 35, 69), (50, 34, 68), (50, 32, 67), (50, 31, 66), (50, 30, 65), (50, 29, 64), (50, 23, 63), (50, 20, 62), (50, 17, 61), (50, 16, 60), (50, 15, 59), (50, 12, 58), (50, 11, 57), (50, 10, 56), (50, 9, 55), (50, 8, 54), (50, 7, 53), (50, 6, 52), (50, 1, 51), (0, 16, 46), (46, 4, 49), (46, 3, 48), (46, 2, 47), (0, 15, 43), (43, 2, 45), (43, 1, 44), (0, 14, 41), (41, 2, 42), (0, 12, 37), (37, 4, 40), (37, 3, 39), (37, 2, 38), (0, 11, 29), (29, 6, 36), (29, 4, 35), (29, 3, 33), (33, 2, 34), (33, 1, 30), (33, 0, 9), (29, 2, 30), (30, 2, 32), (30, 1, 31), (29, 1, 11), (29, 0, 9), (0, 10, 20), (20, 14, 28), (20, 13, 27), (20, 12, 26), (20, 6, 25), (20, 5, 24), (20, 4, 23), (20, 3, 22), (20, 2, 21), (20, 0, 9), (0, 9, 16), (16, 5, 19), (16, 4, 18), (16, 2, 17), (16, 1, 9), (16, 0, 14), (0, 8, 14), (14, 2, 15), (14, 1, 11), (14, 0, 9), (0, 7, 11), (11, 2, 13), (11, 1, 12), (0, 6, 9), (9, 2, 10), (0, 3, 8), (0, 2, 6), (6, 1, 7), (6, 0, 1), (0, 1, 3), (3, 1, 4), (4, 2, 5), (3, 0, 1), (0, 0, 1), (1, 0, 2)]
theorem inv0 {u : Nat} : INV (HL sk0 ii12 pp12 u) := by
  have hv : ∀ {P : Nat → Prop} (k : Nat), k < 0 → P k := fun k hk => absurd hk (Nat.not_lt_zero _)
  refine ⟨0, false, fun _ _ => 0, fun s => s, fun s => s, 0, fun _ => 0, 0, fun _ => (0, 0, 0, []), none, 0, fun _ => 0, fun _ => false, 0, fun _ => 0, fun _ => false, fun _ => 0, 0, ⟨⟨fun r _ => rfl, ?_⟩, ?_⟩, ⟨⟨rfl, rfl, by omega, fun i m _ h => absurd h (Nat.not_lt_zero _), fun m h => absurd h (Nat.not_lt_zero _)⟩, ⟨rfl, by omega, fun m h => absurd h (Nat.not_lt_zero _), fun m h => absurd h (Nat.not_lt_zero _)⟩, ⟨rfl, rfl, by omega, fun i m _ h => absurd h (Nat.not_lt_zero _), fun m h => absurd h (Nat.not_lt_zero _), fun m h => absurd h (Nat.not_lt_zero _), fun m h => absurd h (Nat.not_lt_zero _)⟩, Or.inl rfl, fun _ => rfl⟩, ⟨⟨rfl, by omega, fun m h => absurd h (Nat.not_lt_zero _)⟩, 0, ⟨rfl, by omega, fun m h => absurd h (Nat.not_lt_zero _)⟩, rfl, by omega⟩, ⟨rfl, rfl, by omega, fun m h => absurd h (Nat.not_lt_zero _), fun m _ h => absurd h (Nat.not_lt_zero _)⟩, ⟨rfl, rfl, (fun k h => absurd h (by simp)), rfl⟩, KP.z ?_, Or.inl rfl, ⟨⟨rfl, by omega, fun m h => absurd h (Nat.not_lt_zero _)⟩, ⟨rfl, by omega, fun m h => absurd h (Nat.not_lt_zero _)⟩⟩, ⟨⟨rfl, by omega, rfl, fun m h => absurd h (Nat.not_lt_zero _)⟩, ⟨rfl, by omega, rfl, fun m h => absurd h (Nat.not_lt_zero _)⟩, ?_⟩, Or.inl ⟨rfl, rfl⟩⟩
  · have : ∀ q ∈ pk0, lkP pp12 q.1 q.2.1 = some q.2.2 := by decide +kernel
    exact this
  · have : 80 ≤ sk0.length := by decide +kernel
    exact this
  · have : ∀ w, w < 3 → lkI ii12 26 w = nI 0 := by decide +kernel
    exact this
  · have : ∀ w, w < 40 → lkI ii12 72 w = 0 := by decide +kernel
    exact fun k hk => Or.inl (this k hk)
section LWE
variable {p : Program} {lc : Launch} {e : Env} {s : State} {m : MethodId} {below : List Frame} {meth : Method} {c : Code} {bs L : Nat} {xs : Nat → Int32} {D : va_G} {sa : Nat → Nat} {cy : Nat → ClassId} {ce sl pc : Nat} {l : List (Option Value)} {st : List Value} {h : am_H}
set_option maxHeartbeats 4000000 in
theorem lw_begin (hC : lw_X p s m meth c bs L xs D sa cy) (hmem : LMEM p lc e s m below meth c bs L D sa cy) : lw_K p lc e s m below meth c bs D sa cy 0 0 0 [some (.retAddr 4), none, none, none, none, none, none] [] (HL [] [] [] 0) := by
  have hL := hC.2.2.2
  refine K_new hC (k0 := 11) dL_law_0 ok_X11 cl_L_8 it_X11 in_X11 (by decide) (by decide +kernel) ?_
  rw [HL_nw ⟨by decide, by decide⟩]
  refine K_pu hC dL_law_3 rfl ?_
  refine K_cI (vs := []) (r := 0) (N := m_X11_init) hC dL_law_4 (d' := 3) (by decide) (Nat.le_of_ble_eq_true rfl) lk_L_15 mI_X11_init (Nat.le_of_ble_eq_true rfl) (show am_C 3 m_X11_init [.ref 0] (HL ([] ++ [(11, 0)]) [] [] (0 + am_nf 11)) (none, HL (sk0.take 50) ii11 pp11 6406) from c_i11) (by decide +kernel) (by decide +kernel) ?_
  refine K_so hC (v := .ref 0) (x := 1) (nL := 7) rfl dL_law_7 rfl (by decide) ?_
  refine K_new hC (k0 := 12) dL_law_8 ok_X12 cl_L_16 it_X12 in_X12 (by decide +kernel) (by decide +kernel) ?_
  rw [HL_nw ⟨by decide +kernel, by decide +kernel⟩]
  refine K_pu hC dL_law_11 rfl ?_
  refine K_cI (vs := []) (r := 50) (N := m_X12_init) hC dL_law_12 (d' := 1) (by decide) (Nat.le_of_ble_eq_true rfl) lk_L_18 mI_X12_init (Nat.le_of_ble_eq_true rfl) (show am_C 1 m_X12_init [.ref 50] (HL (sk0.take 50 ++ [(12, 0)]) ii11 pp11 (6406 + am_nf 12)) (none, HL (sk0.take 79) ii12 pp12 (((((((((((((((((((((((((((((6406 + am_nf 12) + 160) + 1700) + 1700) + 5) + 5) + 450) + 450) + 450) + 6) + 80) + 49) + 49) + 7) + 8) + 7) + 5040) + 5040) + 20) + 20) + 7) + 40) + 40) + 40) + 7) + 14) + 40) + 40) + 40)) from c_i12 (r := 50) rfl ⟨by decide +kernel, by decide +kernel⟩ (lkI_fr (t := 50) (by decide +kernel) (by decide))) (by decide +kernel) (by decide +kernel) ?_
  refine K_so hC (v := .ref 50) (x := 2) (nL := 7) rfl dL_law_15 rfl (by decide) ?_
  refine K_pu hC dL_law_16 rfl ?_
  refine K_newL hC (N := 1) dL_law_17 (by decide) (by decide) (by decide) wd_long (by decide +kernel) (by decide +kernel) ?_
  rw [HL_nw ⟨by decide +kernel, by decide +kernel⟩]
  refine K_so hC (v := .ref 79) (x := 3) (nL := 7) rfl dL_law_19 rfl (by decide) ?_
  refine K_pu hC dL_law_20 rfl ?_
  refine K_so hC (v := .int (nI 0)) (x := 4) (nL := 7) rfl dL_law_21 rfl (by decide) ?_
  refine K_nl (pc' := 23) (l' := lwl 0 none none) rfl rfl ?_
  refine K_wd (ce' := 80) (sl' := 40000) (by decide +kernel) (by decide +kernel) ?_
  exact lw_go hC hmem 512 0 _ _ _ none none inv0 (by omega) (by omega) (by omega) (by omega)
end LWE
